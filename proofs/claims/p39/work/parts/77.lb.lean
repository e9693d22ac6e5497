/-! ===== the law's own methods ===== -/
theorem kZ.down {A B : Nat → Prop} {s U : State} {H : Heap} {locs : List Loc} (h : kZ A s) (hS : va_S A s.heap H locs) (hU : U.heap = H) (hW : s.WarmedH U.vm) (hAB : ∀ q, B q → A q) : kZ B U := by
  subst hU
  exact ⟨⟨h.1.1.warm hW, h.1.2.warm hW⟩, ((h.2.1.kept hS.2.1).narrow hAB).moved hW.alike, ((h.2.2.kept hS.2.1).narrow hAB).moved hW.alike⟩
theorem kC.same {s U : State} (hv : U.vm = s.vm) (h : kC s) : kC U := fun w hw => by
  rcases xCast_of (xBad_c w hw) with ⟨C, T, rfl⟩ | ⟨x, rfl⟩
  · exact va_Nw.same rfl hv.symm (h _ hw)
  · exact va_Nw.same rfl hv.symm (h _ hw)
theorem kStr.same {s U : State} (hv : U.vm = s.vm) (h : kStr s) : kStr U := fun z hz => by
  obtain ⟨q, hq⟩ := h z hz
  exact ⟨q, hq.same hv⟩
theorem kZ.same {A : Nat → Prop} {s U : State} (hv : U.vm = s.vm) (hh : U.heap = s.heap) (h : kZ A s) : kZ A U := by
  have ha : s.vm.Alike U.vm := by rw [hv]; exact Vm.Alike.refl s.vm
  unfold kZ
  rw [hh]
  exact ⟨⟨h.1.1.same hv, h.1.2.same hv⟩, h.2.1.moved ha, h.2.2.moved ha⟩
theorem kPreX_blind {D : va_G} {tys : List (ClassId × FieldType)} {as : List Value} {Bs : List va_W} {sz : Nat} : FrameBlind (kPreX D tys as Bs sz) := fun a U g mk q => by
  obtain ⟨q0, q1, qP, qK, qD, qN, qZ⟩ := q
  exact ⟨q0, q1, qP, va_K.moved (u := U) (U := U.calling g mk a) (Vm.Alike.refl U.vm) qK, qD, qN.same rfl, kZ.same (s := U) rfl rfl qZ⟩
/-- the script -/
def kS (b L : Nat) (xs : Nat → Int32) (A : Nat → Prop) (U : State) : Prop := va_X b L xs U U.heap ∧ b < U.heap.size ∧ ¬ A b ∧ L ≤ 260
theorem kS.down {b L : Nat} {xs : Nat → Int32} {A B : Nat → Prop} {s U : State} {H : Heap} {locs : List Loc} (h : kS b L xs A s) (hS : va_S A s.heap H locs) (hU : U.heap = H) (hW : s.WarmedH U.vm) (hAB : ∀ q, B q → A q) : kS b L xs B U := by
  obtain ⟨h1, h2, h3, h4⟩ := h
  subst hU
  exact ⟨(h1.kept (hS.2.1 b h2 h3)).moved hW.alike, Nat.lt_of_lt_of_le h2 hS.1, fun q => h3 (hAB b q), h4⟩
theorem kS.same {b L : Nat} {xs : Nat → Int32} {A : Nat → Prop} {s U : State} (hv : U.vm = s.vm) (hh : U.heap = s.heap) (h : kS b L xs A s) : kS b L xs A U := by
  obtain ⟨h1, h2, h3, h4⟩ := h
  have ha : s.vm.Alike U.vm := by rw [hv]; exact Vm.Alike.refl s.vm
  unfold kS
  rw [hh]
  exact ⟨h1.moved ha, h2, h3, h4⟩
def kPreS (b L : Nat) (xs : Nat → Int32) (D : va_G) (tys : List (ClassId × FieldType)) (as : List Value) (Bs : List va_W) (sz : Nat) : Array Value → State → Prop :=
  va_Pc as (fun U => U.heap.size = sz ∧ va_P D vwCl Bs.flatten U.heap ∧ va_K D vwCl tys U ∧ va_D (fun _ => True) Bs.flatten ∧ kN U ∧ kZ (va_A Bs.flatten sz) U ∧ kS b L xs (va_A Bs.flatten sz) U)
theorem kPreS_blind {b L : Nat} {xs : Nat → Int32} {D : va_G} {tys : List (ClassId × FieldType)} {as : List Value} {Bs : List va_W} {sz : Nat} : FrameBlind (kPreS b L xs D tys as Bs sz) := fun a U g mk q => by
  obtain ⟨q0, q1, qP, qK, qD, qN, qZ, qS⟩ := q
  exact ⟨q0, q1, qP, va_K.moved (u := U) (U := U.calling g mk a) (Vm.Alike.refl U.vm) qK, qD, qN.same rfl, kZ.same (s := U) rfl rfl qZ, kS.same (s := U) rfl rfl qS⟩
/-- what a method of the law is: it answers x, with u as P says, and leaves Wf u -/
def Sx (b L : Nat) (xs : Nat → Int32) (l : Launch) (y : MethodName) (ws : List Cond) (rm : Room) (D : va_G) (tys : List (ClassId × FieldType)) (as : List Value) (Bs : List va_W) {U : Type} (P : Int32 → U → Prop) (Wf : U → List va_W) (mc ms : Nat) : Prop :=
  ∀ sz : Nat, Met l y ws rm (kPreS b L xs D tys as Bs sz) (va_Qi P (fun u t => kQ D tys (va_A Bs.flatten sz) (Wf u) t) (va_A Bs.flatten sz)) mc ms (va_A Bs.flatten sz)
def Sv (b L : Nat) (xs : Nat → Int32) (l : Launch) (y : MethodName) (ws : List Cond) (rm : Room) (D : va_G) (tys : List (ClassId × FieldType)) (as : List Value) (Bs : List va_W) {U : Type} (P : U → Prop) (Wf : U → List va_W) (mc ms : Nat) : Prop :=
  ∀ sz : Nat, Met l y ws rm (kPreS b L xs D tys as Bs sz) (va_Qv P (fun u t => kQ D tys (va_A Bs.flatten sz) (Wf u) t) (va_A Bs.flatten sz)) mc ms (va_A Bs.flatten sz)
/-- the same of one that may throw -/
def Sd (b L : Nat) (xs : Nat → Int32) (l : Launch) (y : MethodName) (ws : List Cond) (rm : Room) (D : va_G) (tys : List (ClassId × FieldType)) (as : List Value) (Bs : List va_W) {U : Type} (P : U → Prop) (Wf : U → List va_W) (mc ms : Nat) : Prop :=
  ∀ sz : Nat, vx_Met l y ws rm (kPreS b L xs D tys as Bs sz) (va_Qi (fun _ u => P u) (fun u t => kQ D tys (va_A Bs.flatten sz) (Wf u) t) (va_A Bs.flatten sz)) (vx_X P (fun E u t => E = "java/lang/UnsupportedOperationException" ∧ kQ D tys (va_A Bs.flatten sz) (Wf u) t) (va_A Bs.flatten sz)) mc ms (va_A Bs.flatten sz)
theorem m_s {b L : Nat} {xs : Nat → Int32} {l : Launch} {y : MethodName} {ws ws' : List Cond} {rm : Room} {D : va_G} {tys : List (ClassId × FieldType)} {as : List Value} {Bs : List va_W} {U : Type} {Wf : U → List va_W} {mc ms maxL : Nat} {cc : ByteArray} {ret : Option FieldType} {P : Int32 → U → Prop} (hy : plainName y.cls = true) (hw : ws = Cond.code y cc maxL ret :: ws') (hmx : (lg_sl as).length ≤ maxL)
    (body : ∀ (p : Program) (e : Env) (s : State) (m : MethodId) (below : List Frame) (meth : Method) (c : Code) (A : Nat → Prop) (ls : Array Slot), p.tables.exec = Jvm.exec → c.code = cc → c.maxLocals = maxL → meth.sig.returnType = ret → meth.locks = false → s.vm.findClass y.cls = some m.cls → (∀ w ∈ ws, w.before as.toArray s = true) → kZ A s → kS b L xs A s → kW D tys A s.heap s s.heap [] Bs → lv_has ls maxL (lv_args 0 as) →
      W p l e rm s m as.toArray below meth c s.heap [] 0 0 (MQ below (va_Qi P (fun u t => kQ D tys A (Wf u) t) A) as.toArray s mc ms A) (F0 m 0 ls [])) : Sx b L xs l y ws rm D tys as Bs P Wf mc ms := by
  intro sz
  refine Met.ofW (cc := cc) (maxL := maxL) (ret := ret) hy hw ?_
  intro p e s m args below meth c s₁ B hml hv
  obtain ⟨rfl, hsz, hP, hK, hD0, hN, hZ, hS⟩ := hv
  subst hsz
  rw [lg_entry_eq]
  have hts := atoms_spec (ws := ws) B.pre
  exact body p e s m below meth c _ _ B.exec B.bytes hml B.returns B.notSynchronized (findClass_of_methodNamed B.named) hts hZ hS ⟨hK, hP, hD0.self, va_S.rf, fun q h => Or.inr h, hN⟩ (lv_entry as hmx)
theorem m_sv {b L : Nat} {xs : Nat → Int32} {l : Launch} {y : MethodName} {ws ws' : List Cond} {rm : Room} {D : va_G} {tys : List (ClassId × FieldType)} {as : List Value} {Bs : List va_W} {U : Type} {Wf : U → List va_W} {mc ms maxL : Nat} {cc : ByteArray} {ret : Option FieldType} {P : U → Prop} (hy : plainName y.cls = true) (hw : ws = Cond.code y cc maxL ret :: ws') (hmx : (lg_sl as).length ≤ maxL)
    (body : ∀ (p : Program) (e : Env) (s : State) (m : MethodId) (below : List Frame) (meth : Method) (c : Code) (A : Nat → Prop) (ls : Array Slot), p.tables.exec = Jvm.exec → c.code = cc → c.maxLocals = maxL → meth.sig.returnType = ret → meth.locks = false → s.vm.findClass y.cls = some m.cls → (∀ w ∈ ws, w.before as.toArray s = true) → kZ A s → kS b L xs A s → kW D tys A s.heap s s.heap [] Bs → lv_has ls maxL (lv_args 0 as) →
      W p l e rm s m as.toArray below meth c s.heap [] 0 0 (MQ below (va_Qv P (fun u t => kQ D tys A (Wf u) t) A) as.toArray s mc ms A) (F0 m 0 ls [])) : Sv b L xs l y ws rm D tys as Bs P Wf mc ms := by
  intro sz
  refine Met.ofW (cc := cc) (maxL := maxL) (ret := ret) hy hw ?_
  intro p e s m args below meth c s₁ B hml hv
  obtain ⟨rfl, hsz, hP, hK, hD0, hN, hZ, hS⟩ := hv
  subst hsz
  rw [lg_entry_eq]
  have hts := atoms_spec (ws := ws) B.pre
  exact body p e s m below meth c _ _ B.exec B.bytes hml B.returns B.notSynchronized (findClass_of_methodNamed B.named) hts hZ hS ⟨hK, hP, hD0.self, va_S.rf, fun q h => Or.inr h, hN⟩ (lv_entry as hmx)
theorem m_sd {b L : Nat} {xs : Nat → Int32} {l : Launch} {y : MethodName} {ws ws' : List Cond} {rm : Room} {D : va_G} {tys : List (ClassId × FieldType)} {as : List Value} {Bs : List va_W} {U : Type} {Wf : U → List va_W} {mc ms maxL : Nat} {cc : ByteArray} {ret : Option FieldType} {P : U → Prop} (hy : plainName y.cls = true) (hw : ws = Cond.code y cc maxL ret :: ws') (hmx : (lg_sl as).length ≤ maxL)
    (body : ∀ (p : Program) (e : Env) (s : State) (m : MethodId) (below : List Frame) (meth : Method) (c : Code) (A : Nat → Prop) (ls : Array Slot), p.tables.exec = Jvm.exec → c.code = cc → c.maxLocals = maxL → meth.sig.returnType = ret → meth.locks = false → s.vm.findClass y.cls = some m.cls → (∀ w ∈ ws, w.before as.toArray s = true) → (∀ x ∈ c.exceptionTable.toList, False) → kZ A s → kS b L xs A s → kW D tys A s.heap s s.heap [] Bs → lv_has ls maxL (lv_args 0 as) →
      W p l e rm s m as.toArray below meth c s.heap [] 0 0 (vx_MQ below (va_Qi (fun _ u => P u) (fun u t => kQ D tys A (Wf u) t) A) (vx_X P (fun E u t => E = "java/lang/UnsupportedOperationException" ∧ kQ D tys A (Wf u) t) A) as.toArray s mc ms A) (F0 m 0 ls [])) : Sd b L xs l y ws rm D tys as Bs P Wf mc ms := by
  intro sz
  refine vx_ofW (cc := cc) (maxL := maxL) (ret := ret) hy hw ?_
  intro p e s m args below meth c s₁ B hml hex hv
  obtain ⟨rfl, hsz, hP, hK, hD0, hN, hZ, hS⟩ := hv
  subst hsz
  rw [lg_entry_eq]
  have hts := atoms_spec (ws := ws) B.pre
  exact body p e s m below meth c _ _ B.exec B.bytes hml B.returns B.notSynchronized (findClass_of_methodNamed B.named) hts hex hZ hS ⟨hK, hP, hD0.self, va_S.rf, fun q h => Or.inr h, hN⟩ (lv_entry as hmx)
theorem m_sw {b L : Nat} {xs : Nat → Int32} {l : Launch} {y : MethodName} {ws ws' : List Cond} {rm : Room} {D : va_G} {tys : List (ClassId × FieldType)} {as : List Value} {Bs : List va_W} {U : Type} {Wf : U → List va_W} {mc ms maxL : Nat} {cc : ByteArray} {ret : Option FieldType} {hh : List (Nat × Nat × Nat × Nat)} {P : Int32 → U → Prop} (hy : plainName y.cls = true) (hw : ws = Cond.codeWith y cc maxL ret hh :: ws') (hmx : (lg_sl as).length ≤ maxL)
    (body : ∀ (p : Program) (e : Env) (s : State) (m : MethodId) (below : List Frame) (meth : Method) (c : Code) (A : Nat → Prop) (ls : Array Slot), p.tables.exec = Jvm.exec → c.code = cc → c.maxLocals = maxL → meth.sig.returnType = ret → meth.locks = false → s.vm.findClass y.cls = some m.cls → (∀ w ∈ ws, w.before as.toArray s = true) → c.exceptionTable.toList = tableOf hh → kZ A s → kS b L xs A s → kW D tys A s.heap s s.heap [] Bs → lv_has ls maxL (lv_args 0 as) →
      W p l e rm s m as.toArray below meth c s.heap [] 0 0 (MQ below (va_Qi P (fun u t => kQ D tys A (Wf u) t) A) as.toArray s mc ms A) (F0 m 0 ls [])) : Sx b L xs l y ws rm D tys as Bs P Wf mc ms := by
  intro sz
  refine va_MetW (cc := cc) (maxL := maxL) (ret := ret) (hh := hh) hy hw ?_
  intro p e s m args below meth c s₁ B hml hv
  obtain ⟨rfl, hsz, hP, hK, hD0, hN, hZ, hS⟩ := hv
  subst hsz
  rw [lg_entry_eq]
  have hts := atoms_spec (ws := ws) B.pre
  exact body p e s m below meth c _ _ B.exec B.bytes hml B.returns B.notSynchronized (findClass_of_methodNamed B.named) hts (vx_table (x := y) B (hts _ (by rw [hw]; exact List.mem_cons_self))) hZ hS ⟨hK, hP, hD0.self, va_S.rf, fun q h => Or.inr h, hN⟩ (lv_entry as hmx)
section KBL1
variable {p : Program} {l : Launch} {e : Env} {R : Room} {s : State} {m : MethodId} {args : Array Value} {below : List Frame} {meth : Method} {c : Code} {H : Heap} {locs : List Loc} {cells slots : Nat} {Q : State → Prop}
variable {b9 L9 : Nat} {xs : Nat → Int32} {U : Type} {Wf : U → List va_W} {cc : ByteArray} {pc : Nat} {ls : Array Slot} {rest st : List Value} {D : va_G} {A : Nat → Prop} {a : Nat} {tys : List (ClassId × FieldType)} {Bs : List va_W} {H0 : Heap}
variable {y : MethodName} {bytes : ByteArray} {maxL nL mc ms n index : Nat} {ret : Option FieldType} {wsy Ts : List Cond} {rm : Room} {own C : String} {b : Nat} {As : List Value} {Cs Cs1 Cs2 Rs Bs1 Bs2 : List va_W} {ok : Prop} {E : String} 
theorem e_s {P : Int32 → U → Prop} {v : Int32} (hexec : p.tables.exec = Jvm.exec) (hb : c.code = cc) (hr : meth.sig.returnType = some .int) (hlocks : meth.locks = false) (w : kW D tys A s.heap s H locs Bs) (u : U) (hu : P v u) (hB : Bs = Wf u) (hdg : decode cc pc = .ok (.ireturn, 1)) (hc : cells ≤ mc) (hs : slots ≤ ms) :
    W p l e R s m args below meth c H locs cells slots (MQ below (va_Qi P (fun u t => kQ D tys A (Wf u) t) A) args s mc ms A) (F0 m pc ls [.int v]) := by
  subst hB
  refine W.widen hc hs ?_
  exact W.iret (v := v) hexec hb hr (fun t ht hW => ⟨⟨v, u, rfl, hu, ⟨by rw [ht]; exact w.2.1, va_K.moved hW.alike w.1, w.2.2.1⟩⟩, w.2.2.2.1.F ht⟩) w.2.2.2.1.2.2 hdg hlocks
theorem e_sv {P : U → Prop} (hexec : p.tables.exec = Jvm.exec) (hb : c.code = cc) (hr : meth.sig.returnType = none) (hlocks : meth.locks = false) (w : kW D tys A s.heap s H locs Bs) (u : U) (hu : P u) (hB : Bs = Wf u) (hdg : decode cc pc = .ok (.return_, 1)) (hc : cells ≤ mc) (hs : slots ≤ ms) :
    W p l e R s m args below meth c H locs cells slots (MQ below (va_Qv P (fun u t => kQ D tys A (Wf u) t) A) args s mc ms A) (F0 m pc ls []) := by
  subst hB
  refine W.widen hc hs ?_
  exact W.vret hexec hb hr (fun t ht hW => ⟨⟨u, rfl, hu, ⟨by rw [ht]; exact w.2.1, va_K.moved hW.alike w.1, w.2.2.1⟩⟩, w.2.2.2.1.F ht⟩) w.2.2.2.1.2.2 hdg hlocks
/-- what is thrown lies in the heap -/
def l_thr (E : String) (s : State) (q9 : Nat) (H1 : Heap) : Prop := ∃ ce : Cell, H1[q9]? = some ce ∧ ce.vm = .none ∧ s.vm.findClass E = some ce.cls
theorem e_sx {P : U → Prop} {Qc : Array Value → State → Outcome → State → Prop} {q9 : Nat} (hex : ∀ x ∈ c.exceptionTable.toList, False) (hlocks : meth.locks = false) (w : kW D tys A s.heap s H locs Bs) (hth : l_thr E s q9 H) (u : U) (hu : P u) (hB : Bs = Wf u) (hc : cells ≤ mc) (hs : slots ≤ ms) :
    vx_W p l e R s m args below meth c H locs cells slots (vx_MQ below Qc (vx_X P (fun E' u t => E' = E ∧ kQ D tys A (Wf u) t) A) args s mc ms A) (F0 m pc ls rest) q9 := by
  subst hB
  obtain ⟨ce, h1, h2, h3⟩ := hth
  exact vx_out (fun x hx => (hex x hx).elim) hlocks h1 h2 h3 (fun t ht hW => ⟨u, hu, ⟨rfl, by rw [ht]; exact w.2.1, va_K.moved hW w.1, w.2.2.1⟩, w.2.2.2.1.F ht⟩) w.2.2.2.1.2.2 hc hs
theorem l_split (w : kW D tys A H0 s H locs (Cs ++ Rs)) : va_P D vwCl (Cs.flatten ++ Rs.flatten) H ∧ va_D A (Cs.flatten ++ Rs.flatten) ∧ va_P D vwCl Cs.flatten H ∧ va_D (fun _ => True) Cs.flatten ∧ ∀ q, va_A Cs.flatten H.size q → A q := by
  obtain ⟨hK, hP, hD, hS, hA, hN⟩ := w
  rw [List.flatten_append] at hP hD
  have up : ∀ (k : Nat) (q : Nat × va_E), Cs.flatten[k]? = some q → (Cs.flatten ++ Rs.flatten)[k]? = some q := fun k q hk => by
    rw [List.getElem?_append_left (List.getElem?_eq_some_iff.mp hk).1]; exact hk
  refine ⟨hP, hD, fun k q hk => hP k q (up k q hk), ⟨fun i j p q hi hj h => hD.1 i j p q (up i p hi) (up j q hj) h, fun _ _ _ => trivial⟩, fun q h => ?_⟩
  rcases h with ⟨k, e, h⟩ | h
  · exact hD.2 k (q, e) (up k _ h)
  · exact hA q (Nat.le_trans hS.1 h)
theorem l_cS {P : Int32 → U → Prop} (S : CallFix p m c cc nL s args Ts own) (hz : kZ A s) (hs9 : kS b9 L9 xs A s) (w : kW D tys A s.heap s H locs (Cs ++ Rs)) (hM : Sx b9 L9 xs l y wsy rm D tys As Cs P Wf mc ms) (cw : CallB R s args own index y bytes maxL ret wsy rm mc ms n ∧ (Cond.static y).before args s = true)
    (hn : As.length = n) (hsize : ls.size = nL) (hst : st = As.reverse ++ rest) (hcat : (rest.map fun v => v.category).sum ≤ 8) (hdg : decode cc pc = .ok (.invokestatic index, 3)) (hf : cells + mc ≤ R.cells ∧ slots + ms ≤ R.slots)
    (kk : ∀ (r : Int32) (u : U) (H1 : Heap) (locs1 : List Loc), P r u → kW D tys A s.heap s H1 locs1 (Wf u ++ Rs) → W p l e R s m args below meth c H1 locs1 (cells + mc) (slots + ms) Q (F0 m (pc + 3) ls (.int r :: rest))) : W p l e R s m args below meth c H locs cells slots Q (F0 m pc ls st) := by
  obtain ⟨hP1, hD1, hPc, hDc, hFc⟩ := l_split w
  refine va_calli (va_runS (As := As) (rest := rest) S (hM H.size) cw ⟨kPreS_blind, fun U hU hW => ⟨rfl, by rw [hU], by rw [hU]; exact hPc, va_K.moved hW.alike w.1, hDc, w.2.2.2.2.2.warm hW, hz.down w.2.2.2.1 hU hW hFc, hs9.down w.2.2.2.1 hU hW hFc⟩⟩ rfl hn hsize hst (lv_room hcat) hdg hf) w.2.2.2.1 (fun q _ h => hFc q h) hFc (fun r1 u t H1 locs1 ht hvm hw hB1 hz1 hk1 hS1 => ?_)
  obtain ⟨hP2, hK2, hD2⟩ := hB1
  rw [ht] at hP2
  obtain ⟨hP3, hD3⟩ := k_join hP1 hD1 hk1 hFc hP2 hD2
  exact kk r1 u H1 locs1 hw ⟨w.1, by rw [List.flatten_append]; exact hP3, by rw [List.flatten_append]; exact hD3, hS1, w.2.2.2.2⟩
theorem l_cSW {P : Int32 → U → Prop} {hh : List (Nat × Nat × Nat × Nat)} (S : CallFix p m c cc nL s args Ts own) (hz : kZ A s) (hs9 : kS b9 L9 xs A s) (w : kW D tys A s.heap s H locs (Cs ++ Rs)) (hM : Sx b9 L9 xs l y wsy rm D tys As Cs P Wf mc ms) (cw : vx_CSW R s args own index y bytes maxL ret hh wsy rm mc ms n)
    (hn : As.length = n) (hsize : ls.size = nL) (hst : st = As.reverse ++ rest) (hcat : (rest.map fun v => v.category).sum ≤ 8) (hdg : decode cc pc = .ok (.invokestatic index, 3)) (hf : cells + mc ≤ R.cells ∧ slots + ms ≤ R.slots)
    (kk : ∀ (r : Int32) (u : U) (H1 : Heap) (locs1 : List Loc), P r u → kW D tys A s.heap s H1 locs1 (Wf u ++ Rs) → W p l e R s m args below meth c H1 locs1 (cells + mc) (slots + ms) Q (F0 m (pc + 3) ls (.int r :: rest))) : W p l e R s m args below meth c H locs cells slots Q (F0 m pc ls st) := by
  obtain ⟨hP1, hD1, hPc, hDc, hFc⟩ := l_split w
  refine va_calli (vx_runSW (As := As) (rest := rest) S (hM H.size) cw ⟨kPreS_blind, fun U hU hW => ⟨rfl, by rw [hU], by rw [hU]; exact hPc, va_K.moved hW.alike w.1, hDc, w.2.2.2.2.2.warm hW, hz.down w.2.2.2.1 hU hW hFc, hs9.down w.2.2.2.1 hU hW hFc⟩⟩ rfl hn hsize hst (lv_room hcat) hdg hf) w.2.2.2.1 (fun q _ h => hFc q h) hFc (fun r1 u t H1 locs1 ht hvm hw hB1 hz1 hk1 hS1 => ?_)
  obtain ⟨hP2, hK2, hD2⟩ := hB1
  rw [ht] at hP2
  obtain ⟨hP3, hD3⟩ := k_join hP1 hD1 hk1 hFc hP2 hD2
  exact kk r1 u H1 locs1 hw ⟨w.1, by rw [List.flatten_append]; exact hP3, by rw [List.flatten_append]; exact hD3, hS1, w.2.2.2.2⟩
theorem l_cSv {P : U → Prop} (S : CallFix p m c cc nL s args Ts own) (hz : kZ A s) (hs9 : kS b9 L9 xs A s) (w : kW D tys A s.heap s H locs (Cs ++ Rs)) (hM : Sv b9 L9 xs l y wsy rm D tys As Cs P Wf mc ms) (cw : CallB R s args own index y bytes maxL ret wsy rm mc ms n ∧ (Cond.static y).before args s = true)
    (hn : As.length = n) (hsize : ls.size = nL) (hst : st = As.reverse ++ rest) (hcat : (rest.map fun v => v.category).sum ≤ 8) (hdg : decode cc pc = .ok (.invokestatic index, 3)) (hf : cells + mc ≤ R.cells ∧ slots + ms ≤ R.slots)
    (kk : ∀ (u : U) (H1 : Heap) (locs1 : List Loc), P u → kW D tys A s.heap s H1 locs1 (Wf u ++ Rs) → W p l e R s m args below meth c H1 locs1 (cells + mc) (slots + ms) Q (F0 m (pc + 3) ls rest)) : W p l e R s m args below meth c H locs cells slots Q (F0 m pc ls st) := by
  obtain ⟨hP1, hD1, hPc, hDc, hFc⟩ := l_split w
  refine va_callv (va_runS (As := As) (rest := rest) S (hM H.size) cw ⟨kPreS_blind, fun U hU hW => ⟨rfl, by rw [hU], by rw [hU]; exact hPc, va_K.moved hW.alike w.1, hDc, w.2.2.2.2.2.warm hW, hz.down w.2.2.2.1 hU hW hFc, hs9.down w.2.2.2.1 hU hW hFc⟩⟩ rfl hn hsize hst (lv_room hcat) hdg hf) w.2.2.2.1 (fun q _ h => hFc q h) hFc (fun u t H1 locs1 ht hvm hw hB1 hz1 hk1 hS1 => ?_)
  obtain ⟨hP2, hK2, hD2⟩ := hB1
  rw [ht] at hP2
  obtain ⟨hP3, hD3⟩ := k_join hP1 hD1 hk1 hFc hP2 hD2
  exact kk u H1 locs1 hw ⟨w.1, by rw [List.flatten_append]; exact hP3, by rw [List.flatten_append]; exact hD3, hS1, w.2.2.2.2⟩
theorem l_cSd {P : U → Prop} (S : CallFix p m c cc nL s args Ts own) (hz : kZ A s) (hs9 : kS b9 L9 xs A s) (w : kW D tys A s.heap s H locs (Cs ++ Rs)) (hM : Sd b9 L9 xs l y wsy rm D tys As Cs P Wf mc ms) (cw : CallB R s args own index y bytes maxL ret wsy rm mc ms n ∧ (Cond.static y).before args s = true)
    (hn : As.length = n) (hsize : ls.size = nL) (hst : st = As.reverse ++ rest) (hcat : (rest.map fun v => v.category).sum ≤ 8) (hdg : decode cc pc = .ok (.invokestatic index, 3)) (hf : cells + mc ≤ R.cells ∧ slots + ms ≤ R.slots)
    (kx : ∀ (u : U) (q9 : Nat) (H1 : Heap) (locs1 : List Loc), P u → l_thr "java/lang/UnsupportedOperationException" s q9 H1 → kW D tys A s.heap s H1 locs1 (Wf u ++ Rs) → vx_W p l e R s m args below meth c H1 locs1 (cells + mc) (slots + ms) Q (F0 m pc ls rest) q9)
    (kk : ∀ (r : Int32) (u : U) (H1 : Heap) (locs1 : List Loc), P u → kW D tys A s.heap s H1 locs1 (Wf u ++ Rs) → W p l e R s m args below meth c H1 locs1 (cells + mc) (slots + ms) Q (F0 m (pc + 3) ls (.int r :: rest))) : W p l e R s m args below meth c H locs cells slots Q (F0 m pc ls st) := by
  obtain ⟨hP1, hD1, hPc, hDc, hFc⟩ := l_split w
  refine vx_calli (vx_runS (As := As) (rest := rest) S (hM H.size) cw ⟨kPreS_blind, fun U hU hW => ⟨rfl, by rw [hU], by rw [hU]; exact hPc, va_K.moved hW.alike w.1, hDc, w.2.2.2.2.2.warm hW, hz.down w.2.2.2.1 hU hW hFc, hs9.down w.2.2.2.1 hU hW hFc⟩⟩ rfl hn hsize hst (lv_room hcat) hdg hf) w.2.2.2.1 (fun q _ h => hFc q h) hFc (fun q _ h => hFc q h) (fun E1 ce q9 u t H1 locs1 ht hvm hw hB1 hz1 hk1 hS1 hce hcv hcl => ?_) (fun r1 u t H1 locs1 ht hvm hw hB1 hz1 hk1 hS1 => ?_)
  · obtain ⟨rfl, hP2, hK2, hD2⟩ := hB1
    rw [ht] at hP2
    obtain ⟨hP3, hD3⟩ := k_join hP1 hD1 hk1 hFc hP2 hD2
    exact kx u q9 H1 locs1 hw ⟨ce, hce, hcv, hcl⟩ ⟨w.1, by rw [List.flatten_append]; exact hP3, by rw [List.flatten_append]; exact hD3, hS1, w.2.2.2.2⟩
  · obtain ⟨hP2, hK2, hD2⟩ := hB1
    rw [ht] at hP2
    obtain ⟨hP3, hD3⟩ := k_join hP1 hD1 hk1 hFc hP2 hD2
    exact kk r1 u H1 locs1 hw ⟨w.1, by rw [List.flatten_append]; exact hP3, by rw [List.flatten_append]; exact hD3, hS1, w.2.2.2.2⟩
/-- a change of the class that may be refused -/
theorem l_cX (S : CallFix p m c cc nL s args Ts own) (hz : kZ A s) (w : kW D tys A s.heap s H locs (Cs ++ Rs)) {r : Int32} (hM : Xi l y wsy rm D tys (.ref b :: As) Cs ok Cs1 r E Cs2 mc ms) (cw : CallW R s args own C index y bytes maxL ret wsy rm mc ms n)
    {B0 : va_W} {ci : Nat} {fs : List Value} {q : vw_C} (i0 : Nat) (hB : (Cs ++ Rs)[i0]? = some B0) (hx : B0[0]? = some (b, .inr (ci, fs))) (hc : vwCl[ci]? = some q) (hq : q.1 = C)
    (hn : As.length = n) (hsize : ls.size = nL) (hst : st = As.reverse ++ .ref b :: rest) (hcat : (rest.map fun v => v.category).sum ≤ 8) (hdg : decode cc pc = .ok (.invokevirtual index, 3)) (hf : cells + mc ≤ R.cells ∧ slots + ms ≤ R.slots)
    (kx : ∀ (q9 : Nat) (H1 : Heap) (locs1 : List Loc), ¬ ok → l_thr E s q9 H1 → kW D tys A s.heap s H1 locs1 (Cs2 ++ Rs) → vx_W p l e R s m args below meth c H1 locs1 (cells + mc) (slots + ms) Q (F0 m pc ls rest) q9)
    (kk : ∀ (H1 : Heap) (locs1 : List Loc), ok → kW D tys A s.heap s H1 locs1 (Cs1 ++ Rs) → W p l e R s m args below meth c H1 locs1 (cells + mc) (slots + ms) Q (F0 m (pc + 3) ls (.int r :: rest))) : W p l e R s m args below meth c H locs cells slots Q (F0 m pc ls st) := by
  obtain ⟨hP1, hD1, hPc, hDc, hFc⟩ := l_split w
  refine vx_calli (vx_runV (As := As) (rest := rest) S (hM H.size) cw ⟨kPreX_blind, k_recv w i0 hB hx hc hq, fun U hU hW => ⟨rfl, by rw [hU], by rw [hU]; exact hPc, va_K.moved hW.alike w.1, hDc, w.2.2.2.2.2.warm hW, hz.down w.2.2.2.1 hU hW hFc⟩⟩ rfl hn hsize hst (lv_room hcat) hdg hf) w.2.2.2.1 (fun q _ h => hFc q h) hFc (fun q _ h => hFc q h) (fun E1 ce q9 u t H1 locs1 ht hvm hw hB1 hz1 hk1 hS1 hce hcv hcl => ?_) (fun r1 u t H1 locs1 ht hvm hw hB1 hz1 hk1 hS1 => ?_)
  · obtain ⟨rfl, hP2, hK2, hD2⟩ := hB1
    rw [ht] at hP2
    obtain ⟨hP3, hD3⟩ := k_join hP1 hD1 hk1 hFc hP2 hD2
    exact kx q9 H1 locs1 hw ⟨ce, hce, hcv, hcl⟩ ⟨w.1, by rw [List.flatten_append]; exact hP3, by rw [List.flatten_append]; exact hD3, hS1, w.2.2.2.2⟩
  · obtain ⟨hP2, hK2, hD2⟩ := hB1
    rw [ht] at hP2
    obtain ⟨hok, rfl⟩ := hw
    obtain ⟨hP3, hD3⟩ := k_join hP1 hD1 hk1 hFc hP2 hD2
    exact kk H1 locs1 hok ⟨w.1, by rw [List.flatten_append]; exact hP3, by rw [List.flatten_append]; exact hD3, hS1, w.2.2.2.2⟩
/-- caught by the first row -/
theorem l_c1 {name : String} {s0 e0 h0 t0 : Nat} {suf : List (Nat × Nat × Nat × Nat)} {q9 : Nat} (hown : s.vm.findClass own = some m.cls) (htab : c.exceptionTable.toList = tableOf ((s0, e0, h0, t0) :: suf)) (hx : covers ⟨s0, e0, h0, t0⟩ pc = true) (ht : t0 ≠ 0) (hlink : (Cond.classLink own t0 name).before args s = true) (hcast : (Cond.castable E name).before args s = true) (hth : l_thr E s q9 H)
    (kk : W p l e R s m args below meth c H locs cells slots Q (F0 m h0 ls [.ref q9])) : vx_W p l e R s m args below meth c H locs cells slots Q (F0 m pc ls rest) q9 := by
  obtain ⟨ce, h1, h2, h3⟩ := hth
  exact vx_catch hown [] ⟨s0, e0, h0, t0⟩ (tableOf suf) htab (fun z hz => nomatch hz) hx ht hlink hcast h1 h2 h3 kk
theorem r_slen (hexec : p.tables.exec = Jvm.exec) (hb : c.code = cc) (hs9 : kS b9 L9 xs A s) (w : kW D tys A s.heap s H locs Bs) (hdg : decode cc pc = .ok (.arraylength, 1))
    (kk : W p l e R s m args below meth c H locs cells slots Q (F0 m (pc + 1) ls (.int (nI L9) :: rest))) : W p l e R s m args below meth c H locs cells slots Q (F0 m pc ls (.ref b9 :: rest)) :=
  va_slen hexec hb hs9.1 hs9.2.1 hs9.2.2.1 w.2.2.2.1 hdg kk
end KBL1
