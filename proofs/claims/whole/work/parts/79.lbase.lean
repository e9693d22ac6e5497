/-! ===== the law's wrappers ===== -/
def lkW : List Cond := [.classLink RL 47 "java/lang/IllegalArgumentException", .classLink RL 73 "java/util/NoSuchElementException", .classLink RL 13 "java/lang/UnsupportedOperationException", .classLink RL 107 "java/lang/ArithmeticException"]
theorem lkW_good : GoodIn lkW lkW := goodIn_sub (fun _ h => h) (by decide +kernel)
def kLk (U : State) : Prop := ∀ w ∈ lkW, w.before #[] U = true
theorem kLk.warm {s U : State} (hW : s.WarmedH U.vm) (h : kLk s) : kLk U := fun w hw => pay_in h lkW_good w hw #[] U hW
theorem kLk.use {s : State} {args : Array Value} (h : kLk s) (i : Nat) {w : Cond} (hi : lkW[i]? = some w) : w.before args s = true := pay_in h lkW_good w (List.mem_of_getElem? hi) args s (State.WarmedH.refl s)
def kNc (U : State) : Prop := kLk U ∧ va_Nc "java/lang/IllegalArgumentException" "java/lang/IndexOutOfBoundsException" U ∧ va_Nc "java/util/NoSuchElementException" "java/lang/IndexOutOfBoundsException" U ∧ va_Nc "java/util/NoSuchElementException" "java/lang/IllegalArgumentException" U ∧ va_Nc "java/lang/UnsupportedOperationException" "java/lang/IllegalArgumentException" U ∧ va_Nc "java/lang/ArithmeticException" "java/lang/IndexOutOfBoundsException" U
theorem kNc.warm {s U : State} (hW : s.WarmedH U.vm) (h : kNc s) : kNc U := ⟨h.1.warm hW, h.2.1.moved hW.alike, h.2.2.1.moved hW.alike, h.2.2.2.1.moved hW.alike, h.2.2.2.2.1.moved hW.alike, h.2.2.2.2.2.moved hW.alike⟩
theorem kZ.down {A B : Nat → Prop} {s U : State} {H : Heap} {locs : List Loc} (h : kZ A s) (hS : va_S A s.heap H locs) (hU : U.heap = H) (hW : s.WarmedH U.vm) (hAB : ∀ q, B q → A q) : kZ B U := by
  subst hU
  exact ⟨⟨h.1.1.warm hW, h.1.2.warm hW⟩, ((h.2.1.kept hS.2.1).narrow hAB).moved hW.alike, ((h.2.2.kept hS.2.1).narrow hAB).moved hW.alike⟩
theorem kC.same {s U : State} (hv : U.vm = s.vm) (h : kC s) : kC U := fun w hw => by
  rcases xCast_of (xBad_c w hw) with ⟨C, T, rfl⟩ | ⟨x, rfl⟩
  · exact va_Nw.same rfl hv.symm (h _ hw)
  · exact va_Nw.same rfl hv.symm (h _ hw)
theorem kStr.same {s U : State} (hv : U.vm = s.vm) (h : kStr s) : kStr U := fun z hz => by
  obtain ⟨q, hq⟩ := h z hz
  exact ⟨q, hq.same hv⟩
theorem kZ.same {A : Nat → Prop} {s U : State} (hv : U.vm = s.vm) (hh : U.heap = s.heap) (h : kZ A s) : kZ A U := by
  have ha : s.vm.Alike U.vm := by rw [hv]; exact Vm.Alike.refl s.vm
  unfold kZ
  rw [hh]
  exact ⟨⟨h.1.1.same hv, h.1.2.same hv⟩, h.2.1.moved ha, h.2.2.moved ha⟩
def kPreL (J : Nat → Nat) (D : va_G) (tys : List (ClassId × FieldType)) (as : List Value) (Bs : List va_W) (sz : Nat) : Array Value → State → Prop :=
  va_Pc as (fun U => U.heap.size = sz ∧ va_P D vwCl Bs.flatten U.heap ∧ va_K D vwCl tys U ∧ va_D (fun _ => True) Bs.flatten ∧ kN U ∧ kNc U ∧ kZ (va_A Bs.flatten sz) U ∧ kJ J (va_A Bs.flatten sz) U)
theorem kPreL_blind {J : Nat → Nat} {D : va_G} {tys : List (ClassId × FieldType)} {as : List Value} {Bs : List va_W} {sz : Nat} : FrameBlind (kPreL J D tys as Bs sz) := fun a U g mk q => by
  obtain ⟨q0, q1, qP, qK, qD, qN, qC, qZ, qJ⟩ := q
  exact ⟨q0, q1, qP, va_K.moved (u := U) (U := U.calling g mk a) (Vm.Alike.refl U.vm) qK, qD, qN.same rfl, kNc.warm (s := U) (U := U.calling g mk a) (State.WarmedH.refl U) qC, kZ.same (s := U) rfl rfl qZ, qJ.same rfl rfl⟩
theorem kPreX_blind {D : va_G} {tys : List (ClassId × FieldType)} {as : List Value} {Bs : List va_W} {sz : Nat} : FrameBlind (kPreX D tys as Bs sz) := fun a U g mk q => by
  obtain ⟨q0, q1, qP, qK, qD, qN, qZ⟩ := q
  exact ⟨q0, q1, qP, va_K.moved (u := U) (U := U.calling g mk a) (Vm.Alike.refl U.vm) qK, qD, qN.same rfl, kZ.same (s := U) rfl rfl qZ⟩
theorem kPreXJ_blind {J : Nat → Nat} {D : va_G} {tys : List (ClassId × FieldType)} {as : List Value} {Bs : List va_W} {sz : Nat} : FrameBlind (kPreXJ J D tys as Bs sz) := fun a U g mk q => by
  obtain ⟨q0, q1, qP, qK, qD, qN, qZ, qJ⟩ := q
  exact ⟨q0, q1, qP, va_K.moved (u := U) (U := U.calling g mk a) (Vm.Alike.refl U.vm) qK, qD, qN.same rfl, kZ.same (s := U) rfl rfl qZ, qJ.same rfl rfl⟩
/-- a wrapper: 0 and what is left where ok, else k and what is left then -/
def Lx (J : Nat → Nat) (l : Launch) (y : MethodName) (ws : List Cond) (rm : Room) (D : va_G) (tys : List (ClassId × FieldType)) (as : List Value) (Bs : List va_W) (ok : Prop) (Bs1 Bs2 : List va_W) (k : Int32) (mc ms : Nat) : Prop :=
  ∀ sz : Nat, Met l y ws rm (kPreL J D tys as Bs sz) (va_Qi (fun (x : Int32) (u : Bool) => (u = true ∧ ok ∧ x = 0) ∨ (u = false ∧ ¬ ok ∧ x = k)) (fun u t => kQ D tys (va_A Bs.flatten sz) (bif u then Bs1 else Bs2) t) (va_A Bs.flatten sz)) mc ms (va_A Bs.flatten sz)
theorem m_lx {J : Nat → Nat} {l : Launch} {y : MethodName} {ws ws' : List Cond} {rm : Room} {D : va_G} {tys : List (ClassId × FieldType)} {as : List Value} {Bs Bs1 Bs2 : List va_W} {ok : Prop} {k : Int32} {mc ms maxL : Nat} {cc : ByteArray} {ret : Option FieldType} {hh : List (Nat × Nat × Nat × Nat)} (hy : plainName y.cls = true) (hw : ws = Cond.codeWith y cc maxL ret hh :: ws') (hmx : (lg_sl as).length ≤ maxL)
    (body : ∀ (p : Program) (e : Env) (s : State) (m : MethodId) (below : List Frame) (meth : Method) (c : Code) (A : Nat → Prop) (ls : Array Slot), p.tables.exec = Jvm.exec → c.code = cc → c.maxLocals = maxL → meth.sig.returnType = ret → meth.locks = false → s.vm.findClass y.cls = some m.cls → (∀ w ∈ ws, w.before as.toArray s = true) → c.exceptionTable.toList = tableOf hh → kNc s → kZ A s → kJ J A s → kW D tys A s.heap s s.heap [] Bs → lv_has ls maxL (lv_args 0 as) →
      W p l e rm s m as.toArray below meth c s.heap [] 0 0 (MQ below (va_Qi (fun (x : Int32) (u : Bool) => (u = true ∧ ok ∧ x = 0) ∨ (u = false ∧ ¬ ok ∧ x = k)) (fun u t => kQ D tys A (bif u then Bs1 else Bs2) t) A) as.toArray s mc ms A) (F0 m 0 ls [])) : Lx J l y ws rm D tys as Bs ok Bs1 Bs2 k mc ms := by
  intro sz
  refine va_MetW (cc := cc) (maxL := maxL) (ret := ret) (hh := hh) hy hw ?_
  intro p e s m args below meth c s₁ B hml hv
  obtain ⟨rfl, hsz, hP, hK, hD0, hN, hC, hZ, hJ⟩ := hv
  subst hsz
  rw [lg_entry_eq]
  have hts := atoms_spec (ws := ws) B.pre
  exact body p e s m below meth c _ _ B.exec B.bytes hml B.returns B.notSynchronized (findClass_of_methodNamed B.named) hts (vx_table (x := y) B (hts _ (by rw [hw]; exact List.mem_cons_self))) hC hZ hJ ⟨hK, hP, hD0.self, va_S.rf, fun q h => Or.inr h, hN⟩ (lv_entry as hmx)
section KBL1
variable {p : Program} {l : Launch} {e : Env} {R : Room} {s : State} {m : MethodId} {args : Array Value} {below : List Frame} {meth : Method} {c : Code} {H : Heap} {locs : List Loc} {cells slots : Nat} {Q : State → Prop}
variable {J : Nat → Nat} {cc : ByteArray} {pc : Nat} {ls : Array Slot} {rest st : List Value} {D : va_G} {A : Nat → Prop} {a : Nat} {tys : List (ClassId × FieldType)} {Bs : List va_W} {H0 : Heap}
variable {y : MethodName} {bytes : ByteArray} {maxL nL mc ms n index : Nat} {ret : Option FieldType} {wsy Ts : List Cond} {rm : Room} {own C : String} {b : Nat} {As : List Value} {Cs Cs1 Cs2 Rs Bs1 Bs2 : List va_W} {ok : Prop} {k : Int32} {E : String} 
theorem l_end (u : Bool) {v : Int32} (hexec : p.tables.exec = Jvm.exec) (hb : c.code = cc) (hr : meth.sig.returnType = some .int) (hlocks : meth.locks = false) (w : kW D tys A s.heap s H locs (bif u then Bs1 else Bs2)) (hv : (u = true ∧ ok ∧ v = 0) ∨ (u = false ∧ ¬ ok ∧ v = k)) (hdg : decode cc pc = .ok (.ireturn, 1)) (hc : cells ≤ mc) (hs : slots ≤ ms) :
    W p l e R s m args below meth c H locs cells slots (MQ below (va_Qi (fun (x : Int32) (u : Bool) => (u = true ∧ ok ∧ x = 0) ∨ (u = false ∧ ¬ ok ∧ x = k)) (fun u t => kQ D tys A (bif u then Bs1 else Bs2) t) A) args s mc ms A) (F0 m pc ls [.int v]) := by
  refine W.widen hc hs ?_
  exact W.iret (v := v) hexec hb hr (fun t ht hW => ⟨⟨v, u, rfl, hv, ⟨by rw [ht]; exact w.2.1, va_K.moved hW.alike w.1, w.2.2.1⟩⟩, w.2.2.2.1.F ht⟩) w.2.2.2.1.2.2 hdg hlocks
/-- what is thrown lies in the heap -/
def l_thr (E : String) (s : State) (q9 : Nat) (H1 : Heap) : Prop := ∃ ce : Cell, H1[q9]? = some ce ∧ ce.vm = .none ∧ s.vm.findClass E = some ce.cls
theorem xc_i {r : Int32} (S : CallFix p m c cc nL s args Ts own) (hz : kZ A s) (hj : kJ J A s) (w : kW D tys A s.heap s H locs Bs) (hM : Xi l y wsy rm D tys (.ref b :: As) Cs ok Cs1 r E Cs2 mc ms) (cw : CallW R s args own C index y bytes maxL ret wsy rm mc ms n) (is : List Nat) {nB : Nat} (hp : is.Perm (List.range nB)) (hlen0 : Bs.length = nB) (he : is.filterMap (fun i => Bs[i]?) = Cs ++ Rs)
    {B0 : va_W} {ci : Nat} {fs : List Value} {q : vw_C} (i0 : Nat) (hB : Bs[i0]? = some B0) (hx : B0[0]? = some (b, .inr (ci, fs))) (hc : vwCl[ci]? = some q) (hq : q.1 = C)
    (hn : As.length = n) (hsize : ls.size = nL) (hst : st = As.reverse ++ .ref b :: rest) (hcat : (rest.map fun v => v.category).sum ≤ 8) (hdg : decode cc pc = .ok (.invokevirtual index, 3)) (hf : cells + mc ≤ R.cells ∧ slots + ms ≤ R.slots)
    (kx : ∀ (q9 : Nat) (H1 : Heap) (locs1 : List Loc), ¬ ok → l_thr E s q9 H1 → kW D tys A s.heap s H1 locs1 (Cs2 ++ Rs) → vx_W p l e R s m args below meth c H1 locs1 (cells + mc) (slots + ms) Q (F0 m pc ls rest) q9)
    (kk : ∀ (H1 : Heap) (locs1 : List Loc), ok → kW D tys A s.heap s H1 locs1 (Cs1 ++ Rs) → W p l e R s m args below meth c H1 locs1 (cells + mc) (slots + ms) Q (F0 m (pc + 3) ls (.int r :: rest))) : W p l e R s m args below meth c H locs cells slots Q (F0 m pc ls st) := by
  obtain ⟨hP1, hD1, hPc, hDc, hFc⟩ := k_split w (by rw [hlen0]; exact hp) he
  refine vx_calli (vx_runV (As := As) (rest := rest) S (hM H.size) cw ⟨kPreX_blind, k_recv w i0 hB hx hc hq, fun U hU hW => ⟨rfl, by rw [hU], by rw [hU]; exact hPc, va_K.moved hW.alike w.1, hDc, w.2.2.2.2.2.warm hW, hz.down w.2.2.2.1 hU hW hFc⟩⟩ rfl hn hsize hst (lv_room hcat) hdg hf) w.2.2.2.1 (fun q _ h => hFc q h) hFc (fun q _ h => hFc q h) (fun E1 ce q9 u t H1 locs1 ht hvm hw hB1 hz1 hk1 hS1 hce hcv hcl => ?_) (fun r1 u t H1 locs1 ht hvm hw hB1 hz1 hk1 hS1 => ?_)
  · obtain ⟨rfl, hP2, hK2, hD2⟩ := hB1
    rw [ht] at hP2
    obtain ⟨hP3, hD3⟩ := k_join hP1 hD1 hk1 hFc hP2 hD2
    exact kx q9 H1 locs1 hw ⟨ce, hce, hcv, hcl⟩ ⟨w.1, by rw [List.flatten_append]; exact hP3, by rw [List.flatten_append]; exact hD3, hS1, w.2.2.2.2⟩
  · obtain ⟨hP2, hK2, hD2⟩ := hB1
    rw [ht] at hP2
    obtain ⟨hok, rfl⟩ := hw
    obtain ⟨hP3, hD3⟩ := k_join hP1 hD1 hk1 hFc hP2 hD2
    exact kk H1 locs1 hok ⟨w.1, by rw [List.flatten_append]; exact hP3, by rw [List.flatten_append]; exact hD3, hS1, w.2.2.2.2⟩
theorem xc_f {r : UInt32} (S : CallFix p m c cc nL s args Ts own) (hz : kZ A s) (hj : kJ J A s) (w : kW D tys A s.heap s H locs Bs) (hM : Xf l y wsy rm D tys (.ref b :: As) Cs ok Cs1 r E Cs2 mc ms) (cw : CallW R s args own C index y bytes maxL ret wsy rm mc ms n) (is : List Nat) {nB : Nat} (hp : is.Perm (List.range nB)) (hlen0 : Bs.length = nB) (he : is.filterMap (fun i => Bs[i]?) = Cs ++ Rs)
    {B0 : va_W} {ci : Nat} {fs : List Value} {q : vw_C} (i0 : Nat) (hB : Bs[i0]? = some B0) (hx : B0[0]? = some (b, .inr (ci, fs))) (hc : vwCl[ci]? = some q) (hq : q.1 = C)
    (hn : As.length = n) (hsize : ls.size = nL) (hst : st = As.reverse ++ .ref b :: rest) (hcat : (rest.map fun v => v.category).sum ≤ 8) (hdg : decode cc pc = .ok (.invokevirtual index, 3)) (hf : cells + mc ≤ R.cells ∧ slots + ms ≤ R.slots)
    (kx : ∀ (q9 : Nat) (H1 : Heap) (locs1 : List Loc), ¬ ok → l_thr E s q9 H1 → kW D tys A s.heap s H1 locs1 (Cs2 ++ Rs) → vx_W p l e R s m args below meth c H1 locs1 (cells + mc) (slots + ms) Q (F0 m pc ls rest) q9)
    (kk : ∀ (H1 : Heap) (locs1 : List Loc), ok → kW D tys A s.heap s H1 locs1 (Cs1 ++ Rs) → W p l e R s m args below meth c H1 locs1 (cells + mc) (slots + ms) Q (F0 m (pc + 3) ls (.float r :: rest))) : W p l e R s m args below meth c H locs cells slots Q (F0 m pc ls st) := by
  obtain ⟨hP1, hD1, hPc, hDc, hFc⟩ := k_split w (by rw [hlen0]; exact hp) he
  refine vx_callf (vx_runV (As := As) (rest := rest) S (hM H.size) cw ⟨kPreX_blind, k_recv w i0 hB hx hc hq, fun U hU hW => ⟨rfl, by rw [hU], by rw [hU]; exact hPc, va_K.moved hW.alike w.1, hDc, w.2.2.2.2.2.warm hW, hz.down w.2.2.2.1 hU hW hFc⟩⟩ rfl hn hsize hst (lv_room hcat) hdg hf) w.2.2.2.1 (fun q _ h => hFc q h) hFc (fun q _ h => hFc q h) (fun E1 ce q9 u t H1 locs1 ht hvm hw hB1 hz1 hk1 hS1 hce hcv hcl => ?_) (fun r1 u t H1 locs1 ht hvm hw hB1 hz1 hk1 hS1 => ?_)
  · obtain ⟨rfl, hP2, hK2, hD2⟩ := hB1
    rw [ht] at hP2
    obtain ⟨hP3, hD3⟩ := k_join hP1 hD1 hk1 hFc hP2 hD2
    exact kx q9 H1 locs1 hw ⟨ce, hce, hcv, hcl⟩ ⟨w.1, by rw [List.flatten_append]; exact hP3, by rw [List.flatten_append]; exact hD3, hS1, w.2.2.2.2⟩
  · obtain ⟨hP2, hK2, hD2⟩ := hB1
    rw [ht] at hP2
    obtain ⟨hok, rfl⟩ := hw
    obtain ⟨hP3, hD3⟩ := k_join hP1 hD1 hk1 hFc hP2 hD2
    exact kk H1 locs1 hok ⟨w.1, by rw [List.flatten_append]; exact hP3, by rw [List.flatten_append]; exact hD3, hS1, w.2.2.2.2⟩
theorem xc_d {r : UInt64} (S : CallFix p m c cc nL s args Ts own) (hz : kZ A s) (hj : kJ J A s) (w : kW D tys A s.heap s H locs Bs) (hM : Xd l y wsy rm D tys (.ref b :: As) Cs ok Cs1 r E Cs2 mc ms) (cw : CallW R s args own C index y bytes maxL ret wsy rm mc ms n) (is : List Nat) {nB : Nat} (hp : is.Perm (List.range nB)) (hlen0 : Bs.length = nB) (he : is.filterMap (fun i => Bs[i]?) = Cs ++ Rs)
    {B0 : va_W} {ci : Nat} {fs : List Value} {q : vw_C} (i0 : Nat) (hB : Bs[i0]? = some B0) (hx : B0[0]? = some (b, .inr (ci, fs))) (hc : vwCl[ci]? = some q) (hq : q.1 = C)
    (hn : As.length = n) (hsize : ls.size = nL) (hst : st = As.reverse ++ .ref b :: rest) (hcat : (rest.map fun v => v.category).sum ≤ 8) (hdg : decode cc pc = .ok (.invokevirtual index, 3)) (hf : cells + mc ≤ R.cells ∧ slots + ms ≤ R.slots)
    (kx : ∀ (q9 : Nat) (H1 : Heap) (locs1 : List Loc), ¬ ok → l_thr E s q9 H1 → kW D tys A s.heap s H1 locs1 (Cs2 ++ Rs) → vx_W p l e R s m args below meth c H1 locs1 (cells + mc) (slots + ms) Q (F0 m pc ls rest) q9)
    (kk : ∀ (H1 : Heap) (locs1 : List Loc), ok → kW D tys A s.heap s H1 locs1 (Cs1 ++ Rs) → W p l e R s m args below meth c H1 locs1 (cells + mc) (slots + ms) Q (F0 m (pc + 3) ls (.double r :: rest))) : W p l e R s m args below meth c H locs cells slots Q (F0 m pc ls st) := by
  obtain ⟨hP1, hD1, hPc, hDc, hFc⟩ := k_split w (by rw [hlen0]; exact hp) he
  refine vx_calld (vx_runV (As := As) (rest := rest) S (hM H.size) cw ⟨kPreX_blind, k_recv w i0 hB hx hc hq, fun U hU hW => ⟨rfl, by rw [hU], by rw [hU]; exact hPc, va_K.moved hW.alike w.1, hDc, w.2.2.2.2.2.warm hW, hz.down w.2.2.2.1 hU hW hFc⟩⟩ rfl hn hsize hst (lv_room hcat) hdg hf) w.2.2.2.1 (fun q _ h => hFc q h) hFc (fun q _ h => hFc q h) (fun E1 ce q9 u t H1 locs1 ht hvm hw hB1 hz1 hk1 hS1 hce hcv hcl => ?_) (fun r1 u t H1 locs1 ht hvm hw hB1 hz1 hk1 hS1 => ?_)
  · obtain ⟨rfl, hP2, hK2, hD2⟩ := hB1
    rw [ht] at hP2
    obtain ⟨hP3, hD3⟩ := k_join hP1 hD1 hk1 hFc hP2 hD2
    exact kx q9 H1 locs1 hw ⟨ce, hce, hcv, hcl⟩ ⟨w.1, by rw [List.flatten_append]; exact hP3, by rw [List.flatten_append]; exact hD3, hS1, w.2.2.2.2⟩
  · obtain ⟨hP2, hK2, hD2⟩ := hB1
    rw [ht] at hP2
    obtain ⟨hok, rfl⟩ := hw
    obtain ⟨hP3, hD3⟩ := k_join hP1 hD1 hk1 hFc hP2 hD2
    exact kk H1 locs1 hok ⟨w.1, by rw [List.flatten_append]; exact hP3, by rw [List.flatten_append]; exact hD3, hS1, w.2.2.2.2⟩
theorem xc_ji {r : Int32} (S : CallFix p m c cc nL s args Ts own) (hz : kZ A s) (hj : kJ J A s) (w : kW D tys A s.heap s H locs Bs) (hM : XJi J l y wsy rm D tys (.ref b :: As) Cs ok Cs1 r E Cs2 mc ms) (cw : CallW R s args own C index y bytes maxL ret wsy rm mc ms n) (is : List Nat) {nB : Nat} (hp : is.Perm (List.range nB)) (hlen0 : Bs.length = nB) (he : is.filterMap (fun i => Bs[i]?) = Cs ++ Rs)
    {B0 : va_W} {ci : Nat} {fs : List Value} {q : vw_C} (i0 : Nat) (hB : Bs[i0]? = some B0) (hx : B0[0]? = some (b, .inr (ci, fs))) (hc : vwCl[ci]? = some q) (hq : q.1 = C)
    (hn : As.length = n) (hsize : ls.size = nL) (hst : st = As.reverse ++ .ref b :: rest) (hcat : (rest.map fun v => v.category).sum ≤ 8) (hdg : decode cc pc = .ok (.invokevirtual index, 3)) (hf : cells + mc ≤ R.cells ∧ slots + ms ≤ R.slots)
    (kx : ∀ (q9 : Nat) (H1 : Heap) (locs1 : List Loc), ¬ ok → l_thr E s q9 H1 → kW D tys A s.heap s H1 locs1 (Cs2 ++ Rs) → vx_W p l e R s m args below meth c H1 locs1 (cells + mc) (slots + ms) Q (F0 m pc ls rest) q9)
    (kk : ∀ (H1 : Heap) (locs1 : List Loc), ok → kW D tys A s.heap s H1 locs1 (Cs1 ++ Rs) → W p l e R s m args below meth c H1 locs1 (cells + mc) (slots + ms) Q (F0 m (pc + 3) ls (.int r :: rest))) : W p l e R s m args below meth c H locs cells slots Q (F0 m pc ls st) := by
  obtain ⟨hP1, hD1, hPc, hDc, hFc⟩ := k_split w (by rw [hlen0]; exact hp) he
  refine vx_calli (vx_runV (As := As) (rest := rest) S (hM H.size) cw ⟨kPreXJ_blind, k_recv w i0 hB hx hc hq, fun U hU hW => ⟨rfl, by rw [hU], by rw [hU]; exact hPc, va_K.moved hW.alike w.1, hDc, w.2.2.2.2.2.warm hW, hz.down w.2.2.2.1 hU hW hFc, hj.down w.2.2.2.1 hU hW hFc⟩⟩ rfl hn hsize hst (lv_room hcat) hdg hf) w.2.2.2.1 (fun q _ h => hFc q h) hFc (fun q _ h => hFc q h) (fun E1 ce q9 u t H1 locs1 ht hvm hw hB1 hz1 hk1 hS1 hce hcv hcl => ?_) (fun r1 u t H1 locs1 ht hvm hw hB1 hz1 hk1 hS1 => ?_)
  · obtain ⟨rfl, hP2, hK2, hD2⟩ := hB1
    rw [ht] at hP2
    obtain ⟨hP3, hD3⟩ := k_join hP1 hD1 hk1 hFc hP2 hD2
    exact kx q9 H1 locs1 hw ⟨ce, hce, hcv, hcl⟩ ⟨w.1, by rw [List.flatten_append]; exact hP3, by rw [List.flatten_append]; exact hD3, hS1, w.2.2.2.2⟩
  · obtain ⟨hP2, hK2, hD2⟩ := hB1
    rw [ht] at hP2
    obtain ⟨hok, rfl⟩ := hw
    obtain ⟨hP3, hD3⟩ := k_join hP1 hD1 hk1 hFc hP2 hD2
    exact kk H1 locs1 hok ⟨w.1, by rw [List.flatten_append]; exact hP3, by rw [List.flatten_append]; exact hD3, hS1, w.2.2.2.2⟩
theorem l_iS {hh : List (Nat × Nat × Nat × Nat)} (S : CallFix p m c cc nL s args Ts own) (hnc : kNc s) (hz : kZ A s) (hj : kJ J A s) (w : kW D tys A s.heap s H locs Bs) (hM : Lx J l y wsy rm D tys As Cs ok Cs1 Cs2 k mc ms) (cw : vx_CSW R s args own index y bytes maxL ret hh wsy rm mc ms n) (is : List Nat) {nB : Nat} (hp : is.Perm (List.range nB)) (hlen0 : Bs.length = nB) (he : is.filterMap (fun i => Bs[i]?) = Cs ++ Rs) (hlen1 : Bs1.length = nB) (he1 : is.filterMap (fun i => Bs1[i]?) = Cs1 ++ Rs) (hlen2 : Bs2.length = nB) (he2 : is.filterMap (fun i => Bs2[i]?) = Cs2 ++ Rs)
    (hn : As.length = n) (hsize : ls.size = nL) (hst : st = As.reverse ++ rest) (hcat : (rest.map fun v => v.category).sum ≤ 8) (hdg : decode cc pc = .ok (.invokestatic index, 3)) (hf : cells + mc ≤ R.cells ∧ slots + ms ≤ R.slots)
    (kx : ∀ (H1 : Heap) (locs1 : List Loc), ¬ ok → kW D tys A s.heap s H1 locs1 Bs2 → W p l e R s m args below meth c H1 locs1 (cells + mc) (slots + ms) Q (F0 m (pc + 3) ls (.int k :: rest)))
    (kk : ∀ (H1 : Heap) (locs1 : List Loc), ok → kW D tys A s.heap s H1 locs1 Bs1 → W p l e R s m args below meth c H1 locs1 (cells + mc) (slots + ms) Q (F0 m (pc + 3) ls (.int 0 :: rest))) : W p l e R s m args below meth c H locs cells slots Q (F0 m pc ls st) := by
  obtain ⟨hP1, hD1, hPc, hDc, hFc⟩ := k_split w (by rw [hlen0]; exact hp) he
  refine va_calli (vx_runSW (As := As) (rest := rest) S (hM H.size) cw ⟨kPreL_blind, fun U hU hW => ⟨rfl, by rw [hU], by rw [hU]; exact hPc, va_K.moved hW.alike w.1, hDc, w.2.2.2.2.2.warm hW, hnc.warm hW, hz.down w.2.2.2.1 hU hW hFc, hj.down w.2.2.2.1 hU hW hFc⟩⟩ rfl hn hsize hst (lv_room hcat) hdg hf) w.2.2.2.1 (fun q _ h => hFc q h) hFc (fun r1 u t H1 locs1 ht hvm hw hB1 hz1 hk1 hS1 => ?_)
  obtain ⟨hP2, hK2, hD2⟩ := hB1
  rw [ht] at hP2
  obtain ⟨hP3, hD3⟩ := k_join hP1 hD1 hk1 hFc hP2 hD2
  rcases hw with ⟨rfl, hok, rfl⟩ | ⟨rfl, hok, rfl⟩
  · exact kk H1 locs1 hok (k_back w (by rw [hlen0]; exact hp) (hlen1.trans hlen0.symm) he1 hP3 hD3 hS1)
  · exact kx H1 locs1 hok (k_back w (by rw [hlen0]; exact hp) (hlen2.trans hlen0.symm) he2 hP3 hD3 hS1)
/-- caught by the first row -/
theorem l_c1 {name : String} {s0 e0 h0 t0 : Nat} {suf : List (Nat × Nat × Nat × Nat)} {q9 : Nat} (hown : s.vm.findClass own = some m.cls) (htab : c.exceptionTable.toList = tableOf ((s0, e0, h0, t0) :: suf)) (hx : covers ⟨s0, e0, h0, t0⟩ pc = true) (ht : t0 ≠ 0) (hlink : (Cond.classLink own t0 name).before args s = true) (hcast : (Cond.castable E name).before args s = true) (hth : l_thr E s q9 H)
    (kk : W p l e R s m args below meth c H locs cells slots Q (F0 m h0 ls [.ref q9])) : vx_W p l e R s m args below meth c H locs cells slots Q (F0 m pc ls rest) q9 := by
  obtain ⟨ce, h1, h2, h3⟩ := hth
  exact vx_catch hown [] ⟨s0, e0, h0, t0⟩ (tableOf suf) htab (fun z hz => nomatch hz) hx ht hlink hcast h1 h2 h3 kk
/-- caught by the second row -/
theorem l_c2 {nm1 name : String} {s1 e1 h1 t1 s0 e0 h0 t0 : Nat} {suf : List (Nat × Nat × Nat × Nat)} {q9 : Nat} (hown : s.vm.findClass own = some m.cls) (htab : c.exceptionTable.toList = tableOf ((s1, e1, h1, t1) :: (s0, e0, h0, t0) :: suf)) (ht1 : t1 ≠ 0) (hl1 : (Cond.classLink own t1 nm1).before args s = true) (hnc : va_Nc E nm1 s) (hx : covers ⟨s0, e0, h0, t0⟩ pc = true) (ht : t0 ≠ 0) (hlink : (Cond.classLink own t0 name).before args s = true) (hcast : (Cond.castable E name).before args s = true) (hth : l_thr E s q9 H)
    (kk : W p l e R s m args below meth c H locs cells slots Q (F0 m h0 ls [.ref q9])) : vx_W p l e R s m args below meth c H locs cells slots Q (F0 m pc ls rest) q9 := by
  obtain ⟨ce, g1, g2, g3⟩ := hth
  exact vx_catch hown [⟨s1, e1, h1, t1⟩] ⟨s0, e0, h0, t0⟩ (tableOf suf) htab (fun z hz => by
    cases List.mem_singleton.mp hz
    exact Or.inr ⟨ht1, nm1, hl1, hnc⟩) hx ht hlink hcast g1 g2 g3 kk
/-- one long, one double -/
def ouB (ty : Nat → ClassId) (q : Nat) (f : Nat → Int64) : va_W := [(q, .inl (ty 5, 1, .inr (.inl f)))]
def odB (ty : Nat → ClassId) (q : Nat) (f : Nat → UInt64) : va_W := [(q, .inl (ty 6, 1, .inr (.inr (.inr (.inl f)))))]
theorem r_last (hexec : p.tables.exec = Jvm.exec) (hb : c.code = cc) (w : kW D tys A s.heap s H locs Bs) (i j : Nat) {B : va_W} (hB : Bs[i]? = some B) {cA : ClassId} {n : Nat} {f : Nat → Int64} (he : B[j]? = some (a, .inl (cA, n, .inr (.inl f)))) (t0 : Nat) (ht : tys[t0]? = some (cA, .long)) (q : Nat) (hq : q < n) (hn : n < 2 ^ 31) {x : Int32} {v : Int64} (hx : x = nI q) (B' : va_W) (hB' : B.set j (a, .inl (cA, n, .inr (.inl (vp_updL f q v)))) = B') (Bs' : List va_W) (hBs : Bs.set i B' = Bs') (hdg : decode cc pc = .ok (.lastore, 1))
    (kk : ∀ (H1 : Heap) (locs1 : List Loc), kW D tys A s.heap s H1 locs1 Bs' → W p l e R s m args below meth c H1 locs1 cells slots Q (F0 m (pc + 1) ls rest)) : W p l e R s m args below meth c H locs cells slots Q (F0 m pc ls (.long v :: .int x :: .ref a :: rest)) := by
  subst hx
  have h := nI_clamp (show q < 2 ^ 31 by omega)
  refine va_last hexec hb w.1 w.2.1 w.2.2.1 w.2.2.2.1 _ t0 (k_fget _ i j B _ hB he) ht (vp_in_nI hq hn) hdg (fun H1 locs1 hP hD hS => kk H1 locs1 ?_)
  rw [h, k_fset _ i j B _ hB (List.getElem?_eq_some_iff.mp he).1, hB', hBs] at hP hD
  exact ⟨w.1, hP, hD, hS, w.2.2.2.2⟩
theorem r_dast (hexec : p.tables.exec = Jvm.exec) (hb : c.code = cc) (w : kW D tys A s.heap s H locs Bs) (i j : Nat) {B : va_W} (hB : Bs[i]? = some B) {cA : ClassId} {n : Nat} {f : Nat → UInt64} (he : B[j]? = some (a, .inl (cA, n, .inr (.inr (.inr (.inl f)))))) (t0 : Nat) (ht : tys[t0]? = some (cA, .double)) (q : Nat) (hq : q < n) (hn : n < 2 ^ 31) {x : Int32} {v : UInt64} (hx : x = nI q) (B' : va_W) (hB' : B.set j (a, .inl (cA, n, .inr (.inr (.inr (.inl (vf_upd f q v)))))) = B') (Bs' : List va_W) (hBs : Bs.set i B' = Bs') (hdg : decode cc pc = .ok (.dastore, 1))
    (kk : ∀ (H1 : Heap) (locs1 : List Loc), kW D tys A s.heap s H1 locs1 Bs' → W p l e R s m args below meth c H1 locs1 cells slots Q (F0 m (pc + 1) ls rest)) : W p l e R s m args below meth c H locs cells slots Q (F0 m pc ls (.double v :: .int x :: .ref a :: rest)) := by
  subst hx
  have h := nI_clamp (show q < 2 ^ 31 by omega)
  refine va_dast hexec hb w.1 w.2.1 w.2.2.1 w.2.2.2.1 _ t0 (k_fget _ i j B _ hB he) ht (vp_in_nI hq hn) hdg (fun H1 locs1 hP hD hS => kk H1 locs1 ?_)
  rw [h, k_fset _ i j B _ hB (List.getElem?_eq_some_iff.mp he).1, hB', hBs] at hP hD
  exact ⟨w.1, hP, hD, hS, w.2.2.2.2⟩
end KBL1
theorem xk_UOE : (Cond.castable "java/lang/UnsupportedOperationException" "java/lang/UnsupportedOperationException") ∈ xBad := by decide +kernel
theorem xk_IAE : (Cond.castable "java/lang/IllegalArgumentException" "java/lang/IllegalArgumentException") ∈ xBad := by decide +kernel
theorem xk_ISE : (Cond.castable "java/lang/IllegalStateException" "java/lang/IllegalStateException") ∈ xBad := by decide +kernel
theorem xk_ARI : (Cond.castable "java/lang/ArithmeticException" "java/lang/ArithmeticException") ∈ xBad := by decide +kernel
theorem xk_IOB : (Cond.castable "java/lang/IndexOutOfBoundsException" "java/lang/IndexOutOfBoundsException") ∈ xBad := by decide +kernel
theorem xk_NSE : (Cond.castable "java/util/NoSuchElementException" "java/util/NoSuchElementException") ∈ xBad := by decide +kernel
