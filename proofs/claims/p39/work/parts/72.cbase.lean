/-! ===== constructors ===== -/
/-- arrays of states and of rows can be made -/
def kA0 (U : State) : Prop := va_AO "PumpParliament$State" U ∧ (Cond.arrayOver (.array .int)).before #[] U = true
theorem kA0.moved {u U : State} (hv : u.vm.Alike U.vm) (h : kA0 u) : kA0 U := ⟨h.1.moved hv, over_moved hv h.2⟩
def kPreC (J : Nat → Nat) (D : va_G) (tys : List (ClassId × FieldType)) (as : List Value) (Bs : List va_W) (sz : Nat) : Array Value → State → Prop :=
  va_Pc as (fun U => U.heap.size = sz ∧ va_P D vwCl Bs.flatten U.heap ∧ va_K D vwCl tys U ∧ va_D (fun _ => True) Bs.flatten ∧ kN U ∧ kA0 U ∧ kJ J (va_A Bs.flatten sz) U)
theorem kPreC_blind {J : Nat → Nat} {D : va_G} {tys : List (ClassId × FieldType)} {as : List Value} {Bs : List va_W} {sz : Nat} : FrameBlind (kPreC J D tys as Bs sz) := fun a U g mk q => by
  obtain ⟨q0, q1, qP, qK, qD, qN, qA, qJ⟩ := q
  exact ⟨q0, q1, qP, va_K.moved (u := U) (U := U.calling g mk a) (Vm.Alike.refl U.vm) qK, qD, qN.same rfl, qA.moved (Vm.Alike.refl U.vm), qJ.same rfl rfl⟩
/-- a constructor: its new cells lie at places g -/
def Mx (J : Nat → Nat) (l : Launch) (y : MethodName) (ws : List Cond) (rm : Room) (D : va_G) (tys : List (ClassId × FieldType)) (as : List Value) (Bs : List va_W) (K : (Nat → Nat → Nat) → Prop) (Bs' : (Nat → Nat → Nat) → List va_W) (mc ms : Nat) : Prop :=
  ∀ sz : Nat, Met l y ws rm (kPreC J D tys as Bs sz) (va_Qv (fun (g : Nat → Nat → Nat) => K g) (fun g t => kQ D tys (va_A Bs.flatten sz) (Bs' g) t) (va_A Bs.flatten sz)) mc ms (va_A Bs.flatten sz)
theorem m_x {J : Nat → Nat} {K : (Nat → Nat → Nat) → Prop} {l : Launch} {y : MethodName} {ws ws' : List Cond} {rm : Room} {D : va_G} {tys : List (ClassId × FieldType)} {as : List Value} {Bs : List va_W} {Bs' : (Nat → Nat → Nat) → List va_W} {mc ms maxL : Nat} {cc : ByteArray} {ret : Option FieldType} (hy : plainName y.cls = true) (hw : ws = Cond.code y cc maxL ret :: ws') (hmx : (lg_sl as).length ≤ maxL)
    (body : ∀ (p : Program) (e : Env) (s : State) (m : MethodId) (below : List Frame) (meth : Method) (c : Code) (A : Nat → Prop) (ls : Array Slot), p.tables.exec = Jvm.exec → c.code = cc → c.maxLocals = maxL → meth.sig.returnType = ret → meth.locks = false → s.vm.findClass y.cls = some m.cls → (∀ w ∈ ws, w.before as.toArray s = true) → meth.name = y.name → kA0 s → kJ J A s → kW D tys A s.heap s s.heap [] Bs → lv_has ls maxL (lv_args 0 as) →
      W p l e rm s m as.toArray below meth c s.heap [] 0 0 (MQ below (va_Qv (fun (g : Nat → Nat → Nat) => K g) (fun g t => kQ D tys A (Bs' g) t) A) as.toArray s mc ms A) (F0 m 0 ls [])) : Mx J l y ws rm D tys as Bs K Bs' mc ms := by
  intro sz
  refine Met.ofW (cc := cc) (maxL := maxL) (ret := ret) hy hw ?_
  intro p e s m args below meth c s₁ B hml hv
  obtain ⟨rfl, hsz, hP, hK, hD0, hN, hA0, hJ⟩ := hv
  subst hsz
  rw [lg_entry_eq]
  exact body p e s m below meth c _ _ B.exec B.bytes hml B.returns B.notSynchronized (findClass_of_methodNamed B.named) (atoms_spec (ws := ws) B.pre) (name_of_methodNamed B.named B.method).1 hA0 hJ ⟨hK, hP, hD0.self, va_S.rf, fun q h => Or.inr h, hN⟩ (lv_entry as hmx)
section KBC
variable {p : Program} {l : Launch} {e : Env} {R : Room} {s : State} {m : MethodId} {args : Array Value} {below : List Frame} {meth : Method} {c : Code} {H : Heap} {locs : List Loc} {cells slots : Nat} {Q : State → Prop}
variable {cc : ByteArray} {pc : Nat} {ls : Array Slot} {rest st : List Value} {D : va_G} {A : Nat → Prop} {a : Nat} {tys : List (ClassId × FieldType)} {Bs : List va_W} {H0 : Heap}
theorem e_x {K : (Nat → Nat → Nat) → Prop} {Bs' : (Nat → Nat → Nat) → List va_W} {mc ms : Nat} (hexec : p.tables.exec = Jvm.exec) (hb : c.code = cc) (hr : meth.sig.returnType = none) (hlocks : meth.locks = false) (w : kW D tys A s.heap s H locs Bs) (g : Nat → Nat → Nat) (hK : K g) (hg : Bs.flatten = (Bs' g).flatten) (hdg : decode cc pc = .ok (.return_, 1)) (hc : cells ≤ mc) (hs : slots ≤ ms) :
    W p l e R s m args below meth c H locs cells slots (MQ below (va_Qv (fun (g : Nat → Nat → Nat) => K g) (fun g t => kQ D tys A (Bs' g) t) A) args s mc ms A) (F0 m pc ls []) := by
  have w := w.flat hg
  refine W.widen hc hs ?_
  exact W.vret hexec hb hr (fun t ht hW => ⟨⟨g, rfl, hK, ⟨by rw [ht]; exact w.2.1, va_K.moved hW.alike w.1, w.2.2.1⟩⟩, w.2.2.2.1.F ht⟩) w.2.2.2.1.2.2 hdg hlocks
theorem c_push {b : va_W} : (Bs ++ [b]).flatten = Bs.flatten ++ b := by simp
theorem r_new (hexec : p.tables.exec = Jvm.exec) (hb : c.code = cc) {own C : String} {T : u_T} {N ci index : Nat} {Ts : List Cond} (hts : ∀ w ∈ Ts, w.before args s = true) (hin : ∀ w ∈ u_ws C T N, w ∈ Ts) (ty : Nat → FieldType) (hty : ∀ k, k < N → parseFieldDescriptor (T k).2.2.1 = some (ty k)) (hown : s.vm.findClass own = some m.cls) (hcl : (Cond.classLink own index C).before args s = true) (hinst : (Cond.instantiable C N).before args s = true) (hini : (Cond.initialized C).before args s = true)
    (w : kW D tys A H0 s H locs Bs) (hc : vwCl[ci]? = some (C, T, N)) {fs : List Value} (hfs : ∀ j, j < N → defaultValue (ty j) = vp_V fs j) (hcells : cells + 1 ≤ R.cells) (hslots : slots + N ≤ R.slots) (hdg : decode cc pc = .ok (.new index, 3))
    (kk : ∀ (q : Nat) (H1 : Heap), kW D tys A H0 s H1 locs (Bs ++ [[(q, .inr (ci, fs))]]) → W p l e R s m args below meth c H1 locs (cells + 1) (slots + N) Q (F0 m (pc + 3) ls (.ref q :: rest))) : W p l e R s m args below meth c H locs cells slots Q (F0 m pc ls rest) :=
  va_new hexec hb hts hin ty hty hown hcl hinst hini w.1 w.2.1 w.2.2.1 w.2.2.2.1 w.2.2.2.2.1 hc hfs hcells hslots hdg (fun q H1 hP hD hS => kk q H1 ⟨w.1, by rw [c_push]; exact hP, by rw [c_push]; exact hD, hS, w.2.2.2.2⟩)
theorem r_newa (hexec : p.tables.exec = Jvm.exec) (hb : c.code = cc) {atype : ArrayType} (harr : (Cond.arrayClass (newarray.typeOf atype)).before args s = true) {ty : FieldType} (hty : newarray.typeOf atype = ty) (w : kW D tys A H0 s H locs Bs) (t0 : Nat) {cT : ClassId} (ht : tys[t0]? = some (cT, ty)) (hu : ∀ c1 c2 : ClassId, va_RA s c1 ty → va_RA s c2 ty → c1 = c2)
    {n : Int32} {N' : Nat} {a0 : vp_A} (ha : ∀ cA : ClassId, vp_cell cA a0 = arrV cA N' (fun _ => defaultValue ty)) (hn : ¬ n < 0) (hN : n.toNatClampNeg = N') (hbytes : N' * componentBytes ty ≤ 536870912) (hcells : cells + 1 ≤ R.cells) (hslots : slots + N' ≤ R.slots) (hdg : decode cc pc = .ok (.newarray atype, 2))
    (kk : ∀ (q : Nat) (H1 : Heap), kW D tys A H0 s H1 locs (Bs ++ [[(q, .inl (cT, a0))]]) → W p l e R s m args below meth c H1 locs (cells + 1) (slots + N') Q (F0 m (pc + 2) ls (.ref q :: rest))) : W p l e R s m args below meth c H locs cells slots Q (F0 m pc ls (.int n :: rest)) :=
  va_newa hexec hb harr hty w.1 w.2.1 w.2.2.1 w.2.2.2.1 w.2.2.2.2.1 ha hn hN hbytes hcells hslots hdg (fun q cA H1 hK hP hD hS => by
    have e : cA = cT := hu _ _ (hK.2 tys.length (cA, ty) (by rw [List.getElem?_append_right (Nat.le_refl _), Nat.sub_self]; rfl)).2 (w.1.2 t0 _ ht).2
    subst e
    exact kk q H1 ⟨w.1, by rw [c_push]; exact hP, by rw [c_push]; exact hD, hS, w.2.2.2.2⟩)
theorem r_newq (hexec : p.tables.exec = Jvm.exec) (hb : c.code = cc) {own C : String} {index : Nat} (hown : s.vm.findClass own = some m.cls) (hclink : (Cond.classLink own index C).before args s = true) (hover : va_AO C s) (w : kW D tys A H0 s H locs Bs) (t0 : Nat) {cT : ClassId} (ht : tys[t0]? = some (cT, .object C))
    {n : Int32} {N' : Nat} (hn : ¬ n < 0) (hN : n.toNatClampNeg = N') (hbytes : N' * 4 ≤ 536870912) (hcells : cells + 1 ≤ R.cells) (hslots : slots + N' ≤ R.slots) (hdg : decode cc pc = .ok (.anewarray index, 3))
    (kk : ∀ (q : Nat) (H1 : Heap), kW D tys A H0 s H1 locs (Bs ++ [[(q, .inl (cT, N', .inr (.inr (.inr (.inr (fun _ => none))))))]]) → W p l e R s m args below meth c H1 locs (cells + 1) (slots + N') Q (F0 m (pc + 3) ls (.ref q :: rest))) : W p l e R s m args below meth c H locs cells slots Q (F0 m pc ls (.int n :: rest)) :=
  va_newq hexec hb hown hclink hover w.1 w.2.1 w.2.2.1 w.2.2.2.1 w.2.2.2.2.1 hn hN hbytes hcells hslots hdg (fun q cA H1 hK hP hD hS => by
    have h1 := (hK.2 tys.length (cA, .object C) (by rw [List.getElem?_append_right (Nat.le_refl _), Nat.sub_self]; rfl)).2
    have h2 := (w.1.2 t0 _ ht).2
    obtain ⟨-, -, -, -, -, g1⟩ := h1
    obtain ⟨-, -, -, -, -, g2⟩ := h2
    have e : cA = cT := Option.some.inj (g1.symm.trans g2)
    subst e
    exact kk q H1 ⟨w.1, by rw [c_push]; exact hP, by rw [c_push]; exact hD, hS, w.2.2.2.2⟩)
/-- eight rows of eight -/
theorem r_mna8 (hexec : p.tables.exec = Jvm.exec) (hb : c.code = cc) {own : String} {index : Nat} (hown : s.vm.findClass own = some m.cls) (hclink : (Cond.classLink own index "[[I").before args s = true) (hover : (Cond.arrayOver (.array .int)).before args s = true) (harr : (Cond.arrayClass .int).before args s = true) (w : kW D tys A H0 s H locs Bs) (t0 t3 : Nat) {cT cU : ClassId} (ht : tys[t0]? = some (cT, .int)) (hu : tys[t3]? = some (cU, .array .int))
    (hcells : cells + (1 + 8) ≤ R.cells) (hslots : slots + (8 + 8 * 8) ≤ R.slots) (hdg : decode cc pc = .ok (.multianewarray index 2, 4))
    (kk : ∀ (q : Nat) (r : Nat → Nat) (H1 : Heap), kW D tys A H0 s H1 locs (Bs ++ [(q, .inl (cU, 8, .inr (.inr (.inr (.inr (fun i => if i < 8 then some (r i) else none)))))) :: (List.range 8).map (fun i => (r i, .inl (cT, 8, .inl (fun _ => 0))))]) → W p l e R s m args below meth c H1 locs (cells + 1 + 8) (slots + 8 + 8 * 8) Q (F0 m (pc + 4) ls (.ref q :: rest))) : W p l e R s m args below meth c H locs cells slots Q (F0 m pc ls (.int 8 :: .int 8 :: rest)) := by
  have hcy : s.vm.findClass (FieldType.array .int).toString = some cT := (w.1.2 t0 _ ht).2
  refine va_mna (X := Bs.flatten) (L := []) (f := fun _ => .inl (cT, 8, .inl (fun _ => 0))) (ty := .int) (z := (8, .inl (fun _ => 0))) hexec hb hown hclink hover harr hcy w.1 (by rw [va_pl, List.map_nil, List.append_nil]; exact w.2.1) (by rw [va_pl, List.map_nil, List.append_nil]; exact w.2.2.1) w.2.2.2.1 w.2.2.2.2.1 (by decide) (by decide) (N' := 8) (K' := 8) (by decide) (by decide) (by decide) (by decide) (by decide) (by decide) (by decide) hcells hslots (fun _ => rfl) hdg (fun q r cA H1 hr1 hr2 hK hP hD hS => ?_)
  have h1 := (hK.2 tys.length (cA, .array .int) (by rw [List.getElem?_append_right (Nat.le_refl _), Nat.sub_self]; rfl)).2
  have h2 := (w.1.2 t3 _ hu).2
  have e : cA = cU := Option.some.inj (h1.symm.trans h2)
  subst e
  have e2 : va_pl ([] ++ (List.range 8).map r) (vr_up (fun _ => .inl (cT, 8, .inl (fun _ => 0))) ((List.range 8).map r) (.inl (cT, (8, .inl (fun _ => 0))))) = (List.range 8).map (fun i => (r i, .inl (cT, 8, .inl (fun _ => 0)))) := by
    unfold va_pl
    rw [List.nil_append, List.map_map]
    refine List.map_congr_left fun i hi => ?_
    show (r i, vr_up _ _ _ (r i)) = _
    rw [vr_up_in (List.mem_map.mpr ⟨i, hi, rfl⟩)]
  rw [e2, List.append_assoc] at hP hD
  exact kk q r H1 ⟨w.1, by rw [c_push]; exact hP, by rw [c_push]; exact hD, hS, w.2.2.2.2⟩
theorem r_astq (hexec : p.tables.exec = Jvm.exec) (hb : c.code = cc) (w : kW D tys A H0 s H locs Bs) (i j i2 : Nat) {B B2 : va_W} (hB : Bs[i]? = some B) {cA : ClassId} {ci n v : Nat} {vs : List Value} {q3 : vw_C} {f : Nat → Option Nat} (he : B[j]? = some (a, .inl (cA, n, .inr (.inr (.inr (.inr f)))))) (t0 : Nat) (ht : tys[t0]? = some (cA, .object q3.1)) (hB2 : Bs[i2]? = some B2) (hv : B2[0]? = some (v, .inr (ci, vs))) (hc : vwCl[ci]? = some q3) (q : Nat) (hq : q < n) (hn : n < 2 ^ 31) {x : Int32} (hx : x = nI q) (B' : va_W) (hB' : B.set j (a, .inl (cA, n, .inr (.inr (.inr (.inr (va_up f q (some v))))))) = B') (Bs' : List va_W) (hBs : Bs.set i B' = Bs') (hdg : decode cc pc = .ok (.aastore, 1))
    (kk : ∀ (H1 : Heap) (locs1 : List Loc), kW D tys A H0 s H1 locs1 Bs' → W p l e R s m args below meth c H1 locs1 cells slots Q (F0 m (pc + 1) ls rest)) : W p l e R s m args below meth c H locs cells slots Q (F0 m pc ls (.ref v :: .int x :: .ref a :: rest)) := by
  subst hx
  have h := nI_clamp (show q < 2 ^ 31 by omega)
  refine va_astq hexec hb w.1 w.2.1 w.2.2.1 w.2.2.2.1 _ t0 _ ci (k_fget _ i j B _ hB he) ht (k_fget _ i2 0 B2 _ hB2 hv) hc (vp_in_nI hq hn) hdg (fun H1 locs1 hP hD hS => kk H1 locs1 ?_)
  rw [h, k_fset _ i j B _ hB (List.getElem?_eq_some_iff.mp he).1, hB', hBs] at hP hD
  exact ⟨w.1, hP, hD, hS, w.2.2.2.2⟩
end KBC
section KBD
variable {p : Program} {l : Launch} {e : Env} {R : Room} {s : State} {m : MethodId} {args : Array Value} {below : List Frame} {meth : Method} {c : Code} {H : Heap} {locs : List Loc} {cells slots : Nat} {Q : State → Prop}
variable {J : Nat → Nat} {K : (Nat → Nat → Nat) → Prop} {cc : ByteArray} {pc : Nat} {ls : Array Slot} {rest st : List Value} {D : va_G} {A : Nat → Prop} {a : Nat} {tys : List (ClassId × FieldType)} {Bs : List va_W} {H0 : Heap}
variable {y : MethodName} {bytes : ByteArray} {maxL nL mc ms n index : Nat} {ret : Option FieldType} {wsy Ts : List Cond} {rm : Room} {own C : String} {b : Nat} {As : List Value} {Cs Rs : List va_W} {Cs' : (Nat → Nat → Nat) → List va_W} 
theorem x_cI (S : CallFix p m c cc nL s args Ts own) (hA0 : kA0 s) (hj : kJ J A s) (w : kW D tys A s.heap s H locs Bs) (hM : Mx J l y wsy rm D tys (.ref b :: As) Cs K Cs' mc ms) (cw : CallB R s args own index y bytes maxL none wsy rm mc ms n ∧ y.name = "<init>" ∧ (Cond.instanceMethod y).before args s = true) (is : List Nat) {nB : Nat} (hp : is.Perm (List.range nB)) (hlen0 : Bs.length = nB) (he : is.filterMap (fun i => Bs[i]?) = Cs ++ Rs)
    (hn : As.length = n) (hsize : ls.size = nL) (hst : st = As.reverse ++ .ref b :: rest) (hcat : (rest.map fun v => v.category).sum ≤ 8) (hdg : decode cc pc = .ok (.invokespecial index, 3)) (hf : cells + mc ≤ R.cells ∧ slots + ms ≤ R.slots)
    (kk : ∀ (g : Nat → Nat → Nat) (H1 : Heap) (locs1 : List Loc), K g → kW D tys A s.heap s H1 locs1 (Cs' g ++ Rs) → W p l e R s m args below meth c H1 locs1 (cells + mc) (slots + ms) Q (F0 m (pc + 3) ls rest)) : W p l e R s m args below meth c H locs cells slots Q (F0 m pc ls st) := by
  obtain ⟨hP1, hD1, hPc, hDc, hFc⟩ := k_split w (by rw [hlen0]; exact hp) he
  refine va_callv (va_runI (As := As) (rest := rest) S (hM H.size) cw ⟨kPreC_blind, fun U hU hW => ⟨rfl, by rw [hU], by rw [hU]; exact hPc, va_K.moved hW.alike w.1, hDc, w.2.2.2.2.2.warm hW, hA0.moved hW.alike, hj.down w.2.2.2.1 hU hW hFc⟩⟩ rfl hn hsize hst (lv_room hcat) hdg hf) w.2.2.2.1 (fun q _ h => hFc q h) hFc (fun u t H1 locs1 ht hvm hw hB1 hz1 hk1 hS1 => ?_)
  obtain ⟨hP2, hK2, hD2⟩ := hB1
  rw [ht] at hP2
  obtain ⟨hP3, hD3⟩ := k_join hP1 hD1 hk1 hFc hP2 hD2
  exact kk u H1 locs1 hw ⟨w.1, by rw [List.flatten_append]; exact hP3, by rw [List.flatten_append]; exact hD3, hS1, w.2.2.2.2⟩
theorem x_cIN (S : CallFix p m c cc nL s args Ts own) (hA0 : kA0 s) (hj : kJ J A s) (w : kW D tys A s.heap s H locs Bs) (hM : Mx J l y wsy rm D tys (.ref b :: As) Cs K Cs' mc ms) {host : String} (cw : va_CN R s args own index y host bytes maxL none wsy rm mc ms n ∧ y.name = "<init>" ∧ (Cond.instanceMethod y).before args s = true) (is : List Nat) {nB : Nat} (hp : is.Perm (List.range nB)) (hlen0 : Bs.length = nB) (he : is.filterMap (fun i => Bs[i]?) = Cs ++ Rs)
    (hn : As.length = n) (hsize : ls.size = nL) (hst : st = As.reverse ++ .ref b :: rest) (hcat : (rest.map fun v => v.category).sum ≤ 8) (hdg : decode cc pc = .ok (.invokespecial index, 3)) (hf : cells + mc ≤ R.cells ∧ slots + ms ≤ R.slots)
    (kk : ∀ (g : Nat → Nat → Nat) (H1 : Heap) (locs1 : List Loc), K g → kW D tys A s.heap s H1 locs1 (Cs' g ++ Rs) → W p l e R s m args below meth c H1 locs1 (cells + mc) (slots + ms) Q (F0 m (pc + 3) ls rest)) : W p l e R s m args below meth c H locs cells slots Q (F0 m pc ls st) := by
  obtain ⟨hP1, hD1, hPc, hDc, hFc⟩ := k_split w (by rw [hlen0]; exact hp) he
  refine va_callv (va_runIN (As := As) (rest := rest) S (hM H.size) cw ⟨kPreC_blind, fun U hU hW => ⟨rfl, by rw [hU], by rw [hU]; exact hPc, va_K.moved hW.alike w.1, hDc, w.2.2.2.2.2.warm hW, hA0.moved hW.alike, hj.down w.2.2.2.1 hU hW hFc⟩⟩ rfl hn hsize hst (lv_room hcat) hdg hf) w.2.2.2.1 (fun q _ h => hFc q h) hFc (fun u t H1 locs1 ht hvm hw hB1 hz1 hk1 hS1 => ?_)
  obtain ⟨hP2, hK2, hD2⟩ := hB1
  rw [ht] at hP2
  obtain ⟨hP3, hD3⟩ := k_join hP1 hD1 hk1 hFc hP2 hD2
  exact kk u H1 locs1 hw ⟨w.1, by rw [List.flatten_append]; exact hP3, by rw [List.flatten_append]; exact hD3, hS1, w.2.2.2.2⟩
end KBD
