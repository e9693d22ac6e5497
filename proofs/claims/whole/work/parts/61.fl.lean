/-! ===== floats: contracts, and no NaN in a quotient ===== -/
theorem fl_32 {x : UInt32} : vf_n32 x ↔ FP.Core.fIsNaN x = false := by
  unfold vf_n32
  rw [UInt32.le_iff_toNat_le, UInt32.toNat_and, show (0x7fffffff : UInt32).toNat = 2 ^ 31 - 1 by decide, show (0x7f800000 : UInt32).toNat = 2139095040 by decide, Nat.and_two_pow_sub_one_eq_mod, ← Bool.not_eq_true, FP.Core.isNaN_bits32]
  omega
theorem fl_64 {x : UInt64} : vf_n64 x ↔ FP.Core.dIsNaN x = false := by
  unfold vf_n64
  rw [UInt64.le_iff_toNat_le, UInt64.toNat_and, show (0x7fffffffffffffff : UInt64).toNat = 2 ^ 63 - 1 by decide, show (0x7ff0000000000000 : UInt64).toNat = 9218868437227405312 by decide, Nat.and_two_pow_sub_one_eq_mod, ← Bool.not_eq_true, FP.Core.isNaN_bits]
  omega
theorem fl_nf {x : UInt32} (h : FP.Core.FFin x) : FP.Core.fIsNaN x = false := by
  have := (FP.Core.fin_bits32 x).mp h
  rw [← Bool.not_eq_true, FP.Core.isNaN_bits32]
  omega
theorem fl_nd {x : UInt64} (h : FP.Core.DFin x) : FP.Core.dIsNaN x = false := by
  have := (FP.Core.fin_bits x).mp h
  rw [← Bool.not_eq_true, FP.Core.isNaN_bits]
  omega
theorem fl_f {x y : Int32} (h : y ≠ 0) : vf_n32 (FP.fdiv (FP.i2f x) (FP.i2f y)) :=
  fl_32.mpr (FP.Core.fdiv_out (fl_nf (FP.Core.i2f_fin x)) (FP.Core.i2f_fin y) (fun z => FP.Core.i2f_ne_zero h ((FP.Core.zero_bits232 _).mp z)))
theorem fl_d {x y : Int32} (h : y ≠ 0) : vf_n64 (FP.ddiv (FP.i2d x) (FP.i2d y)) :=
  fl_64.mpr (FP.Core.ddiv_out (fl_nd (FP.Core.i2d_fin x)) (FP.Core.i2d_fin y) (fun z => FP.Core.i2d_ne_zero h ((FP.Core.zero_bits2 _).mp z)))
theorem fl_w {x : UInt32} (h : vf_n32 x) : vf_n64 (FP.f2d x) := fl_64.mpr ((FP.f2d_nan x).trans (fl_32.mp h))
def Mf (l : Launch) (y : MethodName) (ws : List Cond) (rm : Room) (D : va_G) (tys : List (ClassId × FieldType)) (as : List Value) (Bs Bs' : List va_W) (r : UInt32) (mc ms : Nat) : Prop :=
  ∀ sz : Nat, Met l y ws rm (kPre D tys as Bs sz) (va_Qf (fun (x : UInt32) (_ : Unit) => x = r) (fun _ t => kQ D tys (va_A Bs.flatten sz) Bs' t) (va_A Bs.flatten sz)) mc ms (va_A Bs.flatten sz)
def Xf (l : Launch) (y : MethodName) (ws : List Cond) (rm : Room) (D : va_G) (tys : List (ClassId × FieldType)) (as : List Value) (Bs : List va_W) (ok : Prop) (Bs1 : List va_W) (r : UInt32) (E : String) (Bs2 : List va_W) (mc ms : Nat) : Prop :=
  ∀ sz : Nat, vx_Met l y ws rm (kPreX D tys as Bs sz) (va_Qf (fun (x : UInt32) (_ : Unit) => ok ∧ x = r) (fun _ t => kQ D tys (va_A Bs.flatten sz) Bs1 t) (va_A Bs.flatten sz)) (vx_X (fun (_ : Unit) => ¬ ok) (fun E' _ t => E' = E ∧ kQ D tys (va_A Bs.flatten sz) Bs2 t) (va_A Bs.flatten sz)) mc ms (va_A Bs.flatten sz)
section KB8f
variable {p : Program} {l : Launch} {e : Env} {R : Room} {s : State} {m : MethodId} {args : Array Value} {below : List Frame} {meth : Method} {c : Code} {H : Heap} {locs : List Loc} {cells slots : Nat} {Q : State → Prop}
variable {cc : ByteArray} {pc : Nat} {ls : Array Slot} {rest st : List Value} {D : va_G} {A : Nat → Prop} {a : Nat} {tys : List (ClassId × FieldType)} {Bs : List va_W} {H0 : Heap}
variable {y : MethodName} {bytes : ByteArray} {maxL nL mc ms n index : Nat} {ret : Option FieldType} {wsy Ts : List Cond} {rm : Room} {own C : String} {b : Nat} {As : List Value} {Cs Cs' Rs Bs' : List va_W} {r : UInt32}
theorem e_f {v : UInt32} (hexec : p.tables.exec = Jvm.exec) (hb : c.code = cc) (hr : meth.sig.returnType = some .float) (hlocks : meth.locks = false) (w : kW D tys A s.heap s H locs Bs') (hv : v = r) (hdg : decode cc pc = .ok (.freturn, 1)) (hc : cells ≤ mc) (hs : slots ≤ ms) :
    W p l e R s m args below meth c H locs cells slots (MQ below (va_Qf (fun (x : UInt32) (_ : Unit) => x = r) (fun _ t => kQ D tys A Bs' t) A) args s mc ms A) (F0 m pc ls [.float v]) := by
  refine W.widen hc hs ?_
  exact W.fret (v := v) hexec hb hr (fun t ht hW => ⟨⟨v, (), rfl, hv, ⟨by rw [ht]; exact w.2.1, va_K.moved hW.alike w.1, w.2.2.1⟩⟩, w.2.2.2.1.F ht⟩) w.2.2.2.1.2.2 hdg hlocks
end KB8f
theorem m_f {l : Launch} {y : MethodName} {ws ws' : List Cond} {rm : Room} {D : va_G} {tys : List (ClassId × FieldType)} {as : List Value} {Bs Bs' : List va_W} {r : UInt32} {mc ms maxL : Nat} {cc : ByteArray} {ret : Option FieldType} (hy : plainName y.cls = true) (hw : ws = Cond.code y cc maxL ret :: ws') (hmx : (lg_sl as).length ≤ maxL)
    (body : ∀ (p : Program) (e : Env) (s : State) (m : MethodId) (below : List Frame) (meth : Method) (c : Code) (A : Nat → Prop) (ls : Array Slot), p.tables.exec = Jvm.exec → c.code = cc → c.maxLocals = maxL → meth.sig.returnType = ret → meth.locks = false → s.vm.findClass y.cls = some m.cls → (∀ w ∈ ws, w.before as.toArray s = true) → kW D tys A s.heap s s.heap [] Bs → lv_has ls maxL (lv_args 0 as) →
      W p l e rm s m as.toArray below meth c s.heap [] 0 0 (MQ below (va_Qf (fun (x : UInt32) (_ : Unit) => x = r) (fun _ t => kQ D tys A Bs' t) A) as.toArray s mc ms A) (F0 m 0 ls [])) : Mf l y ws rm D tys as Bs Bs' r mc ms := by
  intro sz
  refine Met.ofW (cc := cc) (maxL := maxL) (ret := ret) hy hw ?_
  intro p e s m args below meth c s₁ B hml hv
  obtain ⟨rfl, hsz, hP, hK, hD0, hN⟩ := hv
  subst hsz
  rw [lg_entry_eq]
  exact body p e s m below meth c _ _ B.exec B.bytes hml B.returns B.notSynchronized (findClass_of_methodNamed B.named) (atoms_spec (ws := ws) B.pre) ⟨hK, hP, hD0.self, va_S.rf, fun q h => Or.inr h, hN⟩ (lv_entry as hmx)
section KB9f
variable {p : Program} {l : Launch} {e : Env} {R : Room} {s : State} {m : MethodId} {args : Array Value} {below : List Frame} {meth : Method} {c : Code} {H : Heap} {locs : List Loc} {cells slots : Nat} {Qc : Array Value → State → Outcome → State → Prop}
variable {cc : ByteArray} {pc : Nat} {ls : Array Slot} {rest st : List Value} {D : va_G} {A : Nat → Prop} {tys : List (ClassId × FieldType)} {Bs Bs' Bs1 Bs2 : List va_W} {mc ms : Nat} {r : UInt32} {ok : Prop} {XC : String → State → State → Prop}
theorem x_f {v : UInt32} (hexec : p.tables.exec = Jvm.exec) (hb : c.code = cc) (hr : meth.sig.returnType = some .float) (hlocks : meth.locks = false) (w : kW D tys A s.heap s H locs Bs1) (hok : ok) (hv : v = r) (hdg : decode cc pc = .ok (.freturn, 1)) (hc : cells ≤ mc) (hs : slots ≤ ms) :
    W p l e R s m args below meth c H locs cells slots (vx_MQ below (va_Qf (fun (x : UInt32) (_ : Unit) => ok ∧ x = r) (fun _ t => kQ D tys A Bs1 t) A) XC args s mc ms A) (F0 m pc ls [.float v]) := by
  refine vx_ret (W.widen hc hs ?_)
  exact W.fret (v := v) hexec hb hr (fun t ht hW => ⟨⟨v, (), rfl, ⟨hok, hv⟩, ⟨by rw [ht]; exact w.2.1, va_K.moved hW.alike w.1, w.2.2.1⟩⟩, w.2.2.2.1.F ht⟩) w.2.2.2.1.2.2 hdg hlocks
end KB9f
theorem m_xf {l : Launch} {y : MethodName} {ws ws' : List Cond} {rm : Room} {D : va_G} {tys : List (ClassId × FieldType)} {as : List Value} {Bs Bs1 Bs2 : List va_W} {r : UInt32} {ok : Prop} {E : String} {mc ms maxL : Nat} {cc : ByteArray} {ret : Option FieldType} (hy : plainName y.cls = true) (hw : ws = Cond.code y cc maxL ret :: ws') (hmx : (lg_sl as).length ≤ maxL)
    (body : ∀ (p : Program) (e : Env) (s : State) (m : MethodId) (below : List Frame) (meth : Method) (c : Code) (A : Nat → Prop) (ls : Array Slot), p.tables.exec = Jvm.exec → c.code = cc → c.maxLocals = maxL → meth.sig.returnType = ret → meth.locks = false → s.vm.findClass y.cls = some m.cls → (∀ w ∈ ws, w.before as.toArray s = true) → (∀ x ∈ c.exceptionTable.toList, False) → kZ A s → kW D tys A s.heap s s.heap [] Bs → lv_has ls maxL (lv_args 0 as) →
      W p l e rm s m as.toArray below meth c s.heap [] 0 0 (vx_MQ below (va_Qf (fun (x : UInt32) (_ : Unit) => ok ∧ x = r) (fun _ t => kQ D tys A Bs1 t) A) (vx_X (fun (_ : Unit) => ¬ ok) (fun E' _ t => E' = E ∧ kQ D tys A Bs2 t) A) as.toArray s mc ms A) (F0 m 0 ls [])) : Xf l y ws rm D tys as Bs ok Bs1 r E Bs2 mc ms := by
  intro sz
  refine vx_ofW (cc := cc) (maxL := maxL) (ret := ret) hy hw ?_
  intro p e s m args below meth c s₁ B hml hex hv
  obtain ⟨rfl, hsz, hP, hK, hD0, hN, hZ⟩ := hv
  subst hsz
  rw [lg_entry_eq]
  exact body p e s m below meth c _ _ B.exec B.bytes hml B.returns B.notSynchronized (findClass_of_methodNamed B.named) (atoms_spec (ws := ws) B.pre) hex hZ ⟨hK, hP, hD0.self, va_S.rf, fun q h => Or.inr h, hN⟩ (lv_entry as hmx)
def Md (l : Launch) (y : MethodName) (ws : List Cond) (rm : Room) (D : va_G) (tys : List (ClassId × FieldType)) (as : List Value) (Bs Bs' : List va_W) (r : UInt64) (mc ms : Nat) : Prop :=
  ∀ sz : Nat, Met l y ws rm (kPre D tys as Bs sz) (va_Qd (fun (x : UInt64) (_ : Unit) => x = r) (fun _ t => kQ D tys (va_A Bs.flatten sz) Bs' t) (va_A Bs.flatten sz)) mc ms (va_A Bs.flatten sz)
def Xd (l : Launch) (y : MethodName) (ws : List Cond) (rm : Room) (D : va_G) (tys : List (ClassId × FieldType)) (as : List Value) (Bs : List va_W) (ok : Prop) (Bs1 : List va_W) (r : UInt64) (E : String) (Bs2 : List va_W) (mc ms : Nat) : Prop :=
  ∀ sz : Nat, vx_Met l y ws rm (kPreX D tys as Bs sz) (va_Qd (fun (x : UInt64) (_ : Unit) => ok ∧ x = r) (fun _ t => kQ D tys (va_A Bs.flatten sz) Bs1 t) (va_A Bs.flatten sz)) (vx_X (fun (_ : Unit) => ¬ ok) (fun E' _ t => E' = E ∧ kQ D tys (va_A Bs.flatten sz) Bs2 t) (va_A Bs.flatten sz)) mc ms (va_A Bs.flatten sz)
section KB8d
variable {p : Program} {l : Launch} {e : Env} {R : Room} {s : State} {m : MethodId} {args : Array Value} {below : List Frame} {meth : Method} {c : Code} {H : Heap} {locs : List Loc} {cells slots : Nat} {Q : State → Prop}
variable {cc : ByteArray} {pc : Nat} {ls : Array Slot} {rest st : List Value} {D : va_G} {A : Nat → Prop} {a : Nat} {tys : List (ClassId × FieldType)} {Bs : List va_W} {H0 : Heap}
variable {y : MethodName} {bytes : ByteArray} {maxL nL mc ms n index : Nat} {ret : Option FieldType} {wsy Ts : List Cond} {rm : Room} {own C : String} {b : Nat} {As : List Value} {Cs Cs' Rs Bs' : List va_W} {r : UInt64}
theorem e_d {v : UInt64} (hexec : p.tables.exec = Jvm.exec) (hb : c.code = cc) (hr : meth.sig.returnType = some .double) (hlocks : meth.locks = false) (w : kW D tys A s.heap s H locs Bs') (hv : v = r) (hdg : decode cc pc = .ok (.dreturn, 1)) (hc : cells ≤ mc) (hs : slots ≤ ms) :
    W p l e R s m args below meth c H locs cells slots (MQ below (va_Qd (fun (x : UInt64) (_ : Unit) => x = r) (fun _ t => kQ D tys A Bs' t) A) args s mc ms A) (F0 m pc ls [.double v]) := by
  refine W.widen hc hs ?_
  exact W.dret (v := v) hexec hb hr (fun t ht hW => ⟨⟨v, (), rfl, hv, ⟨by rw [ht]; exact w.2.1, va_K.moved hW.alike w.1, w.2.2.1⟩⟩, w.2.2.2.1.F ht⟩) w.2.2.2.1.2.2 hdg hlocks
end KB8d
theorem m_d {l : Launch} {y : MethodName} {ws ws' : List Cond} {rm : Room} {D : va_G} {tys : List (ClassId × FieldType)} {as : List Value} {Bs Bs' : List va_W} {r : UInt64} {mc ms maxL : Nat} {cc : ByteArray} {ret : Option FieldType} (hy : plainName y.cls = true) (hw : ws = Cond.code y cc maxL ret :: ws') (hmx : (lg_sl as).length ≤ maxL)
    (body : ∀ (p : Program) (e : Env) (s : State) (m : MethodId) (below : List Frame) (meth : Method) (c : Code) (A : Nat → Prop) (ls : Array Slot), p.tables.exec = Jvm.exec → c.code = cc → c.maxLocals = maxL → meth.sig.returnType = ret → meth.locks = false → s.vm.findClass y.cls = some m.cls → (∀ w ∈ ws, w.before as.toArray s = true) → kW D tys A s.heap s s.heap [] Bs → lv_has ls maxL (lv_args 0 as) →
      W p l e rm s m as.toArray below meth c s.heap [] 0 0 (MQ below (va_Qd (fun (x : UInt64) (_ : Unit) => x = r) (fun _ t => kQ D tys A Bs' t) A) as.toArray s mc ms A) (F0 m 0 ls [])) : Md l y ws rm D tys as Bs Bs' r mc ms := by
  intro sz
  refine Met.ofW (cc := cc) (maxL := maxL) (ret := ret) hy hw ?_
  intro p e s m args below meth c s₁ B hml hv
  obtain ⟨rfl, hsz, hP, hK, hD0, hN⟩ := hv
  subst hsz
  rw [lg_entry_eq]
  exact body p e s m below meth c _ _ B.exec B.bytes hml B.returns B.notSynchronized (findClass_of_methodNamed B.named) (atoms_spec (ws := ws) B.pre) ⟨hK, hP, hD0.self, va_S.rf, fun q h => Or.inr h, hN⟩ (lv_entry as hmx)
section KB9d
variable {p : Program} {l : Launch} {e : Env} {R : Room} {s : State} {m : MethodId} {args : Array Value} {below : List Frame} {meth : Method} {c : Code} {H : Heap} {locs : List Loc} {cells slots : Nat} {Qc : Array Value → State → Outcome → State → Prop}
variable {cc : ByteArray} {pc : Nat} {ls : Array Slot} {rest st : List Value} {D : va_G} {A : Nat → Prop} {tys : List (ClassId × FieldType)} {Bs Bs' Bs1 Bs2 : List va_W} {mc ms : Nat} {r : UInt64} {ok : Prop} {XC : String → State → State → Prop}
theorem x_d {v : UInt64} (hexec : p.tables.exec = Jvm.exec) (hb : c.code = cc) (hr : meth.sig.returnType = some .double) (hlocks : meth.locks = false) (w : kW D tys A s.heap s H locs Bs1) (hok : ok) (hv : v = r) (hdg : decode cc pc = .ok (.dreturn, 1)) (hc : cells ≤ mc) (hs : slots ≤ ms) :
    W p l e R s m args below meth c H locs cells slots (vx_MQ below (va_Qd (fun (x : UInt64) (_ : Unit) => ok ∧ x = r) (fun _ t => kQ D tys A Bs1 t) A) XC args s mc ms A) (F0 m pc ls [.double v]) := by
  refine vx_ret (W.widen hc hs ?_)
  exact W.dret (v := v) hexec hb hr (fun t ht hW => ⟨⟨v, (), rfl, ⟨hok, hv⟩, ⟨by rw [ht]; exact w.2.1, va_K.moved hW.alike w.1, w.2.2.1⟩⟩, w.2.2.2.1.F ht⟩) w.2.2.2.1.2.2 hdg hlocks
end KB9d
theorem m_xd {l : Launch} {y : MethodName} {ws ws' : List Cond} {rm : Room} {D : va_G} {tys : List (ClassId × FieldType)} {as : List Value} {Bs Bs1 Bs2 : List va_W} {r : UInt64} {ok : Prop} {E : String} {mc ms maxL : Nat} {cc : ByteArray} {ret : Option FieldType} (hy : plainName y.cls = true) (hw : ws = Cond.code y cc maxL ret :: ws') (hmx : (lg_sl as).length ≤ maxL)
    (body : ∀ (p : Program) (e : Env) (s : State) (m : MethodId) (below : List Frame) (meth : Method) (c : Code) (A : Nat → Prop) (ls : Array Slot), p.tables.exec = Jvm.exec → c.code = cc → c.maxLocals = maxL → meth.sig.returnType = ret → meth.locks = false → s.vm.findClass y.cls = some m.cls → (∀ w ∈ ws, w.before as.toArray s = true) → (∀ x ∈ c.exceptionTable.toList, False) → kZ A s → kW D tys A s.heap s s.heap [] Bs → lv_has ls maxL (lv_args 0 as) →
      W p l e rm s m as.toArray below meth c s.heap [] 0 0 (vx_MQ below (va_Qd (fun (x : UInt64) (_ : Unit) => ok ∧ x = r) (fun _ t => kQ D tys A Bs1 t) A) (vx_X (fun (_ : Unit) => ¬ ok) (fun E' _ t => E' = E ∧ kQ D tys A Bs2 t) A) as.toArray s mc ms A) (F0 m 0 ls [])) : Xd l y ws rm D tys as Bs ok Bs1 r E Bs2 mc ms := by
  intro sz
  refine vx_ofW (cc := cc) (maxL := maxL) (ret := ret) hy hw ?_
  intro p e s m args below meth c s₁ B hml hex hv
  obtain ⟨rfl, hsz, hP, hK, hD0, hN, hZ⟩ := hv
  subst hsz
  rw [lg_entry_eq]
  exact body p e s m below meth c _ _ B.exec B.bytes hml B.returns B.notSynchronized (findClass_of_methodNamed B.named) (atoms_spec (ws := ws) B.pre) hex hZ ⟨hK, hP, hD0.self, va_S.rf, fun q h => Or.inr h, hN⟩ (lv_entry as hmx)
def tMean (n : Nat) : Int32 := if n = 0 then 1 else 0
def vMean (S : pS) (n : Nat) : UInt32 := if n = 0 then FP.fconst0 else FP.fdiv (FP.i2f (pTemp S n)) (FP.i2f (nI n))
def tShare (S : pS) (n : Nat) (v : Int32) : Int32 := if pHas v n = true then (if S 210 = 0 then 2 else 0) else 1
def vShare (S : pS) (v : Int32) : UInt64 := FP.ddiv (FP.i2d (S (1 + 6 * cN v + 5))) (FP.i2d (S 210))
