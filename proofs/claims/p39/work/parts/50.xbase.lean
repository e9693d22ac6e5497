/-! ===== calls that may throw ===== -/
def xNm : List String := ["java/lang/RuntimeException", "java/lang/Exception"]
def xBad : List Cond := (["java/lang/UnsupportedOperationException"].flatMap (fun q => (vx_atS RX8 0 q xNm).filter (fun w => !goodWord w)))
def xCast : Cond → Bool
  | .castable _ _ => true
  | .declares _ => true
  | _ => false
theorem xBad_c : ∀ w ∈ xBad, xCast w = true := by decide +kernel
theorem xCast_of {w : Cond} (h : xCast w = true) : (∃ C T, w = .castable C T) ∨ ∃ x, w = .declares x := by
  cases w <;> first | exact Or.inl ⟨_, _, rfl⟩ | exact Or.inr ⟨_, rfl⟩ | exact absurd h (by simp [xCast])
/-- the pairs of classes that a throw asks for -/
def kC (s : State) : Prop := ∀ w ∈ xBad, va_Nw w s
theorem kC.warm {s U : State} (hW : s.WarmedH U.vm) (h : kC s) : kC U := fun w hw => by
  rcases xCast_of (xBad_c w hw) with ⟨C, T, rfl⟩ | ⟨x, rfl⟩
  · exact va_Nw.warmC hW (h _ hw)
  · exact va_Nw.warmD hW (h _ hw)
theorem kC.use {s : State} {args : Array Value} (h : kC s) : ∀ w ∈ xBad, w.before args s = true := fun w hw => by
  rcases xCast_of (xBad_c w hw) with ⟨C, T, rfl⟩ | ⟨x, rfl⟩
  · exact va_Nw.use rfl (h _ hw)
  · exact va_Nw.use rfl (h _ hw)
def xStr : List (Nat × String) := [(60, "the household is refused"), (83, "joining is refused"), (92, "leaving is refused"), (100, "drawing is refused"), (109, "the vote is refused"), (118, "the rain is refused"), (132, "the nights are refused"), (140, "the coins are refused"), (148, "the leather is refused"), (159, "there is no such household"), (198, "there is no such number of a household"), (204, "there is no such place in the queue"), (226, "there is no such law"), (239, "the household does not wait"), (391, "there is no such account")]
/-- the string constants of the class -/
def kStr (s : State) : Prop := ∀ z ∈ xStr, ∃ q, vk_R RX8 z.1 z.2 q s
theorem kStr.warm {s U : State} (hW : s.WarmedH U.vm) (h : kStr s) : kStr U := fun z hz => by
  obtain ⟨q, hq⟩ := h z hz
  exact ⟨q, vk_R.warm hW hq⟩
def kZ (A : Nat → Prop) (U : State) : Prop := (kC U ∧ kStr U) ∧ vx_Zq Bundle.tN "UNASSIGNED_STACK" Bundle.steD A U U.heap ∧ vx_Zq Bundle.tN "SUPPRESSED_SENTINEL" Bundle.listD A U U.heap
def kPreX (D : va_G) (tys : List (ClassId × FieldType)) (as : List Value) (Bs : List va_W) (sz : Nat) : Array Value → State → Prop :=
  va_Pc as (fun U => U.heap.size = sz ∧ va_P D vwCl Bs.flatten U.heap ∧ va_K D vwCl tys U ∧ va_D (fun _ => True) Bs.flatten ∧ kN U ∧ kZ (va_A Bs.flatten sz) U)
/-- y, called with as over the blocks Bs: where ok, it returns the int r and leaves Bs1; else it throws E and leaves Bs2 -/
def Xi (l : Launch) (y : MethodName) (ws : List Cond) (rm : Room) (D : va_G) (tys : List (ClassId × FieldType)) (as : List Value) (Bs : List va_W) (ok : Prop) (Bs1 : List va_W) (r : Int32) (E : String) (Bs2 : List va_W) (mc ms : Nat) : Prop :=
  ∀ sz : Nat, vx_Met l y ws rm (kPreX D tys as Bs sz) (va_Qi (fun (x : Int32) (_ : Unit) => ok ∧ x = r) (fun _ t => kQ D tys (va_A Bs.flatten sz) Bs1 t) (va_A Bs.flatten sz)) (vx_X (fun (_ : Unit) => ¬ ok) (fun E' _ t => E' = E ∧ kQ D tys (va_A Bs.flatten sz) Bs2 t) (va_A Bs.flatten sz)) mc ms (va_A Bs.flatten sz)
/-- a string constant out of its word -/
theorem x_str {own tx : String} {k cur : Nat} {args : Array Value} {s : State} (hown : s.vm.findClass own = some cur) (h : (Cond.stringRef own k tx).before args s = true) : ∃ q, vk_R own k tx q s := by
  obtain ⟨_, _, _, q, _, _, _, _, _, hv⟩ := Cond.stringRef_spec hown h
  exact ⟨q, vk_R.of h hv⟩
section KB7
variable {p : Program} {l : Launch} {e : Env} {R : Room} {s : State} {m : MethodId} {args : Array Value} {below : List Frame} {meth : Method} {c : Code} {H : Heap} {locs : List Loc} {cells slots : Nat} {Qc : Array Value → State → Outcome → State → Prop}
variable {cc : ByteArray} {pc : Nat} {ls : Array Slot} {rest st : List Value} {D : va_G} {A : Nat → Prop} {tys : List (ClassId × FieldType)} {Bs Bs' Bs1 Bs2 : List va_W} {mc ms : Nat} {r : Int32} {ok : Prop} {XC : String → State → State → Prop}
theorem x_i {v : Int32} (hexec : p.tables.exec = Jvm.exec) (hb : c.code = cc) (hr : meth.sig.returnType = some .int) (hlocks : meth.locks = false) (w : kW D tys A s.heap s H locs Bs1) (hok : ok) (hv : v = r) (hdg : decode cc pc = .ok (.ireturn, 1)) (hc : cells ≤ mc) (hs : slots ≤ ms) :
    W p l e R s m args below meth c H locs cells slots (vx_MQ below (va_Qi (fun (x : Int32) (_ : Unit) => ok ∧ x = r) (fun _ t => kQ D tys A Bs1 t) A) XC args s mc ms A) (F0 m pc ls [.int v]) := by
  refine vx_ret (W.widen hc hs ?_)
  exact W.iret (v := v) hexec hb hr (fun t ht hW => ⟨⟨v, (), rfl, ⟨hok, hv⟩, ⟨by rw [ht]; exact w.2.1, va_K.moved hW.alike w.1, w.2.2.1⟩⟩, w.2.2.2.1.F ht⟩) w.2.2.2.1.2.2 hdg hlocks
theorem x_frame {t : State} (hS : va_S A s.heap H locs) (h1 : H.size ≤ t.heap.size) (h2 : ∀ q : Nat, q < H.size → t.heap[q]? = H[q]?) : va_F A s t :=
  ⟨Nat.le_trans hS.1 h1, fun q a b => by rw [h2 q (Nat.lt_of_lt_of_le a hS.1)]; exact hS.2.1 q a b⟩
theorem x_kept {t : State} (w : kW D tys A s.heap s H locs Bs2) (ha : s.vm.Alike t.vm) (h2 : ∀ q : Nat, q < H.size → t.heap[q]? = H[q]?) : kQ D tys A Bs2 t :=
  ⟨fun k q hk => (w.2.1 k q hk).kept (h2 q.1 (w.2.1 k q hk).lt), va_K.moved ha w.1, w.2.2.1⟩
theorem x_throw {E : String} (hexec : p.tables.exec = Jvm.exec) (hb : c.code = cc) (hl : l.stackTraces = false) {own cls text : String} {names : List String} {ik is ic : Nat}
    (w : kW D tys A s.heap s H locs Bs2) (hz : kZ A s) (hno : ¬ ok) (hE : cls = E)
    (hown : s.vm.findClass own = some m.cls) (hcls : Bundle.fit cls = true) (hnames : ∀ n ∈ names, Bundle.fit n = true)
    (hk : (Cond.classLink own ik cls).before args s = true) (hini : (Cond.initialized cls).before args s = true) (hstr : ∃ q, vk_R own is text q s) (hat : ∀ w ∈ vx_atS own ic cls names, w.before args s = true)
    (hgood : ∀ w ∈ Cond.classLink own ik cls :: Cond.initialized cls :: vx_atS own ic cls names, vx_ot w = true) (hsize : ls.size = c.maxLocals)
    (d0 : decode cc pc = .ok (.new ik, 3)) (d3 : decode cc (pc + 3) = .ok (.dup, 1)) (d4 : decode cc (pc + 4) = .ok (.ldc is, 2)) (d6 : decode cc (pc + 6) = .ok (.invokespecial ic, 3)) (d9 : decode cc (pc + 9) = .ok (.athrow, 1))
    (hout : ∀ x ∈ c.exceptionTable.toList, False)
    (hRframes : names.length + 3 < R.frames) (hRlocals : (rest.map fun v => v.category).sum + (13 * (names.length + 1) + 43) ≤ R.locals) (hRcells : cells + 1 ≤ R.cells) (hRslots : slots + 6 ≤ R.slots) (hlocks : meth.locks = false)
    (hc : cells + 1 ≤ mc) (hs : slots + 6 ≤ ms) :
    W p l e R s m args below meth c H locs cells slots (vx_MQ below Qc (vx_X (fun (_ : Unit) => ¬ ok) (fun E' _ t => E' = E ∧ kQ D tys A Bs2 t) A) args s mc ms A) (F0 m pc ls rest) := by
  obtain ⟨sa, hsa⟩ := hstr
  exact vx_throwS hexec hb hl hown hcls hnames hk hini hsa hat hgood hz.2.1 hz.2.2 w.2.2.2.1 hsize d0 d3 d4 d6 d9 (fun x hx => (hout x hx).elim) hRframes hRlocals hRcells hRslots hlocks
    (fun t ha h1 h2 => ⟨(), hno, ⟨hE, x_kept w ha h2⟩, x_frame w.2.2.2.1 h1 h2⟩) w.2.2.2.1.2.2 hc hs
theorem x_throwW {E : String} (hexec : p.tables.exec = Jvm.exec) (hb : c.code = cc) (hl : l.stackTraces = false) {own cls text : String} {names : List String} {ik is ic : Nat}
    (w : kW D tys A s.heap s H locs Bs2) (hz : kZ A s) (hno : ¬ ok) (hE : cls = E)
    (hown : s.vm.findClass own = some m.cls) (hcls : Bundle.fit cls = true) (hnames : ∀ n ∈ names, Bundle.fit n = true)
    (hk : (Cond.classLink own ik cls).before args s = true) (hini : (Cond.initialized cls).before args s = true) (hstr : ∃ q, vk_R own is text q s) (hat : ∀ w ∈ vx_atS own ic cls names, w.before args s = true)
    (hgood : ∀ w ∈ Cond.classLink own ik cls :: Cond.initialized cls :: vx_atS own ic cls names, vx_ot w = true) (hsize : ls.size = c.maxLocals)
    (d0 : decode cc pc = .ok (.new ik, 3)) (d3 : decode cc (pc + 3) = .ok (.dup, 1)) (d4 : decode cc (pc + 4) = .ok (.ldc_w is, 3)) (d6 : decode cc (pc + 7) = .ok (.invokespecial ic, 3)) (d9 : decode cc (pc + 10) = .ok (.athrow, 1))
    (hout : ∀ x ∈ c.exceptionTable.toList, False)
    (hRframes : names.length + 3 < R.frames) (hRlocals : (rest.map fun v => v.category).sum + (13 * (names.length + 1) + 43) ≤ R.locals) (hRcells : cells + 1 ≤ R.cells) (hRslots : slots + 6 ≤ R.slots) (hlocks : meth.locks = false)
    (hc : cells + 1 ≤ mc) (hs : slots + 6 ≤ ms) :
    W p l e R s m args below meth c H locs cells slots (vx_MQ below Qc (vx_X (fun (_ : Unit) => ¬ ok) (fun E' _ t => E' = E ∧ kQ D tys A Bs2 t) A) args s mc ms A) (F0 m pc ls rest) := by
  obtain ⟨sa, hsa⟩ := hstr
  exact vx_throwSW hexec hb hl hown hcls hnames hk hini hsa hat hgood hz.2.1 hz.2.2 w.2.2.2.1 hsize d0 d3 d4 d6 d9 (fun x hx => (hout x hx).elim) hRframes hRlocals hRcells hRslots hlocks
    (fun t ha h1 h2 => ⟨(), hno, ⟨hE, x_kept w ha h2⟩, x_frame w.2.2.2.1 h1 h2⟩) w.2.2.2.1.2.2 hc hs
end KB7
theorem m_xi {l : Launch} {y : MethodName} {ws ws' : List Cond} {rm : Room} {D : va_G} {tys : List (ClassId × FieldType)} {as : List Value} {Bs Bs1 Bs2 : List va_W} {r : Int32} {ok : Prop} {E : String} {mc ms maxL : Nat} {cc : ByteArray} {ret : Option FieldType} (hy : plainName y.cls = true) (hw : ws = Cond.code y cc maxL ret :: ws') (hmx : (lg_sl as).length ≤ maxL)
    (body : ∀ (p : Program) (e : Env) (s : State) (m : MethodId) (below : List Frame) (meth : Method) (c : Code) (A : Nat → Prop) (ls : Array Slot), p.tables.exec = Jvm.exec → c.code = cc → c.maxLocals = maxL → meth.sig.returnType = ret → meth.locks = false → s.vm.findClass y.cls = some m.cls → (∀ w ∈ ws, w.before as.toArray s = true) → (∀ x ∈ c.exceptionTable.toList, False) → kZ A s → kW D tys A s.heap s s.heap [] Bs → lv_has ls maxL (lv_args 0 as) →
      W p l e rm s m as.toArray below meth c s.heap [] 0 0 (vx_MQ below (va_Qi (fun (x : Int32) (_ : Unit) => ok ∧ x = r) (fun _ t => kQ D tys A Bs1 t) A) (vx_X (fun (_ : Unit) => ¬ ok) (fun E' _ t => E' = E ∧ kQ D tys A Bs2 t) A) as.toArray s mc ms A) (F0 m 0 ls [])) : Xi l y ws rm D tys as Bs ok Bs1 r E Bs2 mc ms := by
  intro sz
  refine vx_ofW (cc := cc) (maxL := maxL) (ret := ret) hy hw ?_
  intro p e s m args below meth c s₁ B hml hex hv
  obtain ⟨rfl, hsz, hP, hK, hD0, hN, hZ⟩ := hv
  subst hsz
  rw [lg_entry_eq]
  exact body p e s m below meth c _ _ B.exec B.bytes hml B.returns B.notSynchronized (findClass_of_methodNamed B.named) (atoms_spec (ws := ws) B.pre) hex hZ ⟨hK, hP, hD0.self, va_S.rf, fun q h => Or.inr h, hN⟩ (lv_entry as hmx)
theorem xb_62 : ∀ w ∈ (vx_atS RX8 62 "java/lang/UnsupportedOperationException" ["java/lang/RuntimeException", "java/lang/Exception"]).filter (fun w => !goodWord w), w ∈ xBad := by decide +kernel
theorem xg_62 : ∀ w ∈ vx_atS RX8 62 "java/lang/UnsupportedOperationException" ["java/lang/RuntimeException", "java/lang/Exception"], vx_ot w = true := by decide +kernel
theorem xg_c {own cls : String} {ik : Nat} {L : List Cond} (h : ∀ w ∈ L, vx_ot w = true) : ∀ w ∈ Cond.classLink own ik cls :: Cond.initialized cls :: L, vx_ot w = true := fun w hw => by
  rcases List.mem_cons.mp hw with e | hw
  · rw [e]; rfl
  · rcases List.mem_cons.mp hw with e | hw
    · rw [e]; rfl
    · exact h w hw
