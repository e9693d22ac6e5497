/-! ===== calls that may throw and read the JDK's own constants; letters as answers ===== -/
def kPreXJ (J : Nat → Nat) (D : va_G) (tys : List (ClassId × FieldType)) (as : List Value) (Bs : List va_W) (sz : Nat) : Array Value → State → Prop :=
  va_Pc as (fun U => U.heap.size = sz ∧ va_P D vwCl Bs.flatten U.heap ∧ va_K D vwCl tys U ∧ va_D (fun _ => True) Bs.flatten ∧ kN U ∧ kZ (va_A Bs.flatten sz) U ∧ kJ J (va_A Bs.flatten sz) U)
def XJi (J : Nat → Nat) (l : Launch) (y : MethodName) (ws : List Cond) (rm : Room) (D : va_G) (tys : List (ClassId × FieldType)) (as : List Value) (Bs : List va_W) (ok : Prop) (Bs1 : List va_W) (r : Int32) (E : String) (Bs2 : List va_W) (mc ms : Nat) : Prop :=
  ∀ sz : Nat, vx_Met l y ws rm (kPreXJ J D tys as Bs sz) (va_Qi (fun (x : Int32) (_ : Unit) => ok ∧ x = r) (fun _ t => kQ D tys (va_A Bs.flatten sz) Bs1 t) (va_A Bs.flatten sz)) (vx_X (fun (_ : Unit) => ¬ ok) (fun E' _ t => E' = E ∧ kQ D tys (va_A Bs.flatten sz) Bs2 t) (va_A Bs.flatten sz)) mc ms (va_A Bs.flatten sz)
theorem m_xji {J : Nat → Nat} {l : Launch} {y : MethodName} {ws ws' : List Cond} {rm : Room} {D : va_G} {tys : List (ClassId × FieldType)} {as : List Value} {Bs Bs1 Bs2 : List va_W} {r : Int32} {ok : Prop} {E : String} {mc ms maxL : Nat} {cc : ByteArray} {ret : Option FieldType} (hy : plainName y.cls = true) (hw : ws = Cond.code y cc maxL ret :: ws') (hmx : (lg_sl as).length ≤ maxL)
    (body : ∀ (p : Program) (e : Env) (s : State) (m : MethodId) (below : List Frame) (meth : Method) (c : Code) (A : Nat → Prop) (ls : Array Slot), p.tables.exec = Jvm.exec → c.code = cc → c.maxLocals = maxL → meth.sig.returnType = ret → meth.locks = false → s.vm.findClass y.cls = some m.cls → (∀ w ∈ ws, w.before as.toArray s = true) → (∀ x ∈ c.exceptionTable.toList, False) → kZ A s → kJ J A s → kW D tys A s.heap s s.heap [] Bs → lv_has ls maxL (lv_args 0 as) →
      W p l e rm s m as.toArray below meth c s.heap [] 0 0 (vx_MQ below (va_Qi (fun (x : Int32) (_ : Unit) => ok ∧ x = r) (fun _ t => kQ D tys A Bs1 t) A) (vx_X (fun (_ : Unit) => ¬ ok) (fun E' _ t => E' = E ∧ kQ D tys A Bs2 t) A) as.toArray s mc ms A) (F0 m 0 ls [])) : XJi J l y ws rm D tys as Bs ok Bs1 r E Bs2 mc ms := by
  intro sz
  refine vx_ofW (cc := cc) (maxL := maxL) (ret := ret) hy hw ?_
  intro p e s m args below meth c s₁ B hml hex hv
  obtain ⟨rfl, hsz, hP, hK, hD0, hN, hZ, hJ⟩ := hv
  subst hsz
  rw [lg_entry_eq]
  exact body p e s m below meth c _ _ B.exec B.bytes hml B.returns B.notSynchronized (findClass_of_methodNamed B.named) (atoms_spec (ws := ws) B.pre) hex hZ hJ ⟨hK, hP, hD0.self, va_S.rf, fun q h => Or.inr h, hN⟩ (lv_entry as hmx)
section KBZ
variable {p : Program} {l : Launch} {e : Env} {R : Room} {s : State} {m : MethodId} {args : Array Value} {below : List Frame} {meth : Method} {c : Code} {H : Heap} {locs : List Loc} {cells slots : Nat} {Qc : Array Value → State → Outcome → State → Prop}
variable {cc : ByteArray} {pc : Nat} {ls : Array Slot} {rest st : List Value} {D : va_G} {A : Nat → Prop} {tys : List (ClassId × FieldType)} {Bs Bs' Bs1 Bs2 : List va_W} {mc ms : Nat} {r : Int32} {ok : Prop} {XC : String → State → State → Prop}
theorem x_z {rt : FieldType} {v : Int32} (hexec : p.tables.exec = Jvm.exec) (hb : c.code = cc) (hr : meth.sig.returnType = some rt) (hnw : narrow rt (.int v) = .int v) (hlocks : meth.locks = false) (w : kW D tys A s.heap s H locs Bs1) (hok : ok) (hv : v = r) (hdg : decode cc pc = .ok (.ireturn, 1)) (hc : cells ≤ mc) (hs : slots ≤ ms) :
    W p l e R s m args below meth c H locs cells slots (vx_MQ below (va_Qi (fun (x : Int32) (_ : Unit) => ok ∧ x = r) (fun _ t => kQ D tys A Bs1 t) A) XC args s mc ms A) (F0 m pc ls [.int v]) := by
  refine vx_ret (W.widen hc hs ?_)
  exact W.zret (v := v) hexec hb hr hnw (fun t ht hW => ⟨⟨v, (), rfl, ⟨hok, hv⟩, ⟨by rw [ht]; exact w.2.1, va_K.moved hW.alike w.1, w.2.2.1⟩⟩, w.2.2.2.1.F ht⟩) w.2.2.2.1.2.2 hdg (hlocks := hlocks)
end KBZ
/-- a minute of the ring as its text -/
def mEn (M : pS) (k : Nat) (kd dd da db : Nat) : Prop := M (2 + k) = nI kd ∧ M (22 + k) = nI dd ∧ M (42 + k) = nI da ∧ M (62 + k) = nI db ∧ kd ≤ 3 ∧ dd < 10 ^ 7 ∧ da < 100 ∧ db < 100
theorem lnT_b {kd dd da db : Nat} (h2 : dd < 10 ^ 7) (h3 : da < 100) (h4 : db < 100) : (lnT kd dd da db).length ≤ 16 := by
  have e2 := (dg_in h2).2.2
  have e3 := dg_hi (j := 1) (v := da) (by omega) h3
  have e4 := dg_hi (j := 1) (v := db) (by omega) h4
  unfold lnT
  split
  · simp only [List.length_append, List.length_cons, List.length_nil, dig_len]
    omega
  · split
    · simp only [List.length_append, List.length_cons, List.length_nil, dig_len]
      omega
    · simp only [List.length_append, List.length_cons, List.length_nil, dig_len]
      omega
theorem putL_d {g : pS} {k d : Nat} {L : List Int32} : putL (putL g k (dig d)) (k + (dgE 9 d + 1)) L = putL g k (dig d ++ L) := putL_app (by rw [dig_len])
theorem putL_c {g : pS} {k : Nat} {x : Int32} {L : List Int32} : putL (putL g k [x]) (k + 1) L = putL g k ([x] ++ L) := putL_app rfl
theorem putL_s {g : pS} {k : Nat} {L : List Int32} : putL (putL g k (jByt.getD 0 [])) (k + jLen.getD 0 0) L = putL g k (jByt.getD 0 [] ++ L) := putL_app rfl
theorem wf_0 {f : pS} {dd da db : Nat} : putL (putL (putL (putL (putL (putL (putL f 0 [nI 100]) (0 + 1) (dig dd)) ((0 + 1) + (dgE 9 dd + 1)) [nI 32]) (((0 + 1) + (dgE 9 dd + 1)) + 1) [nI 104]) ((((0 + 1) + (dgE 9 dd + 1)) + 1) + 1) (dig da)) (((((0 + 1) + (dgE 9 dd + 1)) + 1) + 1) + (dgE 9 da + 1)) [nI 98]) ((((((0 + 1) + (dgE 9 dd + 1)) + 1) + 1) + (dgE 9 da + 1)) + 1) (dig db) = putL f 0 (lnT 0 dd da db) := by
  rw [putL_c, putL_d, putL_c, putL_c, putL_d, putL_c]
  unfold lnT
  rw [if_pos (by omega), if_pos rfl]
  simp only [List.append_assoc]
  rfl
theorem wf_1 {f : pS} {dd da db : Nat} : putL (putL (putL (putL (putL (putL (putL f 0 [nI 100]) (0 + 1) (dig dd)) ((0 + 1) + (dgE 9 dd + 1)) [nI 32]) (((0 + 1) + (dgE 9 dd + 1)) + 1) [nI 104]) ((((0 + 1) + (dgE 9 dd + 1)) + 1) + 1) (dig da)) (((((0 + 1) + (dgE 9 dd + 1)) + 1) + 1) + (dgE 9 da + 1)) [nI 120]) ((((((0 + 1) + (dgE 9 dd + 1)) + 1) + 1) + (dgE 9 da + 1)) + 1) (dig db) = putL f 0 (lnT 1 dd da db) := by
  rw [putL_c, putL_d, putL_c, putL_c, putL_d, putL_c]
  unfold lnT
  rw [if_pos (by omega), if_neg (by omega)]
  simp only [List.append_assoc]
  rfl
theorem wf_2 {f : pS} {dd da db : Nat} : putL (putL (putL (putL (putL f 0 [nI 100]) (0 + 1) (dig dd)) ((0 + 1) + (dgE 9 dd + 1)) [nI 32]) (((0 + 1) + (dgE 9 dd + 1)) + 1) (jByt.getD 0 [])) ((((0 + 1) + (dgE 9 dd + 1)) + 1) + jLen.getD 0 0) (dig da) = putL f 0 (lnT 2 dd da db) := by
  rw [putL_s, putL_c, putL_d, putL_c]
  unfold lnT
  rw [if_neg (by omega), if_pos rfl]
  simp only [List.append_assoc]
  rfl
theorem wf_3 {f : pS} {dd da db : Nat} : putL (putL (putL (putL f 0 [nI 100]) (0 + 1) (dig dd)) ((0 + 1) + (dgE 9 dd + 1)) [nI 32]) (((0 + 1) + (dgE 9 dd + 1)) + 1) (jByt.getD 1 []) = putL f 0 (lnT 3 dd da db) := by
  rw [putL_c, putL_d, putL_c]
  unfold lnT
  rw [if_neg (by omega), if_neg (by omega)]
  simp only [List.append_assoc]
  rfl
theorem wn_01 {dd da db kd : Nat} (h : kd < 2) : ((((((0 + 1) + (dgE 9 dd + 1)) + 1) + 1) + (dgE 9 da + 1)) + 1) + (dgE 9 db + 1) = (lnT kd dd da db).length := by
  unfold lnT
  rw [if_pos h]
  simp only [List.length_append, List.length_cons, List.length_nil, dig_len]
theorem wn_2 {dd da db : Nat} : ((((0 + 1) + (dgE 9 dd + 1)) + 1) + jLen.getD 0 0) + (dgE 9 da + 1) = (lnT 2 dd da db).length := by
  unfold lnT
  rw [if_neg (by omega), if_pos rfl, show jLen.getD 0 0 = 3 from rfl]
  simp only [List.length_append, List.length_cons, List.length_nil, dig_len]
  all_goals omega
theorem wn_3 {dd da db : Nat} : (((0 + 1) + (dgE 9 dd + 1)) + 1) + jLen.getD 1 0 = (lnT 3 dd da db).length := by
  unfold lnT
  rw [if_neg (by omega), if_neg (by omega), show jLen.getD 1 0 = 7 from rfl]
  simp only [List.length_append, List.length_cons, List.length_nil, dig_len]
  all_goals omega
