/-! THE CLAIM OUT OF ONE WALK OF THE LAW'S BODY. Your part is whole_start (and what it stands on); all else here is the same for every law, but numbers. -/
def R_law : String := "PumpParliamentLaw"
def lw_P (b : Addr) (xs : List Int32) (args : Array Value) (s : State) : Prop := args = #[.ref b] ∧ s.IntsAt b xs ∧ xs.length ≤ 260 ∧ (Jvm.Cond.and given_1 narrow_1).before args s = true
def lw_Q (_ : Array Value) (s : State) (o : Outcome) (t : State) : Prop := o = .returned (some (.int 1)) ∧ Framed s o t [] 600130 7301080
def lw_Z (below : List Frame) (a : Array Value) (s : State) : State → Prop := fun t => ∃ o, t.status = .running ∧ Ended t below o ∧ lw_Q a s o t
/-- the law's own end, with 1 on the stack, nothing written that was there before, its room as the claim has it -/
theorem lw_ret {p : Program} {l : Launch} {e : Env} {s : State} {m : MethodId} {below : List Frame} {meth : Method} {c : Code} {b : Nat} (hx : p.tables.exec = Jvm.exec) (hb : c.code = code) (hr : meth.sig.returnType = ret) (hlocks : meth.locks = false) {pc : Nat} {H : Heap} {ls : Array Slot} (hdg : decode code pc = .ok (.ireturn, 1)) : W p l e room_1 s m #[Value.ref b] below meth c H [] 600130 7301080 (lw_Z below #[Value.ref b] s) (F0 m pc ls [.int 1]) := by
  intro T hT X
  obtain ⟨fs, hret, hrun, hended, hW, hframe⟩ := X.leave (v := some (.int 1)) (hlocks := hlocks) (fun h => by rw [hr] at h; cases h)
  have hmeth' : T.vm.method? m = some meth := X.method'
  refine ⟨T.setFrames fs, ?_, .returned (some (.int 1)), hrun, hended, rfl, ⟨_, rfl⟩, hW, hframe⟩
  jvm_step X.here [X.here.top, hx, hb, hdg, hmeth', hr, ret, narrow_b1]
  (try refine ⟨rfl, ?_⟩); (try refine ⟨rfl, ?_⟩)
  first | (intro acts; rw [hret _ acts rfl rfl rfl]) | rw [hret _ _ rfl rfl rfl]
  exact Steps.refl _
/-- what holds at the law's entry: the machine, the code, the tables' words (any of lw_tbl by 'hts w (by decide +kernel)'), the script of L ints xs at the cell b, what the Statement gives of the start (any of its parts by flat_of_before) -/
def lw_At (p : Program) (s : State) (m : MethodId) (meth : Method) (c : Code) (b L : Nat) (xs : Nat → Int32) : Prop :=
  p.tables.exec = Jvm.exec ∧ c.code = code ∧ meth.sig.returnType = ret ∧ c.maxLocals = 4 ∧ s.vm.findClass R_law = some m.cls ∧ (∀ w ∈ lw_tbl, w.before #[Value.ref b] s = true) ∧ va_X b L xs s s.heap ∧ b < s.heap.size ∧ meth.locks = false ∧ (Jvm.Cond.and given_1 narrow_1).before #[Value.ref b] s = true

theorem st_flags {l : Launch} (h : l.flags = flags0) : l.stackTraces = false := by
  unfold Launch.stackTraces; rw [h]; decide
set_option maxRecDepth 100000 in
set_option maxHeartbeats 8000000 in
theorem law_start {p : Program} {e : Env} {s : State} {m : MethodId} {below : List Frame} {meth : Method} {c : Code} (l : Launch) (hst : l.stackTraces = false) {b9 L : Nat} {xs : Nat → Int32} (hx : p.tables.exec = Jvm.exec) (hb : c.code = code) (hml : c.maxLocals = 4) (hown : s.vm.findClass RL = some m.cls) {args : Array Value} (hargs : args = #[Value.ref b9]) (h : ∀ w ∈ lw_tbl, w.before args s = true) (J : Nat → Nat) (hz : kZ (fun q => s.heap.size ≤ q) s) (hj : kJ J (fun q => s.heap.size ≤ q) s) (hs9 : kS b9 L xs (fun q => s.heap.size ≤ q) s) (hA0 : kA0 s) (D : va_G) (ty : Nat → ClassId) (hK : va_K D vwCl (kTY ty) s) (hN : kN s) {Q : State → Prop}
    (hE : ∀ (H : Heap) (locs : List Loc) (ls : Array Slot) (cells slots : Nat), cells ≤ 600130 → slots ≤ 7301080 → (∀ z ∈ locs, s.heap.size ≤ z.base) → W p l e room_1 s m #[Value.ref b9] below meth c H locs cells slots Q (F0 m 49 ls [.int 1])) {ls : Array Slot} (hl : lv_has ls 4 [(0, .ref b9)]) :
    W p l e room_1 s m #[Value.ref b9] below meth c s.heap [] 0 0 Q (F0 m 0 ls []) := by
  subst hargs
  have hts : ∀ w ∈ wsL_law, w.before #[Value.ref b9] s = true := fun w hw => h w (wsL_law_in w hw)
  have w : kW D (kTY ty) (fun q => s.heap.size ≤ q) s.heap s s.heap [] [] := ⟨hK, fun k q h => by simp at h, ⟨fun i j p q h => by simp at h, fun k q h => by simp at h⟩, va_S.rf, fun _ h => h, hN⟩
  refine r_new (ci := 12) (fs := [.null, .null, .null, .int 0, .null, .null, .null, .int 0, .null]) (C := RX8) (T := TX8) (N := 9) hx hb h inX8 tyX8 tyX8_ok hown (h _ (tb_in 23 (by decide +kernel))) (h _ (tb_in 24 (by decide +kernel))) (h _ (tb_in 1 (by decide +kernel))) w rfl (fun j hj => by rcases (show j = 0 ∨ j = 1 ∨ j = 2 ∨ j = 3 ∨ j = 4 ∨ j = 5 ∨ j = 6 ∨ j = 7 ∨ j = 8 by omega) with rfl | rfl | rfl | rfl | rfl | rfl | rfl | rfl | rfl <;> rfl) (Nat.le_of_ble_eq_true rfl) (Nat.le_of_ble_eq_true rfl) dL_law_0 (fun o H w => ?_)
  refine lv_dup hx hb dL_law_3 rfl ?_
  refine x_cI (As := []) (rest := [.ref o]) (Rs := []) ⟨hx, hb, hml, hown, hts⟩ hA0 hj w (c_X8_init l J D ty o) (cwI 0 hts gL_law_X8_init rfl rfl rfl (h _ (tb_in 1 (by decide +kernel))) (h _ (tb_in 25 (by decide +kernel))) (h _ (tb_in 26 (by decide +kernel))) rfl hdN_X8_init ⟨(Nat.le_of_ble_eq_true rfl), (Nat.le_of_ble_eq_true rfl)⟩) [0] (nB := 1) (by decide) rfl rfl rfl hl.1 rfl (Nat.le_of_ble_eq_true rfl) dL_law_4 ⟨(Nat.le_of_ble_eq_true rfl), (Nat.le_of_ble_eq_true rfl)⟩ (fun g H locs hK1 w9 => ?_)
  obtain rfl : g 0 0 = o := hK1
  have w := w9.cast (Bs' := clW ty g (pS0, pM0) (pS0, pM0) (pS0, pM0) (fun _ => (pS0, pM0)) 0 0 0 (-1) 0 0 0 0 0 0 (fun _ => 0) (fun _ => 0) (fun _ => 0) 0 0 (fun _ => 0)) rfl
  refine lv_astore_n (lv' := [(1, .ref (g 0 0)), (0, .ref b9)]) hx hb dL_law_7 rfl hl (by decide) rfl (fun ls hl => ?_)
  have w := w.order (Bs' := luW ty (g 0 0) (g 1) (g 2) (g 3) (g 4) (g 5) (fun k => g (6 + k)) (g 0 1) (g 0 2) 0 (-1) 0 0 (fun _ => 0) (fun _ => 0) (fun _ => 0) ((pS0, pM0), (fun _ => (pS0, pM0)), 0, 0, fun _ => 0) ++ [stB (g 2) pS0, lnB ty (g 2) pS0, quB ty (g 2) pS0, weB (g 2) pS0, miB ty (g 2) pM0, stB (g 3) pS0, lnB ty (g 3) pS0, quB ty (g 3) pS0, weB (g 3) pS0, miB ty (g 3) pM0, soB (g 0 2) (g 0 3) 0 0, baB ty (g 0 3) (fun _ => 0)]) [0, 1, 2, 3, 4, 5, 6, 17, 18, 19, 20, 21, 22, 23, 24, 25, 26, 7, 8, 9, 10, 11, 12, 13, 14, 15, 16, 27, 28] (nB := 29) (by decide) rfl rfl
  refine lv_aload_n hx hb dL_law_8 rfl (lv_at hl 0 rfl) ?_
  refine lv_aload_n hx hb dL_law_9 rfl (lv_at hl 1 rfl) ?_
  refine l_cSv (As := [.ref (g 0 0), .ref b9]) (rest := []) (Cs := luW ty (g 0 0) (g 1) (g 2) (g 3) (g 4) (g 5) (fun k => g (6 + k)) (g 0 1) (g 0 2) 0 (-1) 0 0 (fun _ => 0) (fun _ => 0) (fun _ => 0) ((pS0, pM0), (fun _ => (pS0, pM0)), 0, 0, fun _ => 0)) (Rs := [stB (g 2) pS0, lnB ty (g 2) pS0, quB ty (g 2) pS0, weB (g 2) pS0, miB ty (g 2) pM0, stB (g 3) pS0, lnB ty (g 3) pS0, quB ty (g 3) pS0, weB (g 3) pS0, miB ty (g 3) pM0, soB (g 0 2) (g 0 3) 0 0, baB ty (g 0 3) (fun _ => 0)]) ⟨hx, hb, hml, hown, hts⟩ hz hs9 w (c_L_lay l hst D ty b9 L xs (g 0 0) (g 1) (g 2) (g 3) (g 4) (g 5) (fun k => g (6 + k)) (g 0 1) (g 0 2) 0 (-1) 0 0 (fun _ => 0) (fun _ => 0) (fun _ => 0) pS0 pM0 (fun _ => (pS0, pM0)) 0 0 (fun _ => 0) LJ_0 (by decide)) (va_cwS 2 hts gL_law_L_lay rfl rfl rfl hdN_L_lay ⟨(Nat.le_of_ble_eq_true rfl), (Nat.le_of_ble_eq_true rfl)⟩) rfl hl.1 rfl (Nat.le_of_ble_eq_true rfl) dL_law_10 ⟨(Nat.le_of_ble_eq_true rfl), (Nat.le_of_ble_eq_true rfl)⟩ (fun u H locs hu w => ?_)
  obtain ⟨n, hn3, hn8, hI⟩ := hu
  refine lv_iconst (v := 0) hx hb dL_law_13 (by decide) ?_
  refine lv_istore_n (lv' := [(2, .int 0), (1, .ref (g 0 0)), (0, .ref b9)]) hx hb dL_law_14 rfl hl (by decide) rfl (fun ls hl => ?_)
  exact law_loop l hst hx hb hml hown hts hz hs9 D ty (g 0 0) (g 1) (g 2) (g 3) (g 4) (g 5) (fun k => g (6 + k)) (g 0 1) (g 0 2) 0 (-1) 0 0 (fun _ => 0) (fun _ => 0) (fun _ => 0) (stB (g 2) pS0) (lnB ty (g 2) pS0) (quB ty (g 2) pS0) (weB (g 2) pS0) (miB ty (g 2) pM0) (stB (g 3) pS0) (lnB ty (g 3) pS0) (quB ty (g 3) pS0) (weB (g 3) pS0) (miB ty (g 3) pM0) (soB (g 0 2) (g 0 3) 0 0) (baB ty (g 0 3) (fun _ => 0)) hE 30 0 n u H locs ls _ _ rfl (Nat.le_of_ble_eq_true rfl) (Nat.le_of_ble_eq_true rfl) hI hn3 hn8 w (lv_sub hl [2, 1, 0] rfl)
/-- from the entry, for every script of at most 260 ints, the law comes to its end with true -/
theorem whole_start {p : Program} {e : Env} {s : State} {m : MethodId} {below : List Frame} {meth : Method} {c : Code} (l : Launch) (hflags : l.flags = flags0) {b L : Nat} {xs : Nat → Int32} (hL : L ≤ 260) (C0 : lw_At p s m meth c b L xs) : W p l e room_1 s m #[Value.ref b] below meth c s.heap [] 0 0 (lw_Z below #[Value.ref b] s) (entryFrame m ([Value.ref b] : List Value).toArray 4) := by
  obtain ⟨hx, hb, hr, hml, hown, hts, hX, hbl, hlocks, hgv⟩ := id C0
  have hf : ∀ w ∈ flN, w.before #[Value.ref b] s = true := flat_of_before _ hgv
  have hst : l.stackTraces = false := st_flags hflags
  have hA : ∀ a : Nat, a < s.heap.size → ¬ (fun q => s.heap.size ≤ q) a := fun a ha => Nat.not_le.mpr ha
  obtain ⟨ty, hty⟩ := st_ty hts
  have hcl := st_cl hts
  have hJ := st_kJ hts hf hA
  obtain ⟨c8, i8, hK8⟩ := hcl 12
  have h8 := (hK8 _ rfl).2.1
  have hZ := st_kZ (A := fun q => s.heap.size ≤ q) h8 hts hf hA
  have hl := lv_entry ([.ref b]) (n := 4) (Nat.le_of_ble_eq_true rfl)
  rw [lg_entry_eq]
  generalize (lg_sl ([.ref b]) ++ List.replicate (4 - (lg_sl ([.ref b])).length) Slot.unset).toArray = ls at hl ⊢
  refine law_start l hst hx hb hml hown rfl hts _ hZ hJ ⟨hX, hbl, hA b hbl, hL⟩ (st_kA0 hts) (fun k => (hcl k).choose, fun k => (hcl k).choose_spec.choose) ty ⟨fun k q hq => (hcl k).choose_spec.choose_spec q hq, hty⟩ (st_kN hts) (fun H locs ls cells slots hc hs hl9 => ?_) hl
  refine va_forget hl9 (W.widen (k := 600130) (n := 7301080) hc hs ?_)
  exact lw_ret hx hb hr hlocks dL_law_49
set_option maxHeartbeats 4000000 in
theorem lw_walk (l : Launch) (hflags : l.flags = flags0) (b : Addr) (xs : List Int32) : MetFree l x (headSpec (Jvm.Cond.code x code maxLocals ret :: tables_1) room_1) (lw_P b xs) (fun _ _ _ _ _ => True) lw_Q := by
  refine MetFree.of_bodyS (code := code) (maxLocals := maxLocals) (ret := ret) (by decide) ?_ ?_
  · intro args s m h hn
    obtain ⟨meth, c, h1, h2, h3, h4, h5, h6, -, -⟩ := Cond.code_spec hn (atoms_spec (ws := Jvm.Cond.code x code maxLocals ret :: tables_1) h _ List.mem_cons_self)
    exact ⟨meth, c, h1, h2, h3, h4, h5, h6⟩
  · intro p e s m args below meth c s₁ B hml0 hP _
    obtain ⟨rfl, hx, hbd, hgv⟩ := hP
    obtain ⟨scr, harrAt, hlist, hof, hsmall⟩ := hx
    obtain ⟨hcb, hkn, -, -⟩ := State.arrayAt?_spec harrAt
    have hown : s.vm.findClass R_law = some m.cls := findClass_of_methodNamed B.named
    have hts0 : ∀ c ∈ (Jvm.Cond.code x code maxLocals ret :: tables_1), c.before #[Value.ref b] s = true := atoms_spec (ws := Jvm.Cond.code x code maxLocals ret :: tables_1) B.pre
    have hts : ∀ w ∈ lw_tbl, w.before #[Value.ref b] s = true := k2_hts_sels lw_privs (fun w hw => hts0 w (List.mem_cons_of_mem _ hw)) lw_privs_ok
    have hml : c.maxLocals = 4 := B.maxLocals_eq (hts0 _ List.mem_cons_self)
    have X₀ : Stand p l e room_1 s m #[Value.ref b] below meth c s₁ [] 0 0 := Stand.of_body B
    have hh0 : s₁.heap = s.heap := by rw [B.state]; rfl
    have hsz : scr.slots.size = xs.length := by rw [← Array.length_toList, hlist, List.length_map]
    have hval : ∀ j : Nat, j < xs.length → scr.slots[j]? = some (.int (xs.getD j 0)) := fun j hj => by
      rw [← Array.getElem?_toList, hlist]
      simp [hj]
    have hbl : b < s.heap.size := (Array.getElem?_eq_some_iff.mp hcb).1
    have hX : va_X b xs.length (fun j => xs.getD j 0) s s.heap := ⟨scr, hcb, hof, hkn, hsz, hval⟩
    have K : W p l e room_1 s m #[Value.ref b] below meth c s₁.heap [] 0 0 (lw_Z below #[Value.ref b] s) (entryFrame m ([Value.ref b] : List Value).toArray 4) := by
      rw [hh0]
      exact whole_start l hflags hbd ⟨B.exec, B.bytes, B.returns, hml, hown, hts, hX, hbl, B.notSynchronized, hgv⟩
    obtain ⟨t, a1, o, b1, b2, b3⟩ := K s₁ rfl X₀
    exact ⟨t, o, a1, b1, b2, b3⟩
theorem lw_pre_spec {args : Array Value} {s : State} (h : (Jvm.Cond.and given_1 narrow_1).before args s = true) (hr : rest_1_c.before args s = true) : ∃ (b : Addr) (xs : List Int32), lw_P b xs args s := by
  have hs := flat_of_before _ h
  have hq := flat_of_before _ hr
  have hc : (Cond.count 1).before args s = true := hs _ (by decide +kernel)
  have harr : (Cond.arrayOf (.arg 0) .int).before args s = true := hs _ (by decide +kernel)
  have hle : (Cond.le (.length (.arg 0)) (.int 260)).before args s = true := hs _ (by decide +kernel)
  have hlen : (Cond.isInt (.length (.arg 0))).before args s = true := hq _ (by decide +kernel)
  have hall : (Cond.all (.arg 0) (.isInt (.elem (.arg 0) (.index 0)))).before args s = true := hq _ (by decide +kernel)
  obtain ⟨b, xs, hb, hx⟩ := State.ints_of_pre rfl harr hlen hall
  have hsm : xs.length < 2 ^ 31 := hx.choose_spec.2.2.2
  have hev : (Term.length (.arg 0)).eval args s none [] s = some (.int xs.length.toInt32) := hx.length_eval hb
  have hv := Cond.le_ints hev (show (Term.int 260).eval args s none [] s = some (.int 260) from rfl)
  have hd : xs.length.toInt32 ≤ 260 := by
    simpa [Cond.before, Cond.holds, hv] using hle
  have hN : xs.length ≤ 260 := (Int32.ofNat_le_ofNat hsm (by decide)).mp (show Int32.ofNat xs.length ≤ Int32.ofNat 260 from hd)
  exact ⟨b, xs, Cond.one_arg hc (show args[0]? = some (.ref b) from hb), hx, hN, h⟩
theorem lw_comes (l : Launch) (hflags : l.flags = flags0) : Comes l x (Jvm.Cond.code x code maxLocals ret :: tables_1) room_1 (fun tb e args s => Calls_1 tb e args s ∧ rest_1 tb e args s ∧ Pre_1 tb e args s)
    (fun _ _ args s o t => lw_Q args s o t) := by
  intro p e ha hc hk s m args below hf hfit hheap happ hpre
  obtain ⟨b, xs, hP⟩ := lw_pre_spec hpre.2.2 hpre.2.1
  obtain ⟨k, o, h1, h2, h3, hQ⟩ := lw_walk l hflags b xs p e ha hc hk s m args below hf ((Spec.applies_iff_loose hf).mp happ).1 hP trivial
  exact ⟨k, o, h1, h2, h3, hQ⟩
theorem lw_frame {s t : State} {o : Outcome} {args : Array Value} (h : Framed s o t [] 600130 7301080) :
    Framed s o t (fieldLocs frame_1_writes args s ++ arrayLocs frame_1_arrays args s ++ staticLocs frame_1_statics s) 600130 7301080 := h
theorem lw_limb (L : Cond) (hL : ∀ (args : Array Value) (s t : State), L.after args s (.returned (some (.int 1))) t = true) :
    ArmFor flags0 classFile x code maxLocals ret World_1 tables_1 room_1 Calls_1 rest_1 Pre_1
      (fun tb e a s o t => postC L tb e a s o t ∧ Framed s o t (fieldLocs frame_1_writes a s ++ arrayLocs frame_1_arrays a s ++ staticLocs frame_1_statics s) 600130 7301080) := by
  intro l hflags _ _ p e ha hc hk s m args below hf hfit hheap happ hpre
  obtain ⟨k, o, h1, h2, h3, rfl, hF⟩ := lw_comes l hflags p e ha hc hk s m args below hf hfit hheap happ hpre
  exact ⟨k, _, h1, h2, h3, hL args s _, lw_frame hF⟩
theorem i_vc : Claimed_1_1 ∧ Claimed_1_2 := ⟨lw_limb limb_1_1 (fun args s t => by simp [limb_1_1, Cond.after, Cond.holds, Cond.value]), lw_limb limb_1_2 (fun args s t => Cond.after_iff.mpr (by
  first | (rw [show limb_1_2 = Cond.eq .result (.int 1) from rfl, Cond.eq_ints (x := 1) (y := 1) rfl rfl]; simp; done) | (simp [limb_1_2, Cond.value, Term.eval]; done)))⟩
