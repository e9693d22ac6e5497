section KB2
variable {p : Program} {l : Launch} {e : Env} {R : Room} {s : State} {m : MethodId} {args : Array Value} {below : List Frame} {meth : Method} {c : Code} {H : Heap} {locs : List Loc} {cells slots : Nat} {Q : State → Prop}
variable {cc : ByteArray} {pc : Nat} {ls : Array Slot} {rest st : List Value} {D : va_G} {A : Nat → Prop} {a : Nat} {tys : List (ClassId × FieldType)} {Bs : List va_W} {H0 : Heap}
variable {y : MethodName} {bytes : ByteArray} {maxL nL mc ms n index : Nat} {ret : Option FieldType} {wsy Ts : List Cond} {rm : Room} {own C : String} {b : Nat} {As : List Value} {Cs Cs' Rs Bs' : List va_W} {r : Int32}
/-- the callee's part of the world, and the rest -/
theorem k_split (w : kW D tys A H0 s H locs Bs) {is : List Nat} (hp : is.Perm (List.range Bs.length)) (he : is.filterMap (fun i => Bs[i]?) = Cs ++ Rs) :
    va_P D vwCl (Cs.flatten ++ Rs.flatten) H ∧ va_D A (Cs.flatten ++ Rs.flatten) ∧ va_P D vwCl Cs.flatten H ∧ va_D (fun _ => True) Cs.flatten ∧ ∀ q, va_A Cs.flatten H.size q → A q := by
  obtain ⟨hK, hP, hD, hS, hA, hN⟩ := w
  have hperm := k_idx hp
  rw [he] at hperm
  have hfl := hperm.flatten
  rw [List.flatten_append] at hfl
  have hP1 := k_P_perm hfl.symm hP
  have hD1 := k_D_perm hfl.symm hD
  have up : ∀ (k : Nat) (q : Nat × va_E), Cs.flatten[k]? = some q → (Cs.flatten ++ Rs.flatten)[k]? = some q := fun k q hk => by
    rw [List.getElem?_append_left (List.getElem?_eq_some_iff.mp hk).1]; exact hk
  refine ⟨hP1, hD1, fun k q hk => hP1 k q (up k q hk), ⟨fun i j p q hi hj h => hD1.1 i j p q (up i p hi) (up j q hj) h, fun _ _ _ => trivial⟩, fun q h => ?_⟩
  rcases h with ⟨k, e, h⟩ | h
  · exact hD1.2 k (q, e) (up k _ h)
  · exact hA q (Nat.le_trans hS.1 h)
theorem k_back {is : List Nat} {H1 : Heap} {locs1 : List Loc} (w : kW D tys A H0 s H locs Bs) (hp : is.Perm (List.range Bs.length)) (hlen : Bs'.length = Bs.length) (he' : is.filterMap (fun i => Bs'[i]?) = Cs' ++ Rs)
    (hP : va_P D vwCl (Cs'.flatten ++ Rs.flatten) H1) (hD : va_D A (Cs'.flatten ++ Rs.flatten)) (hS : va_S A H0 H1 locs1) : kW D tys A H0 s H1 locs1 Bs' := by
  have hperm := k_idx (l := Bs') (is := is) (by rw [hlen]; exact hp)
  rw [he'] at hperm
  have hfl := hperm.flatten
  rw [List.flatten_append] at hfl
  exact ⟨w.1, k_P_perm hfl hP, k_D_perm hfl hD, hS, w.2.2.2.2⟩
theorem k_recv {B0 : va_W} {ci : Nat} {fs : List Value} {q : vw_C} (w : kW D tys A H0 s H locs Bs) (i0 : Nat) (hB : Bs[i0]? = some B0) (hx : B0[0]? = some (b, .inr (ci, fs))) (hc : vwCl[ci]? = some q) (hq : q.1 = C) : ∃ cell : Cell, H[b]? = some cell ∧ cell.vm.isStatics = false ∧ s.vm.findClass C = some cell.cls := by
  have h := va_recv w.1 w.2.1 hc (k_fget _ i0 0 B0 _ hB hx)
  rw [hq] at h
  exact h
theorem k_pre {U : State} (hU : U.heap = H) (hW : s.WarmedH U.vm) (hK : va_K D vwCl tys s) (hP : va_P D vwCl Cs.flatten H) (hD : va_D (fun _ => True) Cs.flatten) (hN : kN s) : kPre D tys As Cs H.size As.toArray U :=
  ⟨rfl, by rw [hU], by rw [hU]; exact hP, va_K.moved hW.alike hK, hD, hN.warm hW⟩
theorem k_iV (S : CallFix p m c cc nL s args Ts own) (w : kW D tys A H0 s H locs Bs) (hM : Mi l y wsy rm D tys (.ref b :: As) Cs Cs' r mc ms) (cw : CallW R s args own C index y bytes maxL ret wsy rm mc ms n) (is : List Nat) {nB : Nat} (hp : is.Perm (List.range nB)) (hlen0 : Bs.length = nB) (hlen : Bs'.length = nB) (he : is.filterMap (fun i => Bs[i]?) = Cs ++ Rs) (he' : is.filterMap (fun i => Bs'[i]?) = Cs' ++ Rs)
    {B0 : va_W} {ci : Nat} {fs : List Value} {q : vw_C} (i0 : Nat) (hB : Bs[i0]? = some B0) (hx : B0[0]? = some (b, .inr (ci, fs))) (hc : vwCl[ci]? = some q) (hq : q.1 = C)
    (hn : As.length = n) (hsize : ls.size = nL) (hst : st = As.reverse ++ .ref b :: rest) (hcat : (rest.map fun v => v.category).sum ≤ 8) (hdg : decode cc pc = .ok (.invokevirtual index, 3)) (hf : cells + mc ≤ R.cells ∧ slots + ms ≤ R.slots)
    (kk : ∀ (H1 : Heap) (locs1 : List Loc), kW D tys A H0 s H1 locs1 Bs' → W p l e R s m args below meth c H1 locs1 (cells + mc) (slots + ms) Q (F0 m (pc + 3) ls (.int r :: rest))) : W p l e R s m args below meth c H locs cells slots Q (F0 m pc ls st) := by
  obtain ⟨hP1, hD1, hPc, hDc, hFc⟩ := k_split w (by rw [hlen0]; exact hp) he
  refine va_calli (va_runV (As := As) (rest := rest) S (hM H.size) cw ⟨kPre_blind, k_recv w i0 hB hx hc hq, fun U hU hW => k_pre hU hW w.1 hPc hDc w.2.2.2.2.2⟩ rfl hn hsize hst (lv_room hcat) hdg hf) w.2.2.2.1 (fun q _ h => hFc q h) hFc (fun r1 u t H1 locs1 ht hvm hw hB1 hz1 hk1 hS1 => ?_)
  obtain ⟨hP2, hK2, hD2⟩ := hB1
  rw [ht] at hP2
  rw [show r1 = r from hw]
  obtain ⟨hP3, hD3⟩ := k_join hP1 hD1 hk1 hFc hP2 hD2
  exact kk H1 locs1 (k_back w (by rw [hlen0]; exact hp) (hlen.trans hlen0.symm) he' hP3 hD3 hS1)
theorem k_iVN {host : String} (S : CallFix p m c cc nL s args Ts own) (w : kW D tys A H0 s H locs Bs) (hM : Mi l y wsy rm D tys (.ref b :: As) Cs Cs' r mc ms) (cw : va_CN R s args own index y host bytes maxL ret wsy rm mc ms n ∧ (Cond.instanceMethod y).before args s = true ∧ (Cond.selects C y y).before args s = true) (is : List Nat) {nB : Nat} (hp : is.Perm (List.range nB)) (hlen0 : Bs.length = nB) (hlen : Bs'.length = nB) (he : is.filterMap (fun i => Bs[i]?) = Cs ++ Rs) (he' : is.filterMap (fun i => Bs'[i]?) = Cs' ++ Rs)
    {B0 : va_W} {ci : Nat} {fs : List Value} {q : vw_C} (i0 : Nat) (hB : Bs[i0]? = some B0) (hx : B0[0]? = some (b, .inr (ci, fs))) (hc : vwCl[ci]? = some q) (hq : q.1 = C)
    (hn : As.length = n) (hsize : ls.size = nL) (hst : st = As.reverse ++ .ref b :: rest) (hcat : (rest.map fun v => v.category).sum ≤ 8) (hdg : decode cc pc = .ok (.invokevirtual index, 3)) (hf : cells + mc ≤ R.cells ∧ slots + ms ≤ R.slots)
    (kk : ∀ (H1 : Heap) (locs1 : List Loc), kW D tys A H0 s H1 locs1 Bs' → W p l e R s m args below meth c H1 locs1 (cells + mc) (slots + ms) Q (F0 m (pc + 3) ls (.int r :: rest))) : W p l e R s m args below meth c H locs cells slots Q (F0 m pc ls st) := by
  obtain ⟨hP1, hD1, hPc, hDc, hFc⟩ := k_split w (by rw [hlen0]; exact hp) he
  refine va_calli (va_runVN (As := As) (rest := rest) S (hM H.size) cw ⟨kPre_blind, k_recv w i0 hB hx hc hq, fun U hU hW => k_pre hU hW w.1 hPc hDc w.2.2.2.2.2⟩ rfl hn hsize hst (lv_room hcat) hdg hf) w.2.2.2.1 (fun q _ h => hFc q h) hFc (fun r1 u t H1 locs1 ht hvm hw hB1 hz1 hk1 hS1 => ?_)
  obtain ⟨hP2, hK2, hD2⟩ := hB1
  rw [ht] at hP2
  rw [show r1 = r from hw]
  obtain ⟨hP3, hD3⟩ := k_join hP1 hD1 hk1 hFc hP2 hD2
  exact kk H1 locs1 (k_back w (by rw [hlen0]; exact hp) (hlen.trans hlen0.symm) he' hP3 hD3 hS1)
theorem k_vV (S : CallFix p m c cc nL s args Ts own) (w : kW D tys A H0 s H locs Bs) (hM : Mv l y wsy rm D tys (.ref b :: As) Cs Cs' mc ms) (cw : CallW R s args own C index y bytes maxL ret wsy rm mc ms n) (is : List Nat) {nB : Nat} (hp : is.Perm (List.range nB)) (hlen0 : Bs.length = nB) (hlen : Bs'.length = nB) (he : is.filterMap (fun i => Bs[i]?) = Cs ++ Rs) (he' : is.filterMap (fun i => Bs'[i]?) = Cs' ++ Rs)
    {B0 : va_W} {ci : Nat} {fs : List Value} {q : vw_C} (i0 : Nat) (hB : Bs[i0]? = some B0) (hx : B0[0]? = some (b, .inr (ci, fs))) (hc : vwCl[ci]? = some q) (hq : q.1 = C)
    (hn : As.length = n) (hsize : ls.size = nL) (hst : st = As.reverse ++ .ref b :: rest) (hcat : (rest.map fun v => v.category).sum ≤ 8) (hdg : decode cc pc = .ok (.invokevirtual index, 3)) (hf : cells + mc ≤ R.cells ∧ slots + ms ≤ R.slots)
    (kk : ∀ (H1 : Heap) (locs1 : List Loc), kW D tys A H0 s H1 locs1 Bs' → W p l e R s m args below meth c H1 locs1 (cells + mc) (slots + ms) Q (F0 m (pc + 3) ls rest)) : W p l e R s m args below meth c H locs cells slots Q (F0 m pc ls st) := by
  obtain ⟨hP1, hD1, hPc, hDc, hFc⟩ := k_split w (by rw [hlen0]; exact hp) he
  refine va_callv (va_runV (As := As) (rest := rest) S (hM H.size) cw ⟨kPre_blind, k_recv w i0 hB hx hc hq, fun U hU hW => k_pre hU hW w.1 hPc hDc w.2.2.2.2.2⟩ rfl hn hsize hst (lv_room hcat) hdg hf) w.2.2.2.1 (fun q _ h => hFc q h) hFc (fun u t H1 locs1 ht hvm hw hB1 hz1 hk1 hS1 => ?_)
  obtain ⟨hP2, hK2, hD2⟩ := hB1
  rw [ht] at hP2
  obtain ⟨hP3, hD3⟩ := k_join hP1 hD1 hk1 hFc hP2 hD2
  exact kk H1 locs1 (k_back w (by rw [hlen0]; exact hp) (hlen.trans hlen0.symm) he' hP3 hD3 hS1)
theorem k_vVN {host : String} (S : CallFix p m c cc nL s args Ts own) (w : kW D tys A H0 s H locs Bs) (hM : Mv l y wsy rm D tys (.ref b :: As) Cs Cs' mc ms) (cw : va_CN R s args own index y host bytes maxL ret wsy rm mc ms n ∧ (Cond.instanceMethod y).before args s = true ∧ (Cond.selects C y y).before args s = true) (is : List Nat) {nB : Nat} (hp : is.Perm (List.range nB)) (hlen0 : Bs.length = nB) (hlen : Bs'.length = nB) (he : is.filterMap (fun i => Bs[i]?) = Cs ++ Rs) (he' : is.filterMap (fun i => Bs'[i]?) = Cs' ++ Rs)
    {B0 : va_W} {ci : Nat} {fs : List Value} {q : vw_C} (i0 : Nat) (hB : Bs[i0]? = some B0) (hx : B0[0]? = some (b, .inr (ci, fs))) (hc : vwCl[ci]? = some q) (hq : q.1 = C)
    (hn : As.length = n) (hsize : ls.size = nL) (hst : st = As.reverse ++ .ref b :: rest) (hcat : (rest.map fun v => v.category).sum ≤ 8) (hdg : decode cc pc = .ok (.invokevirtual index, 3)) (hf : cells + mc ≤ R.cells ∧ slots + ms ≤ R.slots)
    (kk : ∀ (H1 : Heap) (locs1 : List Loc), kW D tys A H0 s H1 locs1 Bs' → W p l e R s m args below meth c H1 locs1 (cells + mc) (slots + ms) Q (F0 m (pc + 3) ls rest)) : W p l e R s m args below meth c H locs cells slots Q (F0 m pc ls st) := by
  obtain ⟨hP1, hD1, hPc, hDc, hFc⟩ := k_split w (by rw [hlen0]; exact hp) he
  refine va_callv (va_runVN (As := As) (rest := rest) S (hM H.size) cw ⟨kPre_blind, k_recv w i0 hB hx hc hq, fun U hU hW => k_pre hU hW w.1 hPc hDc w.2.2.2.2.2⟩ rfl hn hsize hst (lv_room hcat) hdg hf) w.2.2.2.1 (fun q _ h => hFc q h) hFc (fun u t H1 locs1 ht hvm hw hB1 hz1 hk1 hS1 => ?_)
  obtain ⟨hP2, hK2, hD2⟩ := hB1
  rw [ht] at hP2
  obtain ⟨hP3, hD3⟩ := k_join hP1 hD1 hk1 hFc hP2 hD2
  exact kk H1 locs1 (k_back w (by rw [hlen0]; exact hp) (hlen.trans hlen0.symm) he' hP3 hD3 hS1)
theorem k_iS (S : CallFix p m c cc nL s args Ts own) (w : kW D tys A H0 s H locs Bs) (hM : Mi l y wsy rm D tys As Cs Cs' r mc ms) (cw : CallB R s args own index y bytes maxL ret wsy rm mc ms n ∧ (Cond.static y).before args s = true) (is : List Nat) {nB : Nat} (hp : is.Perm (List.range nB)) (hlen0 : Bs.length = nB) (hlen : Bs'.length = nB) (he : is.filterMap (fun i => Bs[i]?) = Cs ++ Rs) (he' : is.filterMap (fun i => Bs'[i]?) = Cs' ++ Rs)
    (hn : As.length = n) (hsize : ls.size = nL) (hst : st = As.reverse ++ rest) (hcat : (rest.map fun v => v.category).sum ≤ 8) (hdg : decode cc pc = .ok (.invokestatic index, 3)) (hf : cells + mc ≤ R.cells ∧ slots + ms ≤ R.slots)
    (kk : ∀ (H1 : Heap) (locs1 : List Loc), kW D tys A H0 s H1 locs1 Bs' → W p l e R s m args below meth c H1 locs1 (cells + mc) (slots + ms) Q (F0 m (pc + 3) ls (.int r :: rest))) : W p l e R s m args below meth c H locs cells slots Q (F0 m pc ls st) := by
  obtain ⟨hP1, hD1, hPc, hDc, hFc⟩ := k_split w (by rw [hlen0]; exact hp) he
  refine va_calli (va_runS (As := As) (rest := rest) S (hM H.size) cw ⟨kPre_blind, fun U hU hW => k_pre hU hW w.1 hPc hDc w.2.2.2.2.2⟩ rfl hn hsize hst (lv_room hcat) hdg hf) w.2.2.2.1 (fun q _ h => hFc q h) hFc (fun r1 u t H1 locs1 ht hvm hw hB1 hz1 hk1 hS1 => ?_)
  obtain ⟨hP2, hK2, hD2⟩ := hB1
  rw [ht] at hP2
  rw [show r1 = r from hw]
  obtain ⟨hP3, hD3⟩ := k_join hP1 hD1 hk1 hFc hP2 hD2
  exact kk H1 locs1 (k_back w (by rw [hlen0]; exact hp) (hlen.trans hlen0.symm) he' hP3 hD3 hS1)
theorem k_iSN {host : String} (S : CallFix p m c cc nL s args Ts own) (w : kW D tys A H0 s H locs Bs) (hM : Mi l y wsy rm D tys As Cs Cs' r mc ms) (cw : va_CN R s args own index y host bytes maxL ret wsy rm mc ms n ∧ (Cond.static y).before args s = true ∧ True) (is : List Nat) {nB : Nat} (hp : is.Perm (List.range nB)) (hlen0 : Bs.length = nB) (hlen : Bs'.length = nB) (he : is.filterMap (fun i => Bs[i]?) = Cs ++ Rs) (he' : is.filterMap (fun i => Bs'[i]?) = Cs' ++ Rs)
    (hn : As.length = n) (hsize : ls.size = nL) (hst : st = As.reverse ++ rest) (hcat : (rest.map fun v => v.category).sum ≤ 8) (hdg : decode cc pc = .ok (.invokestatic index, 3)) (hf : cells + mc ≤ R.cells ∧ slots + ms ≤ R.slots)
    (kk : ∀ (H1 : Heap) (locs1 : List Loc), kW D tys A H0 s H1 locs1 Bs' → W p l e R s m args below meth c H1 locs1 (cells + mc) (slots + ms) Q (F0 m (pc + 3) ls (.int r :: rest))) : W p l e R s m args below meth c H locs cells slots Q (F0 m pc ls st) := by
  obtain ⟨hP1, hD1, hPc, hDc, hFc⟩ := k_split w (by rw [hlen0]; exact hp) he
  refine va_calli (va_runSN (As := As) (rest := rest) S (hM H.size) cw ⟨kPre_blind, fun U hU hW => k_pre hU hW w.1 hPc hDc w.2.2.2.2.2⟩ rfl hn hsize hst (lv_room hcat) hdg hf) w.2.2.2.1 (fun q _ h => hFc q h) hFc (fun r1 u t H1 locs1 ht hvm hw hB1 hz1 hk1 hS1 => ?_)
  obtain ⟨hP2, hK2, hD2⟩ := hB1
  rw [ht] at hP2
  rw [show r1 = r from hw]
  obtain ⟨hP3, hD3⟩ := k_join hP1 hD1 hk1 hFc hP2 hD2
  exact kk H1 locs1 (k_back w (by rw [hlen0]; exact hp) (hlen.trans hlen0.symm) he' hP3 hD3 hS1)
theorem k_vS (S : CallFix p m c cc nL s args Ts own) (w : kW D tys A H0 s H locs Bs) (hM : Mv l y wsy rm D tys As Cs Cs' mc ms) (cw : CallB R s args own index y bytes maxL ret wsy rm mc ms n ∧ (Cond.static y).before args s = true) (is : List Nat) {nB : Nat} (hp : is.Perm (List.range nB)) (hlen0 : Bs.length = nB) (hlen : Bs'.length = nB) (he : is.filterMap (fun i => Bs[i]?) = Cs ++ Rs) (he' : is.filterMap (fun i => Bs'[i]?) = Cs' ++ Rs)
    (hn : As.length = n) (hsize : ls.size = nL) (hst : st = As.reverse ++ rest) (hcat : (rest.map fun v => v.category).sum ≤ 8) (hdg : decode cc pc = .ok (.invokestatic index, 3)) (hf : cells + mc ≤ R.cells ∧ slots + ms ≤ R.slots)
    (kk : ∀ (H1 : Heap) (locs1 : List Loc), kW D tys A H0 s H1 locs1 Bs' → W p l e R s m args below meth c H1 locs1 (cells + mc) (slots + ms) Q (F0 m (pc + 3) ls rest)) : W p l e R s m args below meth c H locs cells slots Q (F0 m pc ls st) := by
  obtain ⟨hP1, hD1, hPc, hDc, hFc⟩ := k_split w (by rw [hlen0]; exact hp) he
  refine va_callv (va_runS (As := As) (rest := rest) S (hM H.size) cw ⟨kPre_blind, fun U hU hW => k_pre hU hW w.1 hPc hDc w.2.2.2.2.2⟩ rfl hn hsize hst (lv_room hcat) hdg hf) w.2.2.2.1 (fun q _ h => hFc q h) hFc (fun u t H1 locs1 ht hvm hw hB1 hz1 hk1 hS1 => ?_)
  obtain ⟨hP2, hK2, hD2⟩ := hB1
  rw [ht] at hP2
  obtain ⟨hP3, hD3⟩ := k_join hP1 hD1 hk1 hFc hP2 hD2
  exact kk H1 locs1 (k_back w (by rw [hlen0]; exact hp) (hlen.trans hlen0.symm) he' hP3 hD3 hS1)
/-- the ends -/
theorem e_i {v : Int32} (hexec : p.tables.exec = Jvm.exec) (hb : c.code = cc) (hr : meth.sig.returnType = some .int) (hlocks : meth.locks = false) (w : kW D tys A s.heap s H locs Bs') (hv : v = r) (hdg : decode cc pc = .ok (.ireturn, 1)) (hc : cells ≤ mc) (hs : slots ≤ ms) :
    W p l e R s m args below meth c H locs cells slots (MQ below (va_Qi (fun (x : Int32) (_ : Unit) => x = r) (fun _ t => kQ D tys A Bs' t) A) args s mc ms A) (F0 m pc ls [.int v]) := by
  refine W.widen hc hs ?_
  exact W.iret (v := v) hexec hb hr (fun t ht hW => ⟨⟨v, (), rfl, hv, ⟨by rw [ht]; exact w.2.1, va_K.moved hW.alike w.1, w.2.2.1⟩⟩, w.2.2.2.1.F ht⟩) w.2.2.2.1.2.2 hdg hlocks
theorem e_z {v : Int32} {ty : FieldType} (hexec : p.tables.exec = Jvm.exec) (hb : c.code = cc) (hr : meth.sig.returnType = some ty) (hnw : narrow ty (.int v) = .int v) (hlocks : meth.locks = false) (w : kW D tys A s.heap s H locs Bs') (hv : v = r) (hdg : decode cc pc = .ok (.ireturn, 1)) (hc : cells ≤ mc) (hs : slots ≤ ms) :
    W p l e R s m args below meth c H locs cells slots (MQ below (va_Qi (fun (x : Int32) (_ : Unit) => x = r) (fun _ t => kQ D tys A Bs' t) A) args s mc ms A) (F0 m pc ls [.int v]) := by
  refine W.widen hc hs ?_
  exact W.zret (v := v) hexec hb hr hnw (fun t ht hW => ⟨⟨v, (), rfl, hv, ⟨by rw [ht]; exact w.2.1, va_K.moved hW.alike w.1, w.2.2.1⟩⟩, w.2.2.2.1.F ht⟩) w.2.2.2.1.2.2 hdg (hlocks := hlocks)
theorem e_v (hexec : p.tables.exec = Jvm.exec) (hb : c.code = cc) (hr : meth.sig.returnType = none) (hlocks : meth.locks = false) (w : kW D tys A s.heap s H locs Bs') (hdg : decode cc pc = .ok (.return_, 1)) (hc : cells ≤ mc) (hs : slots ≤ ms) :
    W p l e R s m args below meth c H locs cells slots (MQ below (va_Qv (fun (_ : Unit) => True) (fun _ t => kQ D tys A Bs' t) A) args s mc ms A) (F0 m pc ls []) := by
  refine W.widen hc hs ?_
  exact W.vret hexec hb hr (fun t ht hW => ⟨⟨(), rfl, trivial, ⟨by rw [ht]; exact w.2.1, va_K.moved hW.alike w.1, w.2.2.1⟩⟩, w.2.2.2.1.F ht⟩) w.2.2.2.1.2.2 hdg hlocks
end KB2
/-- a contract out of the walk of the body -/
theorem m_i {l : Launch} {y : MethodName} {ws ws' : List Cond} {rm : Room} {D : va_G} {tys : List (ClassId × FieldType)} {as : List Value} {Bs Bs' : List va_W} {r : Int32} {mc ms maxL : Nat} {cc : ByteArray} {ret : Option FieldType} (hy : plainName y.cls = true) (hw : ws = Cond.code y cc maxL ret :: ws') (hmx : (lg_sl as).length ≤ maxL)
    (body : ∀ (p : Program) (e : Env) (s : State) (m : MethodId) (below : List Frame) (meth : Method) (c : Code) (A : Nat → Prop) (ls : Array Slot), p.tables.exec = Jvm.exec → c.code = cc → c.maxLocals = maxL → meth.sig.returnType = ret → meth.locks = false → s.vm.findClass y.cls = some m.cls → (∀ w ∈ ws, w.before as.toArray s = true) → kW D tys A s.heap s s.heap [] Bs → lv_has ls maxL (lv_args 0 as) →
      W p l e rm s m as.toArray below meth c s.heap [] 0 0 (MQ below (va_Qi (fun (x : Int32) (_ : Unit) => x = r) (fun _ t => kQ D tys A Bs' t) A) as.toArray s mc ms A) (F0 m 0 ls [])) : Mi l y ws rm D tys as Bs Bs' r mc ms := by
  intro sz
  refine Met.ofW (cc := cc) (maxL := maxL) (ret := ret) hy hw ?_
  intro p e s m args below meth c s₁ B hml hv
  obtain ⟨rfl, hsz, hP, hK, hD0, hN⟩ := hv
  subst hsz
  rw [lg_entry_eq]
  exact body p e s m below meth c _ _ B.exec B.bytes hml B.returns B.notSynchronized (findClass_of_methodNamed B.named) (atoms_spec (ws := ws) B.pre) ⟨hK, hP, hD0.self, va_S.rf, fun q h => Or.inr h, hN⟩ (lv_entry as hmx)
theorem m_v {l : Launch} {y : MethodName} {ws ws' : List Cond} {rm : Room} {D : va_G} {tys : List (ClassId × FieldType)} {as : List Value} {Bs Bs' : List va_W} {mc ms maxL : Nat} {cc : ByteArray} {ret : Option FieldType} (hy : plainName y.cls = true) (hw : ws = Cond.code y cc maxL ret :: ws') (hmx : (lg_sl as).length ≤ maxL)
    (body : ∀ (p : Program) (e : Env) (s : State) (m : MethodId) (below : List Frame) (meth : Method) (c : Code) (A : Nat → Prop) (ls : Array Slot), p.tables.exec = Jvm.exec → c.code = cc → c.maxLocals = maxL → meth.sig.returnType = ret → meth.locks = false → s.vm.findClass y.cls = some m.cls → (∀ w ∈ ws, w.before as.toArray s = true) → kW D tys A s.heap s s.heap [] Bs → lv_has ls maxL (lv_args 0 as) →
      W p l e rm s m as.toArray below meth c s.heap [] 0 0 (MQ below (va_Qv (fun (_ : Unit) => True) (fun _ t => kQ D tys A Bs' t) A) as.toArray s mc ms A) (F0 m 0 ls [])) : Mv l y ws rm D tys as Bs Bs' mc ms := by
  intro sz
  refine Met.ofW (cc := cc) (maxL := maxL) (ret := ret) hy hw ?_
  intro p e s m args below meth c s₁ B hml hv
  obtain ⟨rfl, hsz, hP, hK, hD0, hN⟩ := hv
  subst hsz
  rw [lg_entry_eq]
  exact body p e s m below meth c _ _ B.exec B.bytes hml B.returns B.notSynchronized (findClass_of_methodNamed B.named) (atoms_spec (ws := ws) B.pre) ⟨hK, hP, hD0.self, va_S.rf, fun q h => Or.inr h, hN⟩ (lv_entry as hmx)
