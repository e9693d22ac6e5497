section KB2f
variable {p : Program} {l : Launch} {e : Env} {R : Room} {s : State} {m : MethodId} {args : Array Value} {below : List Frame} {meth : Method} {c : Code} {H : Heap} {locs : List Loc} {cells slots : Nat} {Q : State → Prop}
variable {cc : ByteArray} {pc : Nat} {ls : Array Slot} {rest st : List Value} {D : va_G} {A : Nat → Prop} {a : Nat} {tys : List (ClassId × FieldType)} {Bs : List va_W} {H0 : Heap}
variable {y : MethodName} {bytes : ByteArray} {maxL nL mc ms n index : Nat} {ret : Option FieldType} {wsy Ts : List Cond} {rm : Room} {own C : String} {b : Nat} {As : List Value} {Cs Cs' Rs Bs' : List va_W} 
theorem k_fV {r : UInt32} (S : CallFix p m c cc nL s args Ts own) (w : kW D tys A H0 s H locs Bs) (hM : Mf l y wsy rm D tys (.ref b :: As) Cs Cs' r mc ms) (cw : CallW R s args own C index y bytes maxL ret wsy rm mc ms n) (is : List Nat) {nB : Nat} (hp : is.Perm (List.range nB)) (hlen0 : Bs.length = nB) (hlen : Bs'.length = nB) (he : is.filterMap (fun i => Bs[i]?) = Cs ++ Rs) (he' : is.filterMap (fun i => Bs'[i]?) = Cs' ++ Rs)
    {B0 : va_W} {ci : Nat} {fs : List Value} {q : vw_C} (i0 : Nat) (hB : Bs[i0]? = some B0) (hx : B0[0]? = some (b, .inr (ci, fs))) (hc : vwCl[ci]? = some q) (hq : q.1 = C)
    (hn : As.length = n) (hsize : ls.size = nL) (hst : st = As.reverse ++ .ref b :: rest) (hcat : (rest.map fun v => v.category).sum ≤ 8) (hdg : decode cc pc = .ok (.invokevirtual index, 3)) (hf : cells + mc ≤ R.cells ∧ slots + ms ≤ R.slots)
    (kk : ∀ (H1 : Heap) (locs1 : List Loc), kW D tys A H0 s H1 locs1 Bs' → W p l e R s m args below meth c H1 locs1 (cells + mc) (slots + ms) Q (F0 m (pc + 3) ls (.float r :: rest))) : W p l e R s m args below meth c H locs cells slots Q (F0 m pc ls st) := by
  obtain ⟨hP1, hD1, hPc, hDc, hFc⟩ := k_split w (by rw [hlen0]; exact hp) he
  refine va_callf (va_runV (As := As) (rest := rest) S (hM H.size) cw ⟨kPre_blind, k_recv w i0 hB hx hc hq, fun U hU hW => k_pre hU hW w.1 hPc hDc w.2.2.2.2.2⟩ rfl hn hsize hst (lv_room hcat) hdg hf) w.2.2.2.1 (fun q _ h => hFc q h) hFc (fun r1 u t H1 locs1 ht hvm hw hB1 hz1 hk1 hS1 => ?_)
  obtain ⟨hP2, hK2, hD2⟩ := hB1
  rw [ht] at hP2
  rw [show r1 = r from hw]
  obtain ⟨hP3, hD3⟩ := k_join hP1 hD1 hk1 hFc hP2 hD2
  exact kk H1 locs1 (k_back w (by rw [hlen0]; exact hp) (hlen.trans hlen0.symm) he' hP3 hD3 hS1)
theorem k_dV {r : UInt64} (S : CallFix p m c cc nL s args Ts own) (w : kW D tys A H0 s H locs Bs) (hM : Md l y wsy rm D tys (.ref b :: As) Cs Cs' r mc ms) (cw : CallW R s args own C index y bytes maxL ret wsy rm mc ms n) (is : List Nat) {nB : Nat} (hp : is.Perm (List.range nB)) (hlen0 : Bs.length = nB) (hlen : Bs'.length = nB) (he : is.filterMap (fun i => Bs[i]?) = Cs ++ Rs) (he' : is.filterMap (fun i => Bs'[i]?) = Cs' ++ Rs)
    {B0 : va_W} {ci : Nat} {fs : List Value} {q : vw_C} (i0 : Nat) (hB : Bs[i0]? = some B0) (hx : B0[0]? = some (b, .inr (ci, fs))) (hc : vwCl[ci]? = some q) (hq : q.1 = C)
    (hn : As.length = n) (hsize : ls.size = nL) (hst : st = As.reverse ++ .ref b :: rest) (hcat : (rest.map fun v => v.category).sum ≤ 8) (hdg : decode cc pc = .ok (.invokevirtual index, 3)) (hf : cells + mc ≤ R.cells ∧ slots + ms ≤ R.slots)
    (kk : ∀ (H1 : Heap) (locs1 : List Loc), kW D tys A H0 s H1 locs1 Bs' → W p l e R s m args below meth c H1 locs1 (cells + mc) (slots + ms) Q (F0 m (pc + 3) ls (.double r :: rest))) : W p l e R s m args below meth c H locs cells slots Q (F0 m pc ls st) := by
  obtain ⟨hP1, hD1, hPc, hDc, hFc⟩ := k_split w (by rw [hlen0]; exact hp) he
  refine va_calld (va_runV (As := As) (rest := rest) S (hM H.size) cw ⟨kPre_blind, k_recv w i0 hB hx hc hq, fun U hU hW => k_pre hU hW w.1 hPc hDc w.2.2.2.2.2⟩ rfl hn hsize hst (lv_room hcat) hdg hf) w.2.2.2.1 (fun q _ h => hFc q h) hFc (fun r1 u t H1 locs1 ht hvm hw hB1 hz1 hk1 hS1 => ?_)
  obtain ⟨hP2, hK2, hD2⟩ := hB1
  rw [ht] at hP2
  rw [show r1 = r from hw]
  obtain ⟨hP3, hD3⟩ := k_join hP1 hD1 hk1 hFc hP2 hD2
  exact kk H1 locs1 (k_back w (by rw [hlen0]; exact hp) (hlen.trans hlen0.symm) he' hP3 hD3 hS1)
end KB2f
