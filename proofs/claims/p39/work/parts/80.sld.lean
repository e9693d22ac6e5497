/-! ===== the script's cells ===== -/
section KBM
variable {p : Program} {l : Launch} {e : Env} {R : Room} {s : State} {m : MethodId} {args : Array Value} {below : List Frame} {meth : Method} {c : Code} {H : Heap} {locs : List Loc} {cells slots : Nat} {Q : State → Prop}
variable {cc : ByteArray} {pc : Nat} {ls : Array Slot} {rest : List Value} {D : va_G} {A : Nat → Prop} {a : Nat} {tys : List (ClassId × FieldType)} {Bs : List va_W} {H0 : Heap}
theorem r_sld (hexec : p.tables.exec = Jvm.exec) (hb : c.code = cc) (w : kW D tys A H0 s H locs Bs) {b L : Nat} {xs : Nat → Int32} (hX : va_X b L xs s H0) (hbl : b < H0.size) (hbA : ¬ A b) (q : Nat) (hq : q < L) (hn : L < 2 ^ 31) {x : Int32} (hx : x = nI q) (hdg : decode cc pc = .ok (.iaload, 1))
    (kk : W p l e R s m args below meth c H locs cells slots Q (F0 m (pc + 1) ls (.int (xs q) :: rest))) : W p l e R s m args below meth c H locs cells slots Q (F0 m pc ls (.int x :: .ref b :: rest)) := by
  subst hx
  have h := nI_clamp (show q < 2 ^ 31 by omega)
  refine va_sld hexec hb hX hbl hbA w.2.2.2.1 (vp_in_nI hq hn) hdg ?_
  rw [h]
  exact kk
end KBM
