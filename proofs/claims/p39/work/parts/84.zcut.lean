section KB6
variable {p : Program} {l : Launch} {e : Env} {R : Room} {s : State} {m : MethodId} {args : Array Value} {below : List Frame} {meth : Method} {c : Code} {H : Heap} {locs : List Loc} {cells slots : Nat} {Q : State → Prop} {pc : Nat} {ls : Array Slot} {st : List Value}
/-- where roads meet: what follows is walked once -/
theorem k_cut (P : Heap → List Loc → Array Slot → Prop) {pc' : Nat} {st' : List Value} (h2 : ∀ (H1 : Heap) (locs1 : List Loc) (ls1 : Array Slot), P H1 locs1 ls1 → W p l e R s m args below meth c H1 locs1 cells slots Q (F0 m pc' ls1 st'))
    (h1 : (∀ (H1 : Heap) (locs1 : List Loc) (ls1 : Array Slot), P H1 locs1 ls1 → W p l e R s m args below meth c H1 locs1 cells slots Q (F0 m pc' ls1 st')) → W p l e R s m args below meth c H locs cells slots Q (F0 m pc ls st)) : W p l e R s m args below meth c H locs cells slots Q (F0 m pc ls st) := h1 h2
end KB6
