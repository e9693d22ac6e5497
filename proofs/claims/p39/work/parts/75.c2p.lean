theorem hiB_a {ty : Nat → ClassId} {h : Nat → Nat} {u v : Nat → Nat → Nat} {sz nx : Int32} (e : ∀ i, i < 8 → u i 0 = v i 0) : hiB ty h u sz nx = hiB ty h v sz nx := by
  unfold hiB
  rw [show (fun i => if i < 8 then some (u i 0) else none) = (fun i => if i < 8 then some (v i 0) else none) from funext fun i => by
    split
    · rw [e i (by omega)]
    · rfl]
