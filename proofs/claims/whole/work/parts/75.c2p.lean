theorem hiB_a {ty : Nat → ClassId} {h : Nat → Nat} {u v : Nat → Nat → Nat} {sz nx : Int32} (e : ∀ i, i < 8 → u i 0 = v i 0) : hiB ty h u sz nx = hiB ty h v sz nx := by
  unfold hiB
  rw [show (fun i => if i < 8 then some (u i 0) else none) = (fun i => if i < 8 then some (v i 0) else none) from funext fun i => by
    split
    · rw [e i (by omega)]
    · rfl]
def pF0 : pS := upd (fun _ => 0) 13 (-1)
/-- the blocks of the reference's object -/
def moW (ty : Nat → ClassId) (g : Nat → Nat → Nat) (F S T V : pS) (HA ch wr kd nu : Nat → Int32) : List va_W :=
  [moB (g 0) F, arB ty (g 0 1) 215 (sqA 215 S), arB ty (g 0 2) 215 (sqA 215 T), arB ty (g 0 3) 215 (fun _ => 0), arB ty (g 0 4) 215 (sqA 215 V), arB ty (g 0 5) 1720 HA, arB ty (g 0 6) 60 ch, arB ty (g 0 7) 60 wr, arB ty (g 0 8) 40 kd, arB ty (g 0 9) 40 nu]
