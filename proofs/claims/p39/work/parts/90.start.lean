/-! ===== the start: what the Statement gives ===== -/
def flN : List Cond := flatC (Jvm.Cond.and given_1 narrow_1)
theorem tb_in {w : Cond} (i : Nat) (h : tables_1[i]? = some w) : w ∈ lw_tbl := List.mem_append_right _ (List.mem_of_getElem? h)
theorem tb_ws {args : Array Value} {s : State} (h : ∀ c ∈ lw_tbl, c.before args s = true) (ws : List Cond) (ps : List Nat) (he : ws = ps.filterMap (fun i => tables_1[i]?)) : ∀ w ∈ ws, w.before args s = true := fun w hw => by
  rw [he] at hw
  obtain ⟨i, -, hi⟩ := List.mem_filterMap.mp hw
  exact h w (tb_in i hi)
set_option maxRecDepth 100000 in
theorem st_kN {args : Array Value} {s : State} (h : ∀ c ∈ lw_tbl, c.before args s = true) : kN s := by
  have h2 := tb_ws h kNests [33, 39, 46, 47, 49, 51, 53, 55, 57, 58, 60, 61, 63, 64, 66, 89, 94, 95, 97, 98, 106, 111, 112, 114, 116, 118, 120, 122, 124, 126, 127, 147, 152, 172, 174, 176, 178, 180, 182, 184, 202, 208, 210, 222, 241, 245, 333, 337, 340, 412, 416, 420, 427, 432, 436, 444, 452, 457, 492, 496, 500, 512, 520, 524, 535, 543, 549, 554, 562, 570, 575, 583, 591, 600, 608, 616, 621, 625, 642, 651, 656, 660, 668, 673, 677, 681, 698, 717, 725, 726, 727, 734, 739, 770, 778, 791] (by decide +kernel)
  intro w hw
  have h3 := h2 w hw
  have h4 := List.all_eq_true.mp kNests_is w hw
  cases w <;> first | exact va_Nw.of rfl h3 | (simp [kIsNest] at h4)
set_option maxRecDepth 100000 in
theorem st_xBad : ∀ w ∈ xBad, w ∈ lw_tbl := by decide +kernel
theorem st_kC {args : Array Value} {s : State} (h : ∀ c ∈ lw_tbl, c.before args s = true) : kC s := fun w hw => by
  have h3 := h w (st_xBad w hw)
  rcases xCast_of (xBad_c w hw) with ⟨C, T, rfl⟩ | ⟨x, rfl⟩
  · exact va_Nw.of rfl h3
  · exact va_Nw.of rfl h3
set_option maxRecDepth 100000 in
theorem st_kStr {args : Array Value} {s : State} {cur : ClassId} (hown : s.vm.findClass RX8 = some cur) (h : ∀ c ∈ lw_tbl, c.before args s = true) : kStr s := by
  have h2 := tb_ws h (xStr.map (fun z => Cond.stringRef RX8 z.1 z.2)) [456, 519, 574, 599, 620, 386, 672, 646, 655, 708, 728, 740, 716, 754, 481] (by decide +kernel)
  intro z hz
  exact x_str hown (h2 _ (List.mem_map.mpr ⟨z, hz, rfl⟩))
set_option maxRecDepth 100000 in
theorem st_kZ {args : Array Value} {s : State} {cur : ClassId} {A : Nat → Prop} (hown : s.vm.findClass RX8 = some cur) (h : ∀ c ∈ lw_tbl, c.before args s = true) (hf : ∀ c ∈ flN, c.before args s = true) (hA : ∀ a : Nat, a < s.heap.size → ¬ A a) : kZ A s :=
  ⟨⟨st_kC h, st_kStr hown h⟩, (vx_Zqof (h _ (tb_in 371 (by decide +kernel))) (h _ (tb_in 14 (by decide +kernel))) (hf _ (List.mem_of_getElem? (i := 5) (by decide +kernel))) hA), (vx_Zqof (h _ (tb_in 373 (by decide +kernel))) (h _ (tb_in 14 (by decide +kernel))) (hf _ (List.mem_of_getElem? (i := 6) (by decide +kernel))) hA)⟩
set_option maxRecDepth 100000 in
theorem st_kA0 {args : Array Value} {s : State} (h : ∀ c ∈ lw_tbl, c.before args s = true) : kA0 s :=
  ⟨va_AO.of (h (Cond.arrayOver (.object "PumpParliament$State")) (tb_in 207 (by decide +kernel))), over_moved (Vm.Alike.refl s.vm) (h (Cond.arrayOver (.array .int)) (tb_in 44 (by decide +kernel)))⟩
set_option maxRecDepth 100000 in
theorem st_kJ {args : Array Value} {s : State} {A : Nat → Prop} (h : ∀ c ∈ lw_tbl, c.before args s = true) (hf : ∀ c ∈ flN, c.before args s = true) (hA : ∀ a : Nat, a < s.heap.size → ¬ A a) : kJ (fun _ => 0) A s :=
  ⟨va_Zof (h _ (tb_in 271 (by decide +kernel))) (h _ (tb_in 12 (by decide +kernel))) (va_eqi (hf _ (List.mem_of_getElem? (i := 4) (by decide +kernel)))) hA, trivial⟩
set_option maxRecDepth 100000 in
theorem st_cl {args : Array Value} {s : State} (h : ∀ c ∈ lw_tbl, c.before args s = true) : ∀ k : Nat, ∃ (cC : ClassId) (iS : Nat → Nat), ∀ q : vw_C, vwCl[k]? = some q → u_Kn s q.1 q.2.1 q.2.2 cC iS
  | 0 => by
    obtain ⟨a, b, hK⟩ := u_known (C := RJ4) (T := TJ4) (N := 4) (n := 4) h inJ4 (h _ (tb_in 262 (by decide +kernel)))
    exact ⟨a, b, fun q hq => by cases hq; exact hK⟩
  | 1 => by
    obtain ⟨a, b, hK⟩ := u_known (C := RJ4) (T := TJ4) (N := 4) (n := 4) h inJ4 (h _ (tb_in 262 (by decide +kernel)))
    exact ⟨a, b, fun q hq => by cases hq; exact hK⟩
  | 2 => by
    obtain ⟨a, b, hK⟩ := u_known (C := RJ4) (T := TJ4) (N := 4) (n := 4) h inJ4 (h _ (tb_in 262 (by decide +kernel)))
    exact ⟨a, b, fun q hq => by cases hq; exact hK⟩
  | 3 => by
    obtain ⟨a, b, hK⟩ := u_known (C := RJ4) (T := TJ4) (N := 4) (n := 4) h inJ4 (h _ (tb_in 262 (by decide +kernel)))
    exact ⟨a, b, fun q hq => by cases hq; exact hK⟩
  | 4 => by
    obtain ⟨a, b, hK⟩ := u_known (C := RX0) (T := TX0) (N := 5) (n := 5) h inX0 (h _ (tb_in 240 (by decide +kernel)))
    exact ⟨a, b, fun q hq => by cases hq; exact hK⟩
  | 5 => by
    obtain ⟨a, b, hK⟩ := u_known (C := RX1) (T := TX1) (N := 3) (n := 3) h inX1 (h _ (tb_in 201 (by decide +kernel)))
    exact ⟨a, b, fun q hq => by cases hq; exact hK⟩
  | 6 => by
    obtain ⟨a, b, hK⟩ := u_known (C := RX2) (T := TX2) (N := 9) (n := 9) h inX2 (h _ (tb_in 38 (by decide +kernel)))
    exact ⟨a, b, fun q hq => by cases hq; exact hK⟩
  | 7 => by
    obtain ⟨a, b, hK⟩ := u_known (C := RX3) (T := TX3) (N := 6) (n := 6) h inX3 (h _ (tb_in 146 (by decide +kernel)))
    exact ⟨a, b, fun q hq => by cases hq; exact hK⟩
  | 8 => by
    obtain ⟨a, b, hK⟩ := u_known (C := RX4) (T := TX4) (N := 2) (n := 2) h inX4 (h _ (tb_in 88 (by decide +kernel)))
    exact ⟨a, b, fun q hq => by cases hq; exact hK⟩
  | 9 => by
    obtain ⟨a, b, hK⟩ := u_known (C := RX5) (T := TX5) (N := 4) (n := 4) h inX5 (h _ (tb_in 221 (by decide +kernel)))
    exact ⟨a, b, fun q hq => by cases hq; exact hK⟩
  | 10 => by
    obtain ⟨a, b, hK⟩ := u_known (C := RX6) (T := TX6) (N := 7) (n := 7) h inX6 (h _ (tb_in 32 (by decide +kernel)))
    exact ⟨a, b, fun q hq => by cases hq; exact hK⟩
  | 11 => by
    obtain ⟨a, b, hK⟩ := u_known (C := RX7) (T := TX7) (N := 8) (n := 8) h inX7 (h _ (tb_in 105 (by decide +kernel)))
    exact ⟨a, b, fun q hq => by cases hq; exact hK⟩
  | 12 => by
    obtain ⟨a, b, hK⟩ := u_known (C := RX8) (T := TX8) (N := 9) (n := 9) h inX8 (h _ (tb_in 24 (by decide +kernel)))
    exact ⟨a, b, fun q hq => by cases hq; exact hK⟩
  | k + 13 => ⟨0, fun _ => 0, fun q hq => by simp [vwCl] at hq⟩
theorem st_ar {T : FieldType} {args : Array Value} {s : State} (h : (Cond.arrayClass T).before args s = true) : ∃ cA : ClassId, ArrOfT s cA T ∧ s.vm.findClass ("[" ++ T.toString) = some cA := by
  obtain ⟨cA, kA, comp, h1, h2, h3⟩ := Cond.arrayClass_spec h
  exact ⟨cA, fun n z => ⟨fun k h => (by cases h), kA, h2, comp, h3⟩, h1⟩
set_option maxRecDepth 100000 in
theorem st_ty {args : Array Value} {s : State} (h : ∀ c ∈ lw_tbl, c.before args s = true) : ∃ ty : Nat → ClassId, ∀ (k : Nat) (q : ClassId × FieldType), (kTY ty)[k]? = some q → ArrOfT s q.1 q.2 ∧ va_RA s q.1 q.2 := by
  obtain ⟨c0, a0, b0⟩ := st_ar (h (Cond.arrayClass .int) (tb_in 86 (by decide +kernel)))
  obtain ⟨c1, a1, b1⟩ := st_ar (h (Cond.arrayClass .char) (tb_in 260 (by decide +kernel)))
  obtain ⟨c4, a4, b4⟩ := st_ar (h (Cond.arrayClass .byte) (tb_in 290 (by decide +kernel)))
  obtain ⟨m2, c2, k2, p1, p2, p3, p4, p5⟩ := Cond.arrayOver_spec (h (Cond.arrayOver (.object "PumpParliament$State")) (tb_in 207 (by decide +kernel)))
  obtain ⟨m3, c3, k3, r1, r2, r3, r4, r5⟩ := arrayOverA_spec (h (Cond.arrayOver (.array .int)) (tb_in 44 (by decide +kernel)))
  refine ⟨fun k => [c0, c1, c2, c3, c4].getD k 0, fun k q hq => ?_⟩
  match k, hq with
  | 0, hq => cases hq; exact ⟨a0, b0⟩
  | 1, hq => cases hq; exact ⟨a1, b1⟩
  | 2, hq => cases hq; exact ⟨fun n z => ⟨fun k h => (by cases h), k2, p3, m2, p4⟩, k2, m2, p3, p4, p1, p5⟩
  | 3, hq => cases hq; exact ⟨fun n z => ⟨fun k h => (by cases h), k3, r3, m3, r4⟩, r5⟩
  | 4, hq => cases hq; exact ⟨a4, b4⟩
  | k + 5, hq => simp at hq
theorem IV_0 : IV 0 (pS0, pM0) := by
  refine ⟨⟨0, 0, ⟨rfl, by omega, rfl, by omega, fun j hj => absurd hj (Nat.not_lt_zero j), fun i j hi => absurd hi (Nat.not_lt_zero i), Or.inl rfl, by decide⟩, ⟨by decide, by decide⟩, ⟨0, rfl, by omega⟩, fun i hi => ⟨0, 0, 0, 0, 0, pS0_z (by omega) (by omega), pS0_z (by omega) (by omega), pS0_z (by omega) (by omega), pS0_z (by omega) (by omega), pS0_z (by omega) (by omega), by omega, by omega, by omega, by omega⟩, fun j hj => absurd hj (Nat.not_lt_zero j), ⟨0, rfl, by omega⟩⟩, ⟨0, 0, ⟨by omega, by omega, rfl, rfl, rfl, fun j hj => absurd hj (Nat.not_lt_zero j)⟩, fun j hj => absurd hj (Nat.not_lt_zero j)⟩, 0, rfl, by omega⟩
theorem QA_0 : QA pS0 0 := by
  have z : ∀ k, k ≠ 204 → k ≠ 208 → pS0 k = 0 := fun k a b => pS0_z a b
  refine ⟨⟨2, rfl, by omega⟩, fun i _ hi => z _ (by omega) (by omega), ?_, fun w l hw hl _ => z _ (by omega) (by omega), ?_, ?_, 500, rfl, by omega⟩
  · rw [rs_zero fun j hj => z _ (by omega) (by omega), z 210 (by omega) (by omega)]
  · rw [rs_zero fun w hw => rs_zero fun l hl => z _ (by omega) (by omega), z 213 (by omega) (by omega)]
  · rw [z 210 (by omega) (by omega), z 211 (by omega) (by omega), z 214 (by omega) (by omega)]
    rfl
theorem LJ_0 : LJ 0 0 (pS0, pM0) := by
  obtain ⟨⟨n, q, hA⟩, hM⟩ := IV_0
  have hA : IA pS0 n q := hA
  have e : nI n = nI 0 := hA.1.1.symm.trans rfl
  have hn := (nI_eq (a := n) (b := 0) (by have := hA.1.2.1; omega) (by omega)).mp e
  subst hn
  exact ⟨⟨q, hA⟩, hM, QA_0⟩
