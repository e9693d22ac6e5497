/-! ===== the start: what the Statement gives ===== -/
def flN : List Cond := flatC (Jvm.Cond.and given_1 narrow_1)
theorem fl_in {args : Array Value} {s : State} (h : ∀ c ∈ flN, c.before args s = true) (ws : List Cond) (ps : List Nat) (he : ws = ps.filterMap (fun i => flN[i]?)) : ∀ w ∈ ws, w.before args s = true := fun w hw => by
  rw [he] at hw
  obtain ⟨i, -, hi⟩ := List.mem_filterMap.mp hw
  exact h w (List.mem_of_getElem? hi)
theorem tb_in {w : Cond} (i : Nat) (h : tables_1[i]? = some w) : w ∈ lw_tbl := List.mem_append_right _ (List.mem_append_right _ (List.mem_of_getElem? h))
theorem tb_ws {args : Array Value} {s : State} (h : ∀ c ∈ lw_tbl, c.before args s = true) (ws : List Cond) (ps : List Nat) (he : ws = ps.filterMap (fun i => tables_1[i]?)) : ∀ w ∈ ws, w.before args s = true := fun w hw => by
  rw [he] at hw
  obtain ⟨i, -, hi⟩ := List.mem_filterMap.mp hw
  exact h w (tb_in i hi)
set_option maxRecDepth 100000 in
theorem st_kN {args : Array Value} {s : State} (h : ∀ c ∈ lw_tbl, c.before args s = true) : kN s := by
  have h2 := tb_ws h kNests [44, 50, 57, 58, 60, 62, 64, 66, 68, 69, 71, 72, 74, 75, 77, 100, 105, 106, 108, 109, 117, 122, 123, 125, 127, 129, 131, 133, 135, 137, 138, 158, 163, 183, 185, 187, 189, 191, 193, 195, 213, 219, 221, 233, 238, 240, 242, 244, 256, 261, 264, 266, 268, 346, 358, 381, 385, 392, 397, 401, 414, 418, 421, 497, 501, 505, 516, 520, 524, 529, 533, 544, 552, 558, 563, 571, 582, 587, 598, 603, 612, 620, 631, 636, 640, 660, 665, 676, 681, 685, 689, 700, 712, 717, 721, 757, 771, 772, 773, 797, 806, 825, 835, 843, 851, 884, 893, 910, 923, 943, 955, 972, 998, 1003, 1327, 1355, 1367] (by decide +kernel)
  intro w hw
  have h3 := h2 w hw
  have h4 := List.all_eq_true.mp kNests_is w hw
  cases w <;> first | exact va_Nw.of rfl h3 | (simp [kIsNest] at h4)
set_option maxRecDepth 100000 in
theorem st_xBad : ∀ w ∈ xBad, w ∈ lw_tbl := by decide +kernel
theorem st_kC {args : Array Value} {s : State} (h : ∀ c ∈ lw_tbl, c.before args s = true) : kC s := fun w hw => by
  have h3 := h w (st_xBad w hw)
  rcases xCast_of (xBad_c w hw) with ⟨C, T, rfl⟩ | ⟨x, rfl⟩
  · exact va_Nw.of rfl h3
  · exact va_Nw.of rfl h3
set_option maxRecDepth 100000 in
theorem st_kStr {args : Array Value} {s : State} {cur : ClassId} (hown : s.vm.findClass RX8 = some cur) (h : ∀ c ∈ lw_tbl, c.before args s = true) : kStr s := by
  have h2 := tb_ws h (xStr.map (fun z => Cond.stringRef RX8 z.1 z.2)) [471, 528, 586, 611, 635, 664, 680, 704, 716, 767, 783, 798, 824, 834, 869, 883, 892, 909, 914, 936, 976, 981, 989, 990, 1002, 1292, 1325, 1338, 1346, 1354, 1366] (by decide +kernel)
  intro z hz
  exact x_str hown (h2 _ (List.mem_map.mpr ⟨z, hz, rfl⟩))
set_option maxRecDepth 100000 in
theorem st_kZ {args : Array Value} {s : State} {cur : ClassId} {A : Nat → Prop} (hown : s.vm.findClass RX8 = some cur) (h : ∀ c ∈ lw_tbl, c.before args s = true) (hf : ∀ c ∈ flN, c.before args s = true) (hA : ∀ a : Nat, a < s.heap.size → ¬ A a) : kZ A s :=
  ⟨⟨st_kC h, st_kStr hown h⟩, (vx_Zqof (h _ (tb_in 452 (by decide +kernel))) (h _ (tb_in 15 (by decide +kernel))) (hf _ (List.mem_of_getElem? (i := 5) (by decide +kernel))) hA), (vx_Zqof (h _ (tb_in 454 (by decide +kernel))) (h _ (tb_in 15 (by decide +kernel))) (hf _ (List.mem_of_getElem? (i := 6) (by decide +kernel))) hA)⟩
set_option maxRecDepth 100000 in
theorem st_kNc {args : Array Value} {s : State} (h : ∀ c ∈ lw_tbl, c.before args s = true) (hf : ∀ c ∈ flN, c.before args s = true) : kNc s :=
  ⟨fun w hw => pay_in (tb_ws h lkW [752, 855, 409, 1306] (by decide +kernel)) lkW_good w hw #[] s (State.WarmedH.refl s), va_Nc.of (hf _ (List.mem_of_getElem? (i := 248) (by decide +kernel))), va_Nc.of (hf _ (List.mem_of_getElem? (i := 249) (by decide +kernel))), va_Nc.of (hf _ (List.mem_of_getElem? (i := 267) (by decide +kernel))), va_Nc.of (hf _ (List.mem_of_getElem? (i := 264) (by decide +kernel))), va_Nc.of (hf _ (List.mem_of_getElem? (i := 252) (by decide +kernel)))⟩
set_option maxRecDepth 100000 in
theorem st_kA0 {args : Array Value} {s : State} (h : ∀ c ∈ lw_tbl, c.before args s = true) : kA0 s :=
  ⟨va_AO.of (h (Cond.arrayOver (.object "PumpParliament$State")) (tb_in 218 (by decide +kernel))), over_moved (Vm.Alike.refl s.vm) (h (Cond.arrayOver (.array .int)) (tb_in 55 (by decide +kernel)))⟩
set_option maxRecDepth 100000 in
theorem st_DigitOnes {args : Array Value} {s : State} {A : Nat → Prop} (h : ∀ c ∈ lw_tbl, c.before args s = true) (hf : ∀ c ∈ flN, c.before args s = true) (hA : ∀ a : Nat, a < s.heap.size → ¬ A a) : ∃ t : Nat, va_Z "java/lang/Integer" "DigitOnes" "[B" (.ref t) A s s.heap ∧ va_T .byte t 100 (fun j => .int (jT1 j)) A s s.heap := by
  have h2 := fl_in hf ((List.range 100).map (fun j => Cond.eq (.elem (Term.static "java/lang/Integer" "DigitOnes" "[B") (.int (Int32.ofNat j))) (.int (jT1 j)))) [14, 15, 16, 17, 18, 19, 20, 21, 22, 23, 24, 25, 26, 27, 28, 29, 30, 31, 32, 33, 34, 35, 36, 37, 38, 39, 40, 41, 42, 43, 44, 45, 46, 47, 48, 49, 50, 51, 52, 53, 54, 55, 56, 57, 58, 59, 60, 61, 62, 63, 64, 65, 66, 67, 68, 69, 70, 71, 72, 73, 74, 75, 76, 77, 78, 79, 80, 81, 82, 83, 84, 85, 86, 87, 88, 89, 90, 91, 92, 93, 94, 95, 96, 97, 98, 99, 100, 101, 102, 103, 104, 105, 106, 107, 108, 109, 110, 111, 112, 113] (by decide +kernel)
  obtain ⟨t, ht, hT⟩ := va_Tof (tm := (Term.static "java/lang/Integer" "DigitOnes" "[B")) (ty := .byte) (N := 100) (f := fun j => .int (jT1 j)) (A := A) (by decide) (hf _ (List.mem_of_getElem? (i := 12) (by decide +kernel))) (va_eqt (z := 100) (hf _ (List.mem_of_getElem? (i := 13) (by decide +kernel)))) (fun j hj => va_eqt (h2 _ (List.mem_map.mpr ⟨j, List.mem_range.mpr hj, rfl⟩))) hA
  exact ⟨t, va_Zof (h _ (tb_in 1150 (by decide +kernel))) (h _ (tb_in 32 (by decide +kernel))) ht hA, hT⟩
set_option maxRecDepth 100000 in
theorem st_DigitTens {args : Array Value} {s : State} {A : Nat → Prop} (h : ∀ c ∈ lw_tbl, c.before args s = true) (hf : ∀ c ∈ flN, c.before args s = true) (hA : ∀ a : Nat, a < s.heap.size → ¬ A a) : ∃ t : Nat, va_Z "java/lang/Integer" "DigitTens" "[B" (.ref t) A s s.heap ∧ va_T .byte t 100 (fun j => .int (jT2 j)) A s s.heap := by
  have h2 := fl_in hf ((List.range 100).map (fun j => Cond.eq (.elem (Term.static "java/lang/Integer" "DigitTens" "[B") (.int (Int32.ofNat j))) (.int (jT2 j)))) [117, 118, 119, 120, 121, 122, 123, 124, 125, 126, 127, 128, 129, 130, 131, 132, 133, 134, 135, 136, 137, 138, 139, 140, 141, 142, 143, 144, 145, 146, 147, 148, 149, 150, 151, 152, 153, 154, 155, 156, 157, 158, 159, 160, 161, 162, 163, 164, 165, 166, 167, 168, 169, 170, 171, 172, 173, 174, 175, 176, 177, 178, 179, 180, 181, 182, 183, 184, 185, 186, 187, 188, 189, 190, 191, 192, 193, 194, 195, 196, 197, 198, 199, 200, 201, 202, 203, 204, 205, 206, 207, 208, 209, 210, 211, 212, 213, 214, 215, 216] (by decide +kernel)
  obtain ⟨t, ht, hT⟩ := va_Tof (tm := (Term.static "java/lang/Integer" "DigitTens" "[B")) (ty := .byte) (N := 100) (f := fun j => .int (jT2 j)) (A := A) (by decide) (hf _ (List.mem_of_getElem? (i := 115) (by decide +kernel))) (va_eqt (z := 100) (hf _ (List.mem_of_getElem? (i := 116) (by decide +kernel)))) (fun j hj => va_eqt (h2 _ (List.mem_map.mpr ⟨j, List.mem_range.mpr hj, rfl⟩))) hA
  exact ⟨t, va_Zof (h _ (tb_in 1152 (by decide +kernel))) (h _ (tb_in 32 (by decide +kernel))) ht hA, hT⟩
set_option maxRecDepth 100000 in
theorem st_tx0 {args : Array Value} {s : State} {A : Nat → Prop} (hf : ∀ c ∈ flN, c.before args s = true) (hA : ∀ a : Nat, a < s.heap.size → ¬ A a) : ∃ aK aV : Nat, (va_O "java/lang/String" aK A s s.heap ∧ va_OF "java/lang/String" "coder" "B" (.int 0) aK A s s.heap ∧ va_OF "java/lang/String" "value" "[B" (.ref aV) aK A s s.heap ∧ va_T .byte aV 3 (fun j => .int (([108, 97, 119] : List Int32).getD j 0)) A s s.heap) ∧ (Term.string "PumpParliament$Minutes" 56).eval args s none [] s = some (.ref aK) := by
  have h2 := fl_in hf ((List.range 3).map (fun j => Cond.eq (.elem (.field (Term.string "PumpParliament$Minutes" 56) "java/lang/String" "value" "[B") (.int (Int32.ofNat j))) (.int (([108, 97, 119] : List Int32).getD j 0)))) [1134, 1135, 1136] (by decide +kernel)
  obtain ⟨aK, aV, hS, he⟩ := vk_Sof (N := 1) (tm := fun _ => (Term.string "PumpParliament$Minutes" 56)) (len := [3]) (byt := [[108, 97, 119]]) (A := A) (fun i hi => by obtain rfl : i = 0 := (by omega); decide) (fun i hi => (hf _ (List.mem_of_getElem? (i := 1130) (by decide +kernel)))) (fun i hi => (hf _ (List.mem_of_getElem? (i := 1131) (by decide +kernel)))) (fun i hi => (hf _ (List.mem_of_getElem? (i := 1132) (by decide +kernel)))) (fun i hi => by obtain rfl : i = 0 := (by omega); exact (hf _ (List.mem_of_getElem? (i := 1133) (by decide +kernel)))) (fun i hi j hj => by obtain rfl : i = 0 := (by omega); exact h2 _ (List.mem_map.mpr ⟨j, List.mem_range.mpr hj, rfl⟩)) (fun i j hi hj hne => absurd (show i = j by omega) hne) hA
  exact ⟨aK 0, aV 0, hS.1 0 (by omega), he 0 (by omega)⟩
set_option maxRecDepth 100000 in
theorem st_tx1 {args : Array Value} {s : State} {A : Nat → Prop} (hf : ∀ c ∈ flN, c.before args s = true) (hA : ∀ a : Nat, a < s.heap.size → ¬ A a) : ∃ aK aV : Nat, (va_O "java/lang/String" aK A s s.heap ∧ va_OF "java/lang/String" "coder" "B" (.int 0) aK A s s.heap ∧ va_OF "java/lang/String" "value" "[B" (.ref aV) aK A s s.heap ∧ va_T .byte aV 7 (fun j => .int (([108, 101, 97, 116, 104, 101, 114] : List Int32).getD j 0)) A s s.heap) ∧ (Term.string "PumpParliament$Minutes" 61).eval args s none [] s = some (.ref aK) := by
  have h2 := fl_in hf ((List.range 7).map (fun j => Cond.eq (.elem (.field (Term.string "PumpParliament$Minutes" 61) "java/lang/String" "value" "[B") (.int (Int32.ofNat j))) (.int (([108, 101, 97, 116, 104, 101, 114] : List Int32).getD j 0)))) [1141, 1142, 1143, 1144, 1145, 1146, 1147] (by decide +kernel)
  obtain ⟨aK, aV, hS, he⟩ := vk_Sof (N := 1) (tm := fun _ => (Term.string "PumpParliament$Minutes" 61)) (len := [7]) (byt := [[108, 101, 97, 116, 104, 101, 114]]) (A := A) (fun i hi => by obtain rfl : i = 0 := (by omega); decide) (fun i hi => (hf _ (List.mem_of_getElem? (i := 1137) (by decide +kernel)))) (fun i hi => (hf _ (List.mem_of_getElem? (i := 1138) (by decide +kernel)))) (fun i hi => (hf _ (List.mem_of_getElem? (i := 1139) (by decide +kernel)))) (fun i hi => by obtain rfl : i = 0 := (by omega); exact (hf _ (List.mem_of_getElem? (i := 1140) (by decide +kernel)))) (fun i hi j hj => by obtain rfl : i = 0 := (by omega); exact h2 _ (List.mem_map.mpr ⟨j, List.mem_range.mpr hj, rfl⟩)) (fun i j hi hj hne => absurd (show i = j by omega) hne) hA
  exact ⟨aK 0, aV 0, hS.1 0 (by omega), he 0 (by omega)⟩
set_option maxRecDepth 100000 in
theorem st_kJ {args : Array Value} {s : State} {A : Nat → Prop} (h : ∀ c ∈ lw_tbl, c.before args s = true) (hf : ∀ c ∈ flN, c.before args s = true) (hA : ∀ a : Nat, a < s.heap.size → ¬ A a) : ∃ J : Nat → Nat, kJ J A s := by
  obtain ⟨t1, z1, T1⟩ := st_DigitOnes h hf hA
  obtain ⟨t2, z2, T2⟩ := st_DigitTens h hf hA
  obtain ⟨k0, v0, ⟨x0, x1, x2, x3⟩, e0⟩ := st_tx0 hf hA
  obtain ⟨k1, v1, ⟨y0, y1, y2, y3⟩, e1⟩ := st_tx1 hf hA
  have hne : k0 ≠ k1 := fun q => by
    subst q
    obtain ⟨cf, kf, fi, fd, cell, a1, a2, a3, a4, a5, a6⟩ := x2
    obtain ⟨cf', kf', fi', fd', cell', b1, b2, b3, b4, b5, b6⟩ := y2
    cases a1.symm.trans b1
    cases a3.symm.trans b3
    cases a5.symm.trans b5
    obtain ⟨c1, p1, p2, p3, p4, p5, p6, p7⟩ := x3
    obtain ⟨c2, r1, r2, r3, r4, r5, r6, r7⟩ := y3
    cases p1.symm.trans r1
    exact absurd (p5.symm.trans r5) (by decide)
  refine ⟨fun k => [t1, t2, k0, k1, v0, v1].getD k 0, va_Zof (h _ (tb_in 291 (by decide +kernel))) (h _ (tb_in 12 (by decide +kernel))) (va_eqi (hf _ (List.mem_of_getElem? (i := 4) (by decide +kernel)))) hA, ⟨z1, T1⟩, ⟨z2, T2⟩, ⟨fun i hi => ?_, fun i j hi hj e => ?_⟩, ⟨vk_R.of (h _ (tb_in 1281 (by decide +kernel))) e0, vk_R.of (h _ (tb_in 1283 (by decide +kernel))) e1⟩, va_Zqof (h _ (tb_in 1080 (by decide +kernel))) (h _ (tb_in 29 (by decide +kernel))) (hf _ (List.mem_of_getElem? (i := 7) (by decide +kernel))) hA⟩
  · rcases (show i = 0 ∨ i = 1 by omega) with rfl | rfl
    · exact ⟨x0, x1, x2, x3⟩
    · exact ⟨y0, y1, y2, y3⟩
  · rcases (show i = 0 ∨ i = 1 by omega) with rfl | rfl <;> rcases (show j = 0 ∨ j = 1 by omega) with rfl | rfl
    · rfl
    · exact absurd e hne
    · exact absurd e.symm hne
    · rfl
set_option maxRecDepth 100000 in
theorem st_cl {args : Array Value} {s : State} (h : ∀ c ∈ lw_tbl, c.before args s = true) : ∀ k : Nat, ∃ (cC : ClassId) (iS : Nat → Nat), ∀ q : vw_C, vwCl[k]? = some q → u_Kn s q.1 q.2.1 q.2.2 cC iS
  | 0 => by
    obtain ⟨a, b, hK⟩ := u_known (C := RJ0) (T := TJ0) (N := 4) (n := 4) h inJ0 (h _ (tb_in 747 (by decide +kernel)))
    exact ⟨a, b, fun q hq => by cases hq; exact hK⟩
  | 1 => by
    obtain ⟨a, b, hK⟩ := u_known (C := RJ4) (T := TJ4) (N := 4) (n := 4) h inJ4 (h _ (tb_in 282 (by decide +kernel)))
    exact ⟨a, b, fun q hq => by cases hq; exact hK⟩
  | 2 => by
    obtain ⟨a, b, hK⟩ := u_known (C := RJx00060) (T := TJx00060) (N := 6) (n := 6) h inJx00060 (h _ (tb_in 729 (by decide +kernel)))
    exact ⟨a, b, fun q hq => by cases hq; exact hK⟩
  | 3 => by
    obtain ⟨a, b, hK⟩ := u_known (C := RJx7c733) (T := TJx7c733) (N := 6) (n := 6) h inJx7c733 (h _ (tb_in 1015 (by decide +kernel)))
    exact ⟨a, b, fun q hq => by cases hq; exact hK⟩
  | 4 => by
    obtain ⟨a, b, hK⟩ := u_known (C := RX0) (T := TX0) (N := 5) (n := 5) h inX0 (h _ (tb_in 255 (by decide +kernel)))
    exact ⟨a, b, fun q hq => by cases hq; exact hK⟩
  | 5 => by
    obtain ⟨a, b, hK⟩ := u_known (C := RX1) (T := TX1) (N := 3) (n := 3) h inX1 (h _ (tb_in 212 (by decide +kernel)))
    exact ⟨a, b, fun q hq => by cases hq; exact hK⟩
  | 6 => by
    obtain ⟨a, b, hK⟩ := u_known (C := RX2) (T := TX2) (N := 9) (n := 9) h inX2 (h _ (tb_in 49 (by decide +kernel)))
    exact ⟨a, b, fun q hq => by cases hq; exact hK⟩
  | 7 => by
    obtain ⟨a, b, hK⟩ := u_known (C := RX3) (T := TX3) (N := 6) (n := 6) h inX3 (h _ (tb_in 157 (by decide +kernel)))
    exact ⟨a, b, fun q hq => by cases hq; exact hK⟩
  | 8 => by
    obtain ⟨a, b, hK⟩ := u_known (C := RX4) (T := TX4) (N := 2) (n := 2) h inX4 (h _ (tb_in 99 (by decide +kernel)))
    exact ⟨a, b, fun q hq => by cases hq; exact hK⟩
  | 9 => by
    obtain ⟨a, b, hK⟩ := u_known (C := RX5) (T := TX5) (N := 4) (n := 4) h inX5 (h _ (tb_in 232 (by decide +kernel)))
    exact ⟨a, b, fun q hq => by cases hq; exact hK⟩
  | 10 => by
    obtain ⟨a, b, hK⟩ := u_known (C := RX6) (T := TX6) (N := 7) (n := 7) h inX6 (h _ (tb_in 43 (by decide +kernel)))
    exact ⟨a, b, fun q hq => by cases hq; exact hK⟩
  | 11 => by
    obtain ⟨a, b, hK⟩ := u_known (C := RX7) (T := TX7) (N := 8) (n := 8) h inX7 (h _ (tb_in 116 (by decide +kernel)))
    exact ⟨a, b, fun q hq => by cases hq; exact hK⟩
  | 12 => by
    obtain ⟨a, b, hK⟩ := u_known (C := RX8) (T := TX8) (N := 9) (n := 9) h inX8 (h _ (tb_in 35 (by decide +kernel)))
    exact ⟨a, b, fun q hq => by cases hq; exact hK⟩
  | 13 => by
    obtain ⟨a, b, hK⟩ := u_known (C := RX9) (T := TX9) (N := 24) (n := 24) h inX9 (h _ (tb_in 1372 (by decide +kernel)))
    exact ⟨a, b, fun q hq => by cases hq; exact hK⟩
  | k + 14 => ⟨0, fun _ => 0, fun q hq => by simp [vwCl] at hq⟩
theorem st_ar {T : FieldType} {args : Array Value} {s : State} (h : (Cond.arrayClass T).before args s = true) : ∃ cA : ClassId, ArrOfT s cA T ∧ s.vm.findClass ("[" ++ T.toString) = some cA := by
  obtain ⟨cA, kA, comp, h1, h2, h3⟩ := Cond.arrayClass_spec h
  exact ⟨cA, fun n z => ⟨fun k h => (by cases h), kA, h2, comp, h3⟩, h1⟩
set_option maxRecDepth 100000 in
theorem st_ty {args : Array Value} {s : State} (h : ∀ c ∈ lw_tbl, c.before args s = true) : ∃ ty : Nat → ClassId, ∀ (k : Nat) (q : ClassId × FieldType), (kTY ty)[k]? = some q → ArrOfT s q.1 q.2 ∧ va_RA s q.1 q.2 := by
  obtain ⟨c0, a0, b0⟩ := st_ar (h (Cond.arrayClass .int) (tb_in 97 (by decide +kernel)))
  obtain ⟨c1, a1, b1⟩ := st_ar (h (Cond.arrayClass .char) (tb_in 280 (by decide +kernel)))
  obtain ⟨c4, a4, b4⟩ := st_ar (h (Cond.arrayClass .byte) (tb_in 313 (by decide +kernel)))
  obtain ⟨c5, a5, b5⟩ := st_ar (h (Cond.arrayClass .long) (tb_in 1774 (by decide +kernel)))
  obtain ⟨c6, a6, b6⟩ := st_ar (h (Cond.arrayClass .double) (tb_in 1775 (by decide +kernel)))
  obtain ⟨m2, c2, k2, p1, p2, p3, p4, p5⟩ := Cond.arrayOver_spec (h (Cond.arrayOver (.object "PumpParliament$State")) (tb_in 218 (by decide +kernel)))
  obtain ⟨m3, c3, k3, r1, r2, r3, r4, r5⟩ := arrayOverA_spec (h (Cond.arrayOver (.array .int)) (tb_in 55 (by decide +kernel)))
  refine ⟨fun k => [c0, c1, c2, c3, c4, c5, c6].getD k 0, fun k q hq => ?_⟩
  match k, hq with
  | 0, hq => cases hq; exact ⟨a0, b0⟩
  | 1, hq => cases hq; exact ⟨a1, b1⟩
  | 2, hq => cases hq; exact ⟨fun n z => ⟨fun k h => (by cases h), k2, p3, m2, p4⟩, k2, m2, p3, p4, p1, p5⟩
  | 3, hq => cases hq; exact ⟨fun n z => ⟨fun k h => (by cases h), k3, r3, m3, r4⟩, r5⟩
  | 4, hq => cases hq; exact ⟨a4, b4⟩
  | 5, hq => cases hq; exact ⟨a5, b5⟩
  | 6, hq => cases hq; exact ⟨a6, b6⟩
  | k + 7, hq => simp at hq
theorem IV_0 : IV 0 (pS0, pM0) := by
  refine ⟨⟨0, 0, ⟨rfl, by omega, rfl, by omega, fun j hj => absurd hj (Nat.not_lt_zero j), fun i j hi => absurd hi (Nat.not_lt_zero i), Or.inl rfl, by decide⟩, ⟨by decide, by decide⟩, ⟨0, rfl, by omega⟩, fun i hi => ⟨0, 0, 0, 0, 0, pS0_z (by omega) (by omega), pS0_z (by omega) (by omega), pS0_z (by omega) (by omega), pS0_z (by omega) (by omega), pS0_z (by omega) (by omega), by omega, by omega, by omega, by omega⟩, fun j hj => absurd hj (Nat.not_lt_zero j), ⟨0, rfl, by omega⟩⟩, ⟨0, 0, ⟨by omega, by omega, rfl, rfl, rfl, fun j hj => absurd hj (Nat.not_lt_zero j)⟩, fun j hj => absurd hj (Nat.not_lt_zero j)⟩, 0, rfl, by omega⟩
theorem LRel_0 : LRel 0 pS0 pM0 pS0 pM0 (fun _ => (pS0, pM0)) 0 0 false (-1) 0 0 0 0 0 (fun _ => 0) (fun _ => 0) pF0 (fun _ => 0) (fun _ => 0) (fun _ => 0) :=
  ⟨⟨IV_0, IV_0, fun _ _ => IV_0⟩, ⟨by omega, by omega, rfl, fun j hj => absurd hj (Nat.not_lt_zero j)⟩, ⟨rfl, fun q => absurd q (by decide)⟩, ⟨rfl, rfl, rfl, rfl⟩, ⟨by omega, rfl, fun k hk => absurd hk (Nat.not_lt_zero k)⟩, ⟨by omega, rfl, fun i hi => absurd hi (Nat.not_lt_zero i)⟩⟩
