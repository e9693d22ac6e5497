theorem hdN_X5_init : yX5_init.cls ≠ "java/lang/invoke/MethodHandle" ∧ yX5_init.cls ≠ "java/lang/invoke/VarHandle" ∧ (parseMethodDescriptor yX5_init.desc).map (fun d => d.parameters.length) = some 0 := by decide +kernel
set_option maxRecDepth 100000 in
set_option maxHeartbeats 4000000 in
theorem c_X5_init (l : Launch) (J : Nat → Nat) (D : va_G) (ty : Nat → ClassId) (q : Nat) : Mx J l yX5_init wsX5_init (kR 1 20 0 0) D (kTY ty) [.ref q] [[(q, .inr (9, [.int 0, .int 0, .int 0, .int 0]))]] (fun g => True) (fun g => [rfB q 0 0 0 0]) 0 0 := by
  refine m_x (cc := cX5_init) (maxL := 1) (ret := none) (by decide +kernel) rfl (Nat.le_of_ble_eq_true rfl) ?_
  intro p e s m below meth c A ls hx hb hml hr hlocks hown hts hmn hA0 hj w hl
  have hown : s.vm.findClass RX5 = some m.cls := hown
  have hmn : meth.name = "<init>" := hmn
  have hl : lv_has ls 1 [(0, .ref q)] := hl
  refine lv_aload_n hx hb dX5_init_0 rfl (lv_at hl 0 rfl) ?_
  refine W.objInit hx hb hown (hts _ (List.mem_of_getElem? (i := 1) rfl)) (hts _ (List.mem_of_getElem? (i := 2) rfl)) (hts _ (List.mem_of_getElem? (i := 3) rfl)) rfl (hl.1.trans hml.symm) rfl dX5_init_1 (Nat.le_of_ble_eq_true rfl) (Nat.le_of_ble_eq_true rfl) ?_
  refine W.eq (g2 := F0 m 4 ls []) rfl ?_
  exact e_x hx hb hr hlocks w (fun _ _ => 0) trivial rfl dX5_init_4 (Nat.le_of_ble_eq_true rfl) (Nat.le_of_ble_eq_true rfl)

theorem in_X7_init_X7 : ∀ w ∈ wsX70, w ∈ wsX7_init := by decide +kernel
theorem hdN_X7_init : yX7_init.cls ≠ "java/lang/invoke/MethodHandle" ∧ yX7_init.cls ≠ "java/lang/invoke/VarHandle" ∧ (parseMethodDescriptor yX7_init.desc).map (fun d => d.parameters.length) = some 0 := by decide +kernel
set_option maxRecDepth 100000 in
set_option maxHeartbeats 4000000 in
theorem c_X7_init (l : Launch) (J : Nat → Nat) (D : va_G) (ty : Nat → ClassId) (q : Nat) : Mx J l yX7_init wsX7_init (kR 1 20 0 0) D (kTY ty) [.ref q] [[(q, .inr (11, [.int 0, .int 0, .int 0, .int 0, .int 0, .int 0, .int 0, .int 0]))]] (fun g => True) (fun g => [[(q, .inr (11, [.int 500, .int 0, .int 0, .int 0, .int 2, .int 0, .int 0, .int 0]))]]) 0 0 := by
  refine m_x (cc := cX7_init) (maxL := 1) (ret := none) (by decide +kernel) rfl (Nat.le_of_ble_eq_true rfl) ?_
  intro p e s m below meth c A ls hx hb hml hr hlocks hown hts hmn hA0 hj w hl
  have hown : s.vm.findClass RX7 = some m.cls := hown
  have hmn : meth.name = "<init>" := hmn
  have hl : lv_has ls 1 [(0, .ref q)] := hl
  refine lv_aload_n hx hb dX7_init_0 rfl (lv_at hl 0 rfl) ?_
  refine W.objInit hx hb hown (hts _ (List.mem_of_getElem? (i := 1) rfl)) (hts _ (List.mem_of_getElem? (i := 2) rfl)) (hts _ (List.mem_of_getElem? (i := 3) rfl)) rfl (hl.1.trans hml.symm) rfl dX7_init_1 (Nat.le_of_ble_eq_true rfl) (Nat.le_of_ble_eq_true rfl) ?_
  refine W.eq (g2 := F0 m 4 ls []) rfl ?_
  refine lv_aload_n hx hb dX7_init_4 rfl (lv_at hl 0 rfl) ?_
  refine lv_sipush (v := 500) hx hb dX7_init_5 (by decide) ?_
  refine r_put hx hb hts in_X7_init_X7 tyX7 tyX7_ok nmX7 hown w 0 0 rfl rfl (ci := 11) rfl 0 (by decide) (hts _ (List.mem_of_getElem? (i := 4) rfl)) rfl rfl (ty := .int) (by decide +kernel) rfl rfl (Nat.le_of_ble_eq_true rfl) [(q, .inr (11, [.int 500, .int 0, .int 0, .int 0, .int 0, .int 0, .int 0, .int 0]))] rfl [[(q, .inr (11, [.int 500, .int 0, .int 0, .int 0, .int 0, .int 0, .int 0, .int 0]))]] rfl dX7_init_8 (fun H locs w => ?_)
  refine lv_aload_n hx hb dX7_init_11 rfl (lv_at hl 0 rfl) ?_
  refine lv_iconst (v := 2) hx hb dX7_init_12 (by decide) ?_
  refine r_put hx hb hts in_X7_init_X7 tyX7 tyX7_ok nmX7 hown w 0 0 rfl rfl (ci := 11) rfl 4 (by decide) (hts _ (List.mem_of_getElem? (i := 5) rfl)) rfl rfl (ty := .int) (by decide +kernel) rfl rfl (Nat.le_of_ble_eq_true rfl) [(q, .inr (11, [.int 500, .int 0, .int 0, .int 0, .int 2, .int 0, .int 0, .int 0]))] rfl [[(q, .inr (11, [.int 500, .int 0, .int 0, .int 0, .int 2, .int 0, .int 0, .int 0]))]] rfl dX7_init_13 (fun H locs w => ?_)
  exact e_x hx hb hr hlocks w (fun _ _ => 0) trivial rfl dX7_init_16 (Nat.le_of_ble_eq_true rfl) (Nat.le_of_ble_eq_true rfl)

theorem in_X4_init_X4 : ∀ w ∈ wsX40, w ∈ wsX4_init := by decide +kernel
theorem hdN_X4_init : yX4_init.cls ≠ "java/lang/invoke/MethodHandle" ∧ yX4_init.cls ≠ "java/lang/invoke/VarHandle" ∧ (parseMethodDescriptor yX4_init.desc).map (fun d => d.parameters.length) = some 0 := by decide +kernel
set_option maxRecDepth 100000 in
set_option maxHeartbeats 4000000 in
theorem c_X4_init (l : Launch) (J : Nat → Nat) (D : va_G) (ty : Nat → ClassId) (q : Nat) : Mx J l yX4_init wsX4_init (kR 1 20 1 8) D (kTY ty) [.ref q] [[(q, .inr (8, [.int 0, .null]))]] (fun g => g 0 17 = q) (fun g => [quB ty (g 0) pS0]) 1 8 := by
  refine m_x (cc := cX4_init) (maxL := 1) (ret := none) (by decide +kernel) rfl (Nat.le_of_ble_eq_true rfl) ?_
  intro p e s m below meth c A ls hx hb hml hr hlocks hown hts hmn hA0 hj w hl
  have hown : s.vm.findClass RX4 = some m.cls := hown
  have hmn : meth.name = "<init>" := hmn
  have hl : lv_has ls 1 [(0, .ref q)] := hl
  refine lv_aload_n hx hb dX4_init_0 rfl (lv_at hl 0 rfl) ?_
  refine W.objInit hx hb hown (hts _ (List.mem_of_getElem? (i := 1) rfl)) (hts _ (List.mem_of_getElem? (i := 2) rfl)) (hts _ (List.mem_of_getElem? (i := 3) rfl)) rfl (hl.1.trans hml.symm) rfl dX4_init_1 (Nat.le_of_ble_eq_true rfl) (Nat.le_of_ble_eq_true rfl) ?_
  refine W.eq (g2 := F0 m 4 ls []) rfl ?_
  refine lv_aload_n hx hb dX4_init_4 rfl (lv_at hl 0 rfl) ?_
  refine lv_bipush (v := 8) hx hb dX4_init_5 (by decide) ?_
  refine r_newa (atype := .int) (ty := .int) (N' := 8) (a0 := (8, .inl (fun _ => 0))) hx hb (hts _ (List.mem_of_getElem? (i := 4) rfl)) rfl w 0 rfl (fun _ _ h1 h2 => Option.some.inj (h1.symm.trans h2)) (fun _ => rfl) (by decide) (by decide) (Nat.le_of_ble_eq_true rfl) (Nat.le_of_ble_eq_true rfl) (Nat.le_of_ble_eq_true rfl) dX4_init_7 (fun q7 H w => ?_)
  refine r_putF hx hb hts in_X4_init_X4 tyX4 tyX4_ok nmX4 hown hmn w 0 0 rfl rfl (ci := 8) rfl 1 (by decide) (hts _ (List.mem_of_getElem? (i := 5) rfl)) rfl rfl rfl (ty := .array .int) (by decide +kernel) rfl rfl (Nat.le_of_ble_eq_true rfl) [(q, .inr (8, [.int 0, .ref q7]))] rfl [[(q, .inr (8, [.int 0, .ref q7]))], [(q7, .inl (ty 0, 8, .inl (fun _ => 0)))]] rfl dX4_init_9 (fun H locs w => ?_)
  exact e_x hx hb hr hlocks w (fun _ k => if k = 17 then q else q7) rfl (by show _ = (quB ty (fun k => if k = 17 then q else q7) pS0) ++ []; unfold quB; rw [quA_z]; rfl) dX4_init_12 (Nat.le_of_ble_eq_true rfl) (Nat.le_of_ble_eq_true rfl)

theorem in_X3_init_X3 : ∀ w ∈ wsX30, w ∈ wsX3_init := by decide +kernel
theorem hdN_X3_init : yX3_init.cls ≠ "java/lang/invoke/MethodHandle" ∧ yX3_init.cls ≠ "java/lang/invoke/VarHandle" ∧ (parseMethodDescriptor yX3_init.desc).map (fun d => d.parameters.length) = some 0 := by decide +kernel
set_option maxRecDepth 100000 in
set_option maxHeartbeats 4000000 in
theorem c_X3_init (l : Launch) (J : Nat → Nat) (D : va_G) (ty : Nat → ClassId) (q : Nat) : Mx J l yX3_init wsX3_init (kR 1 20 4 80) D (kTY ty) [.ref q] [[(q, .inr (7, [.int 0, .int 0, .null, .null, .null, .null]))]] (fun g => g 0 20 = q) (fun g => [miB ty (g 0) pM0]) 4 80 := by
  refine m_x (cc := cX3_init) (maxL := 1) (ret := none) (by decide +kernel) rfl (Nat.le_of_ble_eq_true rfl) ?_
  intro p e s m below meth c A ls hx hb hml hr hlocks hown hts hmn hA0 hj w hl
  have hown : s.vm.findClass RX3 = some m.cls := hown
  have hmn : meth.name = "<init>" := hmn
  have hl : lv_has ls 1 [(0, .ref q)] := hl
  refine lv_aload_n hx hb dX3_init_0 rfl (lv_at hl 0 rfl) ?_
  refine W.objInit hx hb hown (hts _ (List.mem_of_getElem? (i := 1) rfl)) (hts _ (List.mem_of_getElem? (i := 2) rfl)) (hts _ (List.mem_of_getElem? (i := 3) rfl)) rfl (hl.1.trans hml.symm) rfl dX3_init_1 (Nat.le_of_ble_eq_true rfl) (Nat.le_of_ble_eq_true rfl) ?_
  refine W.eq (g2 := F0 m 4 ls []) rfl ?_
  refine lv_aload_n hx hb dX3_init_4 rfl (lv_at hl 0 rfl) ?_
  refine lv_bipush (v := 20) hx hb dX3_init_5 (by decide) ?_
  refine r_newa (atype := .int) (ty := .int) (N' := 20) (a0 := (20, .inl (fun _ => 0))) hx hb (hts _ (List.mem_of_getElem? (i := 4) rfl)) rfl w 0 rfl (fun _ _ h1 h2 => Option.some.inj (h1.symm.trans h2)) (fun _ => rfl) (by decide) (by decide) (Nat.le_of_ble_eq_true rfl) (Nat.le_of_ble_eq_true rfl) (Nat.le_of_ble_eq_true rfl) dX3_init_7 (fun q7 H w => ?_)
  refine r_putF hx hb hts in_X3_init_X3 tyX3 tyX3_ok nmX3 hown hmn w 0 0 rfl rfl (ci := 7) rfl 2 (by decide) (hts _ (List.mem_of_getElem? (i := 5) rfl)) rfl rfl rfl (ty := .array .int) (by decide +kernel) rfl rfl (Nat.le_of_ble_eq_true rfl) [(q, .inr (7, [.int 0, .int 0, .ref q7, .null, .null, .null]))] rfl [[(q, .inr (7, [.int 0, .int 0, .ref q7, .null, .null, .null]))], [(q7, .inl (ty 0, 20, .inl (fun _ => 0)))]] rfl dX3_init_9 (fun H locs w => ?_)
  refine lv_aload_n hx hb dX3_init_12 rfl (lv_at hl 0 rfl) ?_
  refine lv_bipush (v := 20) hx hb dX3_init_13 (by decide) ?_
  refine r_newa (atype := .int) (ty := .int) (N' := 20) (a0 := (20, .inl (fun _ => 0))) hx hb (hts _ (List.mem_of_getElem? (i := 4) rfl)) rfl w 0 rfl (fun _ _ h1 h2 => Option.some.inj (h1.symm.trans h2)) (fun _ => rfl) (by decide) (by decide) (Nat.le_of_ble_eq_true rfl) (Nat.le_of_ble_eq_true rfl) (Nat.le_of_ble_eq_true rfl) dX3_init_15 (fun q15 H w => ?_)
  refine r_putF hx hb hts in_X3_init_X3 tyX3 tyX3_ok nmX3 hown hmn w 0 0 rfl rfl (ci := 7) rfl 3 (by decide) (hts _ (List.mem_of_getElem? (i := 6) rfl)) rfl rfl rfl (ty := .array .int) (by decide +kernel) rfl rfl (Nat.le_of_ble_eq_true rfl) [(q, .inr (7, [.int 0, .int 0, .ref q7, .ref q15, .null, .null]))] rfl [[(q, .inr (7, [.int 0, .int 0, .ref q7, .ref q15, .null, .null]))], [(q7, .inl (ty 0, 20, .inl (fun _ => 0)))], [(q15, .inl (ty 0, 20, .inl (fun _ => 0)))]] rfl dX3_init_17 (fun H locs w => ?_)
  refine lv_aload_n hx hb dX3_init_20 rfl (lv_at hl 0 rfl) ?_
  refine lv_bipush (v := 20) hx hb dX3_init_21 (by decide) ?_
  refine r_newa (atype := .int) (ty := .int) (N' := 20) (a0 := (20, .inl (fun _ => 0))) hx hb (hts _ (List.mem_of_getElem? (i := 4) rfl)) rfl w 0 rfl (fun _ _ h1 h2 => Option.some.inj (h1.symm.trans h2)) (fun _ => rfl) (by decide) (by decide) (Nat.le_of_ble_eq_true rfl) (Nat.le_of_ble_eq_true rfl) (Nat.le_of_ble_eq_true rfl) dX3_init_23 (fun q23 H w => ?_)
  refine r_putF hx hb hts in_X3_init_X3 tyX3 tyX3_ok nmX3 hown hmn w 0 0 rfl rfl (ci := 7) rfl 4 (by decide) (hts _ (List.mem_of_getElem? (i := 7) rfl)) rfl rfl rfl (ty := .array .int) (by decide +kernel) rfl rfl (Nat.le_of_ble_eq_true rfl) [(q, .inr (7, [.int 0, .int 0, .ref q7, .ref q15, .ref q23, .null]))] rfl [[(q, .inr (7, [.int 0, .int 0, .ref q7, .ref q15, .ref q23, .null]))], [(q7, .inl (ty 0, 20, .inl (fun _ => 0)))], [(q15, .inl (ty 0, 20, .inl (fun _ => 0)))], [(q23, .inl (ty 0, 20, .inl (fun _ => 0)))]] rfl dX3_init_25 (fun H locs w => ?_)
  refine lv_aload_n hx hb dX3_init_28 rfl (lv_at hl 0 rfl) ?_
  refine lv_bipush (v := 20) hx hb dX3_init_29 (by decide) ?_
  refine r_newa (atype := .int) (ty := .int) (N' := 20) (a0 := (20, .inl (fun _ => 0))) hx hb (hts _ (List.mem_of_getElem? (i := 4) rfl)) rfl w 0 rfl (fun _ _ h1 h2 => Option.some.inj (h1.symm.trans h2)) (fun _ => rfl) (by decide) (by decide) (Nat.le_of_ble_eq_true rfl) (Nat.le_of_ble_eq_true rfl) (Nat.le_of_ble_eq_true rfl) dX3_init_31 (fun q31 H w => ?_)
  refine r_putF hx hb hts in_X3_init_X3 tyX3 tyX3_ok nmX3 hown hmn w 0 0 rfl rfl (ci := 7) rfl 5 (by decide) (hts _ (List.mem_of_getElem? (i := 8) rfl)) rfl rfl rfl (ty := .array .int) (by decide +kernel) rfl rfl (Nat.le_of_ble_eq_true rfl) [(q, .inr (7, [.int 0, .int 0, .ref q7, .ref q15, .ref q23, .ref q31]))] rfl [[(q, .inr (7, [.int 0, .int 0, .ref q7, .ref q15, .ref q23, .ref q31]))], [(q7, .inl (ty 0, 20, .inl (fun _ => 0)))], [(q15, .inl (ty 0, 20, .inl (fun _ => 0)))], [(q23, .inl (ty 0, 20, .inl (fun _ => 0)))], [(q31, .inl (ty 0, 20, .inl (fun _ => 0)))]] rfl dX3_init_33 (fun H locs w => ?_)
  exact e_x hx hb hr hlocks w (fun _ k => if k = 20 then q else if k = 21 then q7 else if k = 22 then q15 else if k = 23 then q23 else q31) rfl (by show _ = (miB ty (fun k => if k = 20 then q else if k = 21 then q7 else if k = 22 then q15 else if k = 23 then q23 else q31) pM0) ++ []; unfold miB; rw [miA_z, miA_z, miA_z, miA_z]; rfl) dX3_init_36 (Nat.le_of_ble_eq_true rfl) (Nat.le_of_ble_eq_true rfl)

theorem in_X2_init_X2 : ∀ w ∈ wsX20, w ∈ wsX2_init := by decide +kernel
theorem hdN_X2_init : yX2_init.cls ≠ "java/lang/invoke/MethodHandle" ∧ yX2_init.cls ≠ "java/lang/invoke/VarHandle" ∧ (parseMethodDescriptor yX2_init.desc).map (fun d => d.parameters.length) = some 0 := by decide +kernel
set_option maxRecDepth 100000 in
set_option maxHeartbeats 4000000 in
theorem c_X2_init (l : Launch) (J : Nat → Nat) (D : va_G) (ty : Nat → ClassId) (q : Nat) : Mx J l yX2_init wsX2_init (kR 1 20 15 120) D (kTY ty) [.ref q] [[(q, .inr (6, [.int 0, .int 0, .null, .null, .null, .null, .null, .null, .null]))]] (fun g => g 0 1 = q) (fun g => [lnB ty (g 0) pS0]) 15 120 := by
  refine m_x (cc := cX2_init) (maxL := 1) (ret := none) (by decide +kernel) rfl (Nat.le_of_ble_eq_true rfl) ?_
  intro p e s m below meth c A ls hx hb hml hr hlocks hown hts hmn hA0 hj w hl
  have hown : s.vm.findClass RX2 = some m.cls := hown
  have hmn : meth.name = "<init>" := hmn
  have hl : lv_has ls 1 [(0, .ref q)] := hl
  refine lv_aload_n hx hb dX2_init_0 rfl (lv_at hl 0 rfl) ?_
  refine W.objInit hx hb hown (hts _ (List.mem_of_getElem? (i := 1) rfl)) (hts _ (List.mem_of_getElem? (i := 2) rfl)) (hts _ (List.mem_of_getElem? (i := 3) rfl)) rfl (hl.1.trans hml.symm) rfl dX2_init_1 (Nat.le_of_ble_eq_true rfl) (Nat.le_of_ble_eq_true rfl) ?_
  refine W.eq (g2 := F0 m 4 ls []) rfl ?_
  refine lv_aload_n hx hb dX2_init_4 rfl (lv_at hl 0 rfl) ?_
  refine lv_bipush (v := 8) hx hb dX2_init_5 (by decide) ?_
  refine r_newa (atype := .int) (ty := .int) (N' := 8) (a0 := (8, .inl (fun _ => 0))) hx hb (hts _ (List.mem_of_getElem? (i := 4) rfl)) rfl w 0 rfl (fun _ _ h1 h2 => Option.some.inj (h1.symm.trans h2)) (fun _ => rfl) (by decide) (by decide) (Nat.le_of_ble_eq_true rfl) (Nat.le_of_ble_eq_true rfl) (Nat.le_of_ble_eq_true rfl) dX2_init_7 (fun q7 H w => ?_)
  refine r_putF hx hb hts in_X2_init_X2 tyX2 tyX2_ok nmX2 hown hmn w 0 0 rfl rfl (ci := 6) rfl 2 (by decide) (hts _ (List.mem_of_getElem? (i := 5) rfl)) rfl rfl rfl (ty := .array .int) (by decide +kernel) rfl rfl (Nat.le_of_ble_eq_true rfl) [(q, .inr (6, [.int 0, .int 0, .ref q7, .null, .null, .null, .null, .null, .null]))] rfl [[(q, .inr (6, [.int 0, .int 0, .ref q7, .null, .null, .null, .null, .null, .null]))], [(q7, .inl (ty 0, 8, .inl (fun _ => 0)))]] rfl dX2_init_9 (fun H locs w => ?_)
  refine lv_aload_n hx hb dX2_init_12 rfl (lv_at hl 0 rfl) ?_
  refine lv_bipush (v := 8) hx hb dX2_init_13 (by decide) ?_
  refine r_newa (atype := .int) (ty := .int) (N' := 8) (a0 := (8, .inl (fun _ => 0))) hx hb (hts _ (List.mem_of_getElem? (i := 4) rfl)) rfl w 0 rfl (fun _ _ h1 h2 => Option.some.inj (h1.symm.trans h2)) (fun _ => rfl) (by decide) (by decide) (Nat.le_of_ble_eq_true rfl) (Nat.le_of_ble_eq_true rfl) (Nat.le_of_ble_eq_true rfl) dX2_init_15 (fun q15 H w => ?_)
  refine r_putF hx hb hts in_X2_init_X2 tyX2 tyX2_ok nmX2 hown hmn w 0 0 rfl rfl (ci := 6) rfl 3 (by decide) (hts _ (List.mem_of_getElem? (i := 6) rfl)) rfl rfl rfl (ty := .array .int) (by decide +kernel) rfl rfl (Nat.le_of_ble_eq_true rfl) [(q, .inr (6, [.int 0, .int 0, .ref q7, .ref q15, .null, .null, .null, .null, .null]))] rfl [[(q, .inr (6, [.int 0, .int 0, .ref q7, .ref q15, .null, .null, .null, .null, .null]))], [(q7, .inl (ty 0, 8, .inl (fun _ => 0)))], [(q15, .inl (ty 0, 8, .inl (fun _ => 0)))]] rfl dX2_init_17 (fun H locs w => ?_)
  refine lv_aload_n hx hb dX2_init_20 rfl (lv_at hl 0 rfl) ?_
  refine lv_bipush (v := 8) hx hb dX2_init_21 (by decide) ?_
  refine r_newa (atype := .int) (ty := .int) (N' := 8) (a0 := (8, .inl (fun _ => 0))) hx hb (hts _ (List.mem_of_getElem? (i := 4) rfl)) rfl w 0 rfl (fun _ _ h1 h2 => Option.some.inj (h1.symm.trans h2)) (fun _ => rfl) (by decide) (by decide) (Nat.le_of_ble_eq_true rfl) (Nat.le_of_ble_eq_true rfl) (Nat.le_of_ble_eq_true rfl) dX2_init_23 (fun q23 H w => ?_)
  refine r_putF hx hb hts in_X2_init_X2 tyX2 tyX2_ok nmX2 hown hmn w 0 0 rfl rfl (ci := 6) rfl 4 (by decide) (hts _ (List.mem_of_getElem? (i := 7) rfl)) rfl rfl rfl (ty := .array .int) (by decide +kernel) rfl rfl (Nat.le_of_ble_eq_true rfl) [(q, .inr (6, [.int 0, .int 0, .ref q7, .ref q15, .ref q23, .null, .null, .null, .null]))] rfl [[(q, .inr (6, [.int 0, .int 0, .ref q7, .ref q15, .ref q23, .null, .null, .null, .null]))], [(q7, .inl (ty 0, 8, .inl (fun _ => 0)))], [(q15, .inl (ty 0, 8, .inl (fun _ => 0)))], [(q23, .inl (ty 0, 8, .inl (fun _ => 0)))]] rfl dX2_init_25 (fun H locs w => ?_)
  refine lv_aload_n hx hb dX2_init_28 rfl (lv_at hl 0 rfl) ?_
  refine lv_bipush (v := 8) hx hb dX2_init_29 (by decide) ?_
  refine r_newa (atype := .int) (ty := .int) (N' := 8) (a0 := (8, .inl (fun _ => 0))) hx hb (hts _ (List.mem_of_getElem? (i := 4) rfl)) rfl w 0 rfl (fun _ _ h1 h2 => Option.some.inj (h1.symm.trans h2)) (fun _ => rfl) (by decide) (by decide) (Nat.le_of_ble_eq_true rfl) (Nat.le_of_ble_eq_true rfl) (Nat.le_of_ble_eq_true rfl) dX2_init_31 (fun q31 H w => ?_)
  refine r_putF hx hb hts in_X2_init_X2 tyX2 tyX2_ok nmX2 hown hmn w 0 0 rfl rfl (ci := 6) rfl 5 (by decide) (hts _ (List.mem_of_getElem? (i := 8) rfl)) rfl rfl rfl (ty := .array .int) (by decide +kernel) rfl rfl (Nat.le_of_ble_eq_true rfl) [(q, .inr (6, [.int 0, .int 0, .ref q7, .ref q15, .ref q23, .ref q31, .null, .null, .null]))] rfl [[(q, .inr (6, [.int 0, .int 0, .ref q7, .ref q15, .ref q23, .ref q31, .null, .null, .null]))], [(q7, .inl (ty 0, 8, .inl (fun _ => 0)))], [(q15, .inl (ty 0, 8, .inl (fun _ => 0)))], [(q23, .inl (ty 0, 8, .inl (fun _ => 0)))], [(q31, .inl (ty 0, 8, .inl (fun _ => 0)))]] rfl dX2_init_33 (fun H locs w => ?_)
  refine lv_aload_n hx hb dX2_init_36 rfl (lv_at hl 0 rfl) ?_
  refine lv_bipush (v := 8) hx hb dX2_init_37 (by decide) ?_
  refine r_newa (atype := .int) (ty := .int) (N' := 8) (a0 := (8, .inl (fun _ => 0))) hx hb (hts _ (List.mem_of_getElem? (i := 4) rfl)) rfl w 0 rfl (fun _ _ h1 h2 => Option.some.inj (h1.symm.trans h2)) (fun _ => rfl) (by decide) (by decide) (Nat.le_of_ble_eq_true rfl) (Nat.le_of_ble_eq_true rfl) (Nat.le_of_ble_eq_true rfl) dX2_init_39 (fun q39 H w => ?_)
  refine r_putF hx hb hts in_X2_init_X2 tyX2 tyX2_ok nmX2 hown hmn w 0 0 rfl rfl (ci := 6) rfl 6 (by decide) (hts _ (List.mem_of_getElem? (i := 9) rfl)) rfl rfl rfl (ty := .array .int) (by decide +kernel) rfl rfl (Nat.le_of_ble_eq_true rfl) [(q, .inr (6, [.int 0, .int 0, .ref q7, .ref q15, .ref q23, .ref q31, .ref q39, .null, .null]))] rfl [[(q, .inr (6, [.int 0, .int 0, .ref q7, .ref q15, .ref q23, .ref q31, .ref q39, .null, .null]))], [(q7, .inl (ty 0, 8, .inl (fun _ => 0)))], [(q15, .inl (ty 0, 8, .inl (fun _ => 0)))], [(q23, .inl (ty 0, 8, .inl (fun _ => 0)))], [(q31, .inl (ty 0, 8, .inl (fun _ => 0)))], [(q39, .inl (ty 0, 8, .inl (fun _ => 0)))]] rfl dX2_init_41 (fun H locs w => ?_)
  refine lv_aload_n hx hb dX2_init_44 rfl (lv_at hl 0 rfl) ?_
  refine lv_bipush (v := 8) hx hb dX2_init_45 (by decide) ?_
  refine r_newa (atype := .int) (ty := .int) (N' := 8) (a0 := (8, .inl (fun _ => 0))) hx hb (hts _ (List.mem_of_getElem? (i := 4) rfl)) rfl w 0 rfl (fun _ _ h1 h2 => Option.some.inj (h1.symm.trans h2)) (fun _ => rfl) (by decide) (by decide) (Nat.le_of_ble_eq_true rfl) (Nat.le_of_ble_eq_true rfl) (Nat.le_of_ble_eq_true rfl) dX2_init_47 (fun q47 H w => ?_)
  refine r_putF hx hb hts in_X2_init_X2 tyX2 tyX2_ok nmX2 hown hmn w 0 0 rfl rfl (ci := 6) rfl 7 (by decide) (hts _ (List.mem_of_getElem? (i := 10) rfl)) rfl rfl rfl (ty := .array .int) (by decide +kernel) rfl rfl (Nat.le_of_ble_eq_true rfl) [(q, .inr (6, [.int 0, .int 0, .ref q7, .ref q15, .ref q23, .ref q31, .ref q39, .ref q47, .null]))] rfl [[(q, .inr (6, [.int 0, .int 0, .ref q7, .ref q15, .ref q23, .ref q31, .ref q39, .ref q47, .null]))], [(q7, .inl (ty 0, 8, .inl (fun _ => 0)))], [(q15, .inl (ty 0, 8, .inl (fun _ => 0)))], [(q23, .inl (ty 0, 8, .inl (fun _ => 0)))], [(q31, .inl (ty 0, 8, .inl (fun _ => 0)))], [(q39, .inl (ty 0, 8, .inl (fun _ => 0)))], [(q47, .inl (ty 0, 8, .inl (fun _ => 0)))]] rfl dX2_init_49 (fun H locs w => ?_)
  refine lv_aload_n hx hb dX2_init_52 rfl (lv_at hl 0 rfl) ?_
  refine lv_bipush (v := 8) hx hb dX2_init_53 (by decide) ?_
  refine lv_bipush (v := 8) hx hb dX2_init_55 (by decide) ?_
  refine r_mna8 hx hb hown (hts _ (List.mem_of_getElem? (i := 11) rfl)) hA0.2 (hts _ (List.mem_of_getElem? (i := 4) rfl)) w 0 3 rfl rfl (Nat.le_of_ble_eq_true rfl) (Nat.le_of_ble_eq_true rfl) dX2_init_57 (fun q57 r57 H w => ?_)
  refine r_putF hx hb hts in_X2_init_X2 tyX2 tyX2_ok nmX2 hown hmn w 0 0 rfl rfl (ci := 6) rfl 8 (by decide) (hts _ (List.mem_of_getElem? (i := 12) rfl)) rfl rfl rfl (ty := .array (.array .int)) (by decide +kernel) rfl rfl (Nat.le_of_ble_eq_true rfl) [(q, .inr (6, [.int 0, .int 0, .ref q7, .ref q15, .ref q23, .ref q31, .ref q39, .ref q47, .ref q57]))] rfl [[(q, .inr (6, [.int 0, .int 0, .ref q7, .ref q15, .ref q23, .ref q31, .ref q39, .ref q47, .ref q57]))], [(q7, .inl (ty 0, 8, .inl (fun _ => 0)))], [(q15, .inl (ty 0, 8, .inl (fun _ => 0)))], [(q23, .inl (ty 0, 8, .inl (fun _ => 0)))], [(q31, .inl (ty 0, 8, .inl (fun _ => 0)))], [(q39, .inl (ty 0, 8, .inl (fun _ => 0)))], [(q47, .inl (ty 0, 8, .inl (fun _ => 0)))], (((q57, .inl (ty 3, 8, .inr (.inr (.inr (.inr (fun i => if i < 8 then some (r57 i) else none)))))) :: (List.range 8).map (fun i => (r57 i, .inl (ty 0, 8, .inl (fun _ => 0)))) : va_W))] rfl dX2_init_61 (fun H locs w => ?_)
  exact e_x hx hb hr hlocks w (fun _ => aLn q q7 q15 q23 q31 q39 q47 q57 r57) rfl (by show _ = (lnB ty (aLn q q7 q15 q23 q31 q39 q47 q57 r57) pS0) ++ []; rw [lnB_new]; rfl) dX2_init_64 (Nat.le_of_ble_eq_true rfl) (Nat.le_of_ble_eq_true rfl)

theorem in_X0_init_X0 : ∀ w ∈ wsX00, w ∈ wsX0_init := by decide +kernel
theorem hdN_X0_init : yX0_init.cls ≠ "java/lang/invoke/MethodHandle" ∧ yX0_init.cls ≠ "java/lang/invoke/VarHandle" ∧ (parseMethodDescriptor yX0_init.desc).map (fun d => d.parameters.length) = some 0 := by decide +kernel
set_option maxRecDepth 100000 in
set_option maxHeartbeats 4000000 in
theorem c_X0_init (l : Launch) (J : Nat → Nat) (D : va_G) (ty : Nat → ClassId) (q : Nat) : Mx J l yX0_init wsX0_init (kR 1 20 3 180) D (kTY ty) [.ref q] [[(q, .inr (4, [.int 0, .null, .int 0, .null, .null]))]] (fun g => g 0 0 = q) (fun g => [txB ty (g 0) 0 0 (fun _ => 0) (fun _ => 0) (fun _ => 0)]) 3 180 := by
  refine m_x (cc := cX0_init) (maxL := 1) (ret := none) (by decide +kernel) rfl (Nat.le_of_ble_eq_true rfl) ?_
  intro p e s m below meth c A ls hx hb hml hr hlocks hown hts hmn hA0 hj w hl
  have hown : s.vm.findClass RX0 = some m.cls := hown
  have hmn : meth.name = "<init>" := hmn
  have hl : lv_has ls 1 [(0, .ref q)] := hl
  refine lv_aload_n hx hb dX0_init_0 rfl (lv_at hl 0 rfl) ?_
  refine W.objInit hx hb hown (hts _ (List.mem_of_getElem? (i := 1) rfl)) (hts _ (List.mem_of_getElem? (i := 2) rfl)) (hts _ (List.mem_of_getElem? (i := 3) rfl)) rfl (hl.1.trans hml.symm) rfl dX0_init_1 (Nat.le_of_ble_eq_true rfl) (Nat.le_of_ble_eq_true rfl) ?_
  refine W.eq (g2 := F0 m 4 ls []) rfl ?_
  refine lv_aload_n hx hb dX0_init_4 rfl (lv_at hl 0 rfl) ?_
  refine lv_bipush (v := 60) hx hb dX0_init_5 (by decide) ?_
  refine r_newa (atype := .char) (ty := .char) (N' := 60) (a0 := (60, .inl (fun _ => 0))) hx hb (hts _ (List.mem_of_getElem? (i := 4) rfl)) rfl w 1 rfl (fun _ _ h1 h2 => Option.some.inj (h1.symm.trans h2)) (fun _ => rfl) (by decide) (by decide) (Nat.le_of_ble_eq_true rfl) (Nat.le_of_ble_eq_true rfl) (Nat.le_of_ble_eq_true rfl) dX0_init_7 (fun q7 H w => ?_)
  refine r_putF hx hb hts in_X0_init_X0 tyX0 tyX0_ok nmX0 hown hmn w 0 0 rfl rfl (ci := 4) rfl 1 (by decide) (hts _ (List.mem_of_getElem? (i := 5) rfl)) rfl rfl rfl (ty := .array .char) (by decide +kernel) rfl rfl (Nat.le_of_ble_eq_true rfl) [(q, .inr (4, [.int 0, .ref q7, .int 0, .null, .null]))] rfl [[(q, .inr (4, [.int 0, .ref q7, .int 0, .null, .null]))], [(q7, .inl (ty 1, 60, .inl (fun _ => 0)))]] rfl dX0_init_9 (fun H locs w => ?_)
  refine lv_aload_n hx hb dX0_init_12 rfl (lv_at hl 0 rfl) ?_
  refine lv_bipush (v := 60) hx hb dX0_init_13 (by decide) ?_
  refine r_newa (atype := .char) (ty := .char) (N' := 60) (a0 := (60, .inl (fun _ => 0))) hx hb (hts _ (List.mem_of_getElem? (i := 4) rfl)) rfl w 1 rfl (fun _ _ h1 h2 => Option.some.inj (h1.symm.trans h2)) (fun _ => rfl) (by decide) (by decide) (Nat.le_of_ble_eq_true rfl) (Nat.le_of_ble_eq_true rfl) (Nat.le_of_ble_eq_true rfl) dX0_init_15 (fun q15 H w => ?_)
  refine r_putF hx hb hts in_X0_init_X0 tyX0 tyX0_ok nmX0 hown hmn w 0 0 rfl rfl (ci := 4) rfl 3 (by decide) (hts _ (List.mem_of_getElem? (i := 6) rfl)) rfl rfl rfl (ty := .array .char) (by decide +kernel) rfl rfl (Nat.le_of_ble_eq_true rfl) [(q, .inr (4, [.int 0, .ref q7, .int 0, .ref q15, .null]))] rfl [[(q, .inr (4, [.int 0, .ref q7, .int 0, .ref q15, .null]))], [(q7, .inl (ty 1, 60, .inl (fun _ => 0)))], [(q15, .inl (ty 1, 60, .inl (fun _ => 0)))]] rfl dX0_init_17 (fun H locs w => ?_)
  refine lv_aload_n hx hb dX0_init_20 rfl (lv_at hl 0 rfl) ?_
  refine lv_bipush (v := 60) hx hb dX0_init_21 (by decide) ?_
  refine r_newa (atype := .int) (ty := .int) (N' := 60) (a0 := (60, .inl (fun _ => 0))) hx hb (hts _ (List.mem_of_getElem? (i := 7) rfl)) rfl w 0 rfl (fun _ _ h1 h2 => Option.some.inj (h1.symm.trans h2)) (fun _ => rfl) (by decide) (by decide) (Nat.le_of_ble_eq_true rfl) (Nat.le_of_ble_eq_true rfl) (Nat.le_of_ble_eq_true rfl) dX0_init_23 (fun q23 H w => ?_)
  refine r_putF hx hb hts in_X0_init_X0 tyX0 tyX0_ok nmX0 hown hmn w 0 0 rfl rfl (ci := 4) rfl 4 (by decide) (hts _ (List.mem_of_getElem? (i := 8) rfl)) rfl rfl rfl (ty := .array .int) (by decide +kernel) rfl rfl (Nat.le_of_ble_eq_true rfl) [(q, .inr (4, [.int 0, .ref q7, .int 0, .ref q15, .ref q23]))] rfl [[(q, .inr (4, [.int 0, .ref q7, .int 0, .ref q15, .ref q23]))], [(q7, .inl (ty 1, 60, .inl (fun _ => 0)))], [(q15, .inl (ty 1, 60, .inl (fun _ => 0)))], [(q23, .inl (ty 0, 60, .inl (fun _ => 0)))]] rfl dX0_init_25 (fun H locs w => ?_)
  exact e_x hx hb hr hlocks w (fun _ => aTx q q7 q15 q23) rfl rfl dX0_init_28 (Nat.le_of_ble_eq_true rfl) (Nat.le_of_ble_eq_true rfl)

theorem in_J5_init_d00df_J4 : ∀ w ∈ wsJ40, w ∈ wsJ5_init_d00df := by decide +kernel
theorem hdN_J5_init_d00df : yJ5_init_d00df.cls ≠ "java/lang/invoke/MethodHandle" ∧ yJ5_init_d00df.cls ≠ "java/lang/invoke/VarHandle" ∧ (parseMethodDescriptor yJ5_init_d00df.desc).map (fun d => d.parameters.length) = some 1 := by decide +kernel
set_option maxRecDepth 100000 in
set_option maxHeartbeats 4000000 in
theorem c_J5_init_d00df (l : Launch) (J : Nat → Nat) (D : va_G) (ty : Nat → ClassId) (q : Nat) : Mx J l yJ5_init_d00df wsJ5_init_d00df (kR 1 20 1 16) D (kTY ty) [.ref q, .int 16] [[(q, .inr (1, [.null, .int 0, .int 0, .int 0]))]] (fun g => True) (fun g => [soB q (g 0 0) 0 0, baB ty (g 0 0) (fun _ => 0)]) 1 16 := by
  refine m_x (cc := cJ5_init_d00df) (maxL := 2) (ret := none) (by decide +kernel) rfl (Nat.le_of_ble_eq_true rfl) ?_
  intro p e s m below meth c A ls hx hb hml hr hlocks hown hts hmn hA0 hj w hl
  have hown : s.vm.findClass RJ5 = some m.cls := hown
  have hmn : meth.name = "<init>" := hmn
  have hl : lv_has ls 2 [(0, .ref q), (1, .int 16)] := hl
  refine lv_aload_n hx hb dJ5_init_d00df_0 rfl (lv_at hl 0 rfl) ?_
  refine W.objInit hx hb hown (hts _ (List.mem_of_getElem? (i := 1) rfl)) (hts _ (List.mem_of_getElem? (i := 2) rfl)) (hts _ (List.mem_of_getElem? (i := 3) rfl)) rfl (hl.1.trans hml.symm) rfl dJ5_init_d00df_1 (Nat.le_of_ble_eq_true rfl) (Nat.le_of_ble_eq_true rfl) ?_
  refine W.eq (g2 := F0 m 4 ls []) rfl ?_
  refine va_gets hx hb hj.1 w.2.2.2.1 hown (hts _ (List.mem_of_getElem? (i := 4) rfl)) (fun _ h => h) dJ5_init_d00df_4 ?_
  refine lv_if_eq (tgt := 25) hx hb dJ5_init_d00df_7 (by decide) (fun c7 => ?_) (fun c7 => ?_)
  · exact absurd c7 (by decide)
  · refine lv_aload_n hx hb dJ5_init_d00df_10 rfl (lv_at hl 0 rfl) ?_
    refine lv_iload_n hx hb dJ5_init_d00df_11 rfl (lv_at hl 1 rfl) ?_
    refine r_newa (atype := .byte) (ty := .byte) (N' := 16) (a0 := (16, .inl (fun _ => 0))) hx hb (hts _ (List.mem_of_getElem? (i := 5) rfl)) rfl w 4 rfl (fun _ _ h1 h2 => Option.some.inj (h1.symm.trans h2)) (fun _ => rfl) (by decide) (by decide) (Nat.le_of_ble_eq_true rfl) (Nat.le_of_ble_eq_true rfl) (Nat.le_of_ble_eq_true rfl) dJ5_init_d00df_12 (fun q12 H w => ?_)
    refine r_put hx hb hts in_J5_init_d00df_J4 tyJ4 tyJ4_ok nmJ4 hown w 0 0 rfl rfl (ci := 1) rfl 0 (by decide) (hts _ (List.mem_of_getElem? (i := 6) rfl)) rfl rfl (ty := .array .byte) (by decide +kernel) rfl rfl (Nat.le_of_ble_eq_true rfl) [(q, .inr (1, [.ref q12, .int 0, .int 0, .int 0]))] rfl [[(q, .inr (1, [.ref q12, .int 0, .int 0, .int 0]))], [(q12, .inl (ty 4, 16, .inl (fun _ => 0)))]] rfl dJ5_init_d00df_14 (fun H locs w => ?_)
    refine lv_aload_n hx hb dJ5_init_d00df_17 rfl (lv_at hl 0 rfl) ?_
    refine lv_iconst (v := 0) hx hb dJ5_init_d00df_18 (by decide) ?_
    refine r_put hx hb hts in_J5_init_d00df_J4 tyJ4 tyJ4_ok nmJ4 hown w 0 0 rfl rfl (ci := 1) rfl 1 (by decide) (hts _ (List.mem_of_getElem? (i := 7) rfl)) rfl rfl (ty := .byte) (by decide +kernel) rfl rfl (Nat.le_of_ble_eq_true rfl) [(q, .inr (1, [.ref q12, .int 0, .int 0, .int 0]))] rfl [[(q, .inr (1, [.ref q12, .int 0, .int 0, .int 0]))], [(q12, .inl (ty 4, 16, .inl (fun _ => 0)))]] rfl dJ5_init_d00df_19 (fun H locs w => ?_)
    refine lv_goto (tgt := 38) hx hb dJ5_init_d00df_22 (by decide) ?_
    exact e_x hx hb hr hlocks w (fun _ _ => q12) trivial rfl dJ5_init_d00df_38 (Nat.le_of_ble_eq_true rfl) (Nat.le_of_ble_eq_true rfl)

theorem hdN_J4_init_da8c8 : yJ4_init_da8c8.cls ≠ "java/lang/invoke/MethodHandle" ∧ yJ4_init_da8c8.cls ≠ "java/lang/invoke/VarHandle" ∧ (parseMethodDescriptor yJ4_init_da8c8.desc).map (fun d => d.parameters.length) = some 0 := by decide +kernel
set_option maxRecDepth 100000 in
set_option maxHeartbeats 4000000 in
theorem c_J4_init_da8c8 (l : Launch) (J : Nat → Nat) (D : va_G) (ty : Nat → ClassId) (q : Nat) : Mx J l yJ4_init_da8c8 wsJ4_init_da8c8 (kR 2 41 1 16) D (kTY ty) [.ref q] [[(q, .inr (1, [.null, .int 0, .int 0, .int 0]))]] (fun g => True) (fun g => [soB q (g 0 0) 0 0, baB ty (g 0 0) (fun _ => 0)]) 1 16 := by
  refine m_x (cc := cJ4_init_da8c8) (maxL := 1) (ret := none) (by decide +kernel) rfl (Nat.le_of_ble_eq_true rfl) ?_
  intro p e s m below meth c A ls hx hb hml hr hlocks hown hts hmn hA0 hj w hl
  have hown : s.vm.findClass RJ4 = some m.cls := hown
  have hmn : meth.name = "<init>" := hmn
  have hl : lv_has ls 1 [(0, .ref q)] := hl
  refine lv_aload_n hx hb dJ4_init_da8c8_0 rfl (lv_at hl 0 rfl) ?_
  refine lv_bipush (v := 16) hx hb dJ4_init_da8c8_1 (by decide) ?_
  refine x_cI (As := [.int 16]) (rest := []) (Rs := []) ⟨hx, hb, hml, hown, hts⟩ hA0 hj w (c_J5_init_d00df l J D ty q) (cwI 1 hts gJ4_init_da8c8_J5_init_d00df rfl rfl rfl (hts _ (List.mem_of_getElem? (i := 3) rfl)) (hts _ (List.mem_of_getElem? (i := 1) rfl)) (hts _ (List.mem_of_getElem? (i := 2) rfl)) rfl hdN_J5_init_d00df ⟨Nat.le_of_ble_eq_true rfl, Nat.le_of_ble_eq_true rfl⟩) [0] (nB := 1) (by decide) rfl rfl rfl hl.1 rfl (Nat.le_of_ble_eq_true rfl) dJ4_init_da8c8_3 ⟨(Nat.le_of_ble_eq_true rfl), (Nat.le_of_ble_eq_true rfl)⟩ (fun g3 H locs hK w9 => ?_)
  have w := w9.cast (Bs' := [soB q (g3 0 0) 0 0, baB ty (g3 0 0) (fun _ => 0)]) rfl
  exact e_x hx hb hr hlocks w g3 trivial rfl dJ4_init_da8c8_6 (Nat.le_of_ble_eq_true rfl) (Nat.le_of_ble_eq_true rfl)

theorem in_X6_init_X2 : ∀ w ∈ wsX20, w ∈ wsX6_init := by decide +kernel
theorem in_X6_init_X3 : ∀ w ∈ wsX30, w ∈ wsX6_init := by decide +kernel
theorem in_X6_init_X4 : ∀ w ∈ wsX40, w ∈ wsX6_init := by decide +kernel
theorem in_X6_init_X6 : ∀ w ∈ wsX60, w ∈ wsX6_init := by decide +kernel
theorem in_X6_init_X7 : ∀ w ∈ wsX70, w ∈ wsX6_init := by decide +kernel
theorem hdN_X6_init : yX6_init.cls ≠ "java/lang/invoke/MethodHandle" ∧ yX6_init.cls ≠ "java/lang/invoke/VarHandle" ∧ (parseMethodDescriptor yX6_init.desc).map (fun d => d.parameters.length) = some 0 := by decide +kernel
set_option maxRecDepth 100000 in
set_option maxHeartbeats 4000000 in
theorem c_X6_init (l : Launch) (J : Nat → Nat) (D : va_G) (ty : Nat → ClassId) (q : Nat) : Mx J l yX6_init wsX6_init (kR 2 40 24 233) D (kTY ty) [.ref q] [[(q, .inr (10, [.null, .null, .null, .null, .int 0, .int 0, .int 0]))]] (fun g => g 0 0 = q) (fun g => stW ty (g 0) (pS0, pM0)) 24 233 := by
  refine m_x (cc := cX6_init) (maxL := 1) (ret := none) (by decide +kernel) rfl (Nat.le_of_ble_eq_true rfl) ?_
  intro p e s m below meth c A ls hx hb hml hr hlocks hown hts hmn hA0 hj w hl
  have hown : s.vm.findClass RX6 = some m.cls := hown
  have hmn : meth.name = "<init>" := hmn
  have hl : lv_has ls 1 [(0, .ref q)] := hl
  refine lv_aload_n hx hb dX6_init_0 rfl (lv_at hl 0 rfl) ?_
  refine W.objInit hx hb hown (hts _ (List.mem_of_getElem? (i := 1) rfl)) (hts _ (List.mem_of_getElem? (i := 2) rfl)) (hts _ (List.mem_of_getElem? (i := 3) rfl)) rfl (hl.1.trans hml.symm) rfl dX6_init_1 (Nat.le_of_ble_eq_true rfl) (Nat.le_of_ble_eq_true rfl) ?_
  refine W.eq (g2 := F0 m 4 ls []) rfl ?_
  refine lv_aload_n hx hb dX6_init_4 rfl (lv_at hl 0 rfl) ?_
  refine r_new (ci := 6) (fs := [.int 0, .int 0, .null, .null, .null, .null, .null, .null, .null]) (C := RX2) (T := TX2) (N := 9) hx hb hts in_X6_init_X2 tyX2 tyX2_ok hown (hts _ (List.mem_of_getElem? (i := 4) rfl)) (hts _ (List.mem_of_getElem? (i := 5) rfl)) (hts _ (List.mem_of_getElem? (i := 6) rfl)) w rfl (fun j hj => by rcases (show j = 0 ∨ j = 1 ∨ j = 2 ∨ j = 3 ∨ j = 4 ∨ j = 5 ∨ j = 6 ∨ j = 7 ∨ j = 8 by omega) with rfl | rfl | rfl | rfl | rfl | rfl | rfl | rfl | rfl <;> rfl) (Nat.le_of_ble_eq_true rfl) (Nat.le_of_ble_eq_true rfl) dX6_init_5 (fun q5 H w => ?_)
  refine lv_dup hx hb dX6_init_8 rfl ?_
  refine x_cIN (As := []) (rest := [.ref q5, .ref q]) (Rs := [[(q, .inr (10, [.null, .null, .null, .null, .int 0, .int 0, .int 0]))]]) ⟨hx, hb, hml, hown, hts⟩ hA0 hj w (c_X2_init l J D ty q5) ⟨va_cnB 0 hts gX6_init_X2_init_n11 rfl rfl rfl (w.2.2.2.2.2 _ (List.mem_of_getElem? (i := 1) rfl)) (hts _ (List.mem_of_getElem? (i := 6) rfl)) hdN_X2_init ⟨Nat.le_of_ble_eq_true rfl, Nat.le_of_ble_eq_true rfl⟩, rfl, (hts _ (List.mem_of_getElem? (i := 20) rfl))⟩ [1, 0] (nB := 2) (by decide) rfl rfl rfl hl.1 rfl (Nat.le_of_ble_eq_true rfl) dX6_init_9 ⟨(Nat.le_of_ble_eq_true rfl), (Nat.le_of_ble_eq_true rfl)⟩ (fun g9 H locs hK w9 => ?_)
  obtain rfl : (g9 0) 1 = q5 := hK
  have w := w9.cast (Bs' := [lnB ty (g9 0) pS0, [(q, .inr (10, [.null, .null, .null, .null, .int 0, .int 0, .int 0]))]]) rfl
  refine r_putF hx hb hts in_X6_init_X6 tyX6 tyX6_ok nmX6 hown hmn w 1 0 rfl rfl (ci := 10) rfl 0 (by decide) (hts _ (List.mem_of_getElem? (i := 7) rfl)) rfl rfl rfl (ty := .object "PumpParliament$Lane") (by decide +kernel) rfl rfl (Nat.le_of_ble_eq_true rfl) [(q, .inr (10, [.ref ((g9 0) 1), .null, .null, .null, .int 0, .int 0, .int 0]))] rfl [lnB ty (g9 0) pS0, [(q, .inr (10, [.ref ((g9 0) 1), .null, .null, .null, .int 0, .int 0, .int 0]))]] rfl dX6_init_12 (fun H locs w => ?_)
  refine lv_aload_n hx hb dX6_init_15 rfl (lv_at hl 0 rfl) ?_
  refine r_new (ci := 8) (fs := [.int 0, .null]) (C := RX4) (T := TX4) (N := 2) hx hb hts in_X6_init_X4 tyX4 tyX4_ok hown (hts _ (List.mem_of_getElem? (i := 8) rfl)) (hts _ (List.mem_of_getElem? (i := 9) rfl)) (hts _ (List.mem_of_getElem? (i := 10) rfl)) w rfl (fun j hj => by rcases (show j = 0 ∨ j = 1 by omega) with rfl | rfl <;> rfl) (Nat.le_of_ble_eq_true rfl) (Nat.le_of_ble_eq_true rfl) dX6_init_16 (fun q16 H w => ?_)
  refine lv_dup hx hb dX6_init_19 rfl ?_
  refine x_cIN (As := []) (rest := [.ref q16, .ref q]) (Rs := [lnB ty (g9 0) pS0, [(q, .inr (10, [.ref ((g9 0) 1), .null, .null, .null, .int 0, .int 0, .int 0]))]]) ⟨hx, hb, hml, hown, hts⟩ hA0 hj w (c_X4_init l J D ty q16) ⟨va_cnB 0 hts gX6_init_X4_init_n20 rfl rfl rfl (w.2.2.2.2.2 _ (List.mem_of_getElem? (i := 15) rfl)) (hts _ (List.mem_of_getElem? (i := 10) rfl)) hdN_X4_init ⟨Nat.le_of_ble_eq_true rfl, Nat.le_of_ble_eq_true rfl⟩, rfl, (hts _ (List.mem_of_getElem? (i := 32) rfl))⟩ [2, 0, 1] (nB := 3) (by decide) rfl rfl rfl hl.1 rfl (Nat.le_of_ble_eq_true rfl) dX6_init_20 ⟨(Nat.le_of_ble_eq_true rfl), (Nat.le_of_ble_eq_true rfl)⟩ (fun g20 H locs hK w9 => ?_)
  obtain rfl : (g20 0) 17 = q16 := hK
  have w := w9.cast (Bs' := [quB ty (g20 0) pS0, lnB ty (g9 0) pS0, [(q, .inr (10, [.ref ((g9 0) 1), .null, .null, .null, .int 0, .int 0, .int 0]))]]) rfl
  refine r_putF hx hb hts in_X6_init_X6 tyX6 tyX6_ok nmX6 hown hmn w 2 0 rfl rfl (ci := 10) rfl 1 (by decide) (hts _ (List.mem_of_getElem? (i := 11) rfl)) rfl rfl rfl (ty := .object "PumpParliament$Queue") (by decide +kernel) rfl rfl (Nat.le_of_ble_eq_true rfl) [(q, .inr (10, [.ref ((g9 0) 1), .ref ((g20 0) 17), .null, .null, .int 0, .int 0, .int 0]))] rfl [quB ty (g20 0) pS0, lnB ty (g9 0) pS0, [(q, .inr (10, [.ref ((g9 0) 1), .ref ((g20 0) 17), .null, .null, .int 0, .int 0, .int 0]))]] rfl dX6_init_23 (fun H locs w => ?_)
  refine lv_aload_n hx hb dX6_init_26 rfl (lv_at hl 0 rfl) ?_
  refine r_new (ci := 11) (fs := [.int 0, .int 0, .int 0, .int 0, .int 0, .int 0, .int 0, .int 0]) (C := RX7) (T := TX7) (N := 8) hx hb hts in_X6_init_X7 tyX7 tyX7_ok hown (hts _ (List.mem_of_getElem? (i := 12) rfl)) (hts _ (List.mem_of_getElem? (i := 13) rfl)) (hts _ (List.mem_of_getElem? (i := 14) rfl)) w rfl (fun j hj => by rcases (show j = 0 ∨ j = 1 ∨ j = 2 ∨ j = 3 ∨ j = 4 ∨ j = 5 ∨ j = 6 ∨ j = 7 by omega) with rfl | rfl | rfl | rfl | rfl | rfl | rfl | rfl <;> rfl) (Nat.le_of_ble_eq_true rfl) (Nat.le_of_ble_eq_true rfl) dX6_init_27 (fun q27 H w => ?_)
  refine lv_dup hx hb dX6_init_30 rfl ?_
  refine x_cIN (As := []) (rest := [.ref q27, .ref q]) (Rs := [quB ty (g20 0) pS0, lnB ty (g9 0) pS0, [(q, .inr (10, [.ref ((g9 0) 1), .ref ((g20 0) 17), .null, .null, .int 0, .int 0, .int 0]))]]) ⟨hx, hb, hml, hown, hts⟩ hA0 hj w (c_X7_init l J D ty q27) ⟨va_cnB 0 hts gX6_init_X7_init_n27 rfl rfl rfl (w.2.2.2.2.2 _ (List.mem_of_getElem? (i := 20) rfl)) (hts _ (List.mem_of_getElem? (i := 14) rfl)) hdN_X7_init ⟨Nat.le_of_ble_eq_true rfl, Nat.le_of_ble_eq_true rfl⟩, rfl, (hts _ (List.mem_of_getElem? (i := 36) rfl))⟩ [3, 0, 1, 2] (nB := 4) (by decide) rfl rfl rfl hl.1 rfl (Nat.le_of_ble_eq_true rfl) dX6_init_31 ⟨(Nat.le_of_ble_eq_true rfl), (Nat.le_of_ble_eq_true rfl)⟩ (fun g31 H locs hK w9 => ?_)
  have w := w9.cast (Bs' := [[(q27, .inr (11, [.int 500, .int 0, .int 0, .int 0, .int 2, .int 0, .int 0, .int 0]))], quB ty (g20 0) pS0, lnB ty (g9 0) pS0, [(q, .inr (10, [.ref ((g9 0) 1), .ref ((g20 0) 17), .null, .null, .int 0, .int 0, .int 0]))]]) rfl
  refine r_putF hx hb hts in_X6_init_X6 tyX6 tyX6_ok nmX6 hown hmn w 3 0 rfl rfl (ci := 10) rfl 2 (by decide) (hts _ (List.mem_of_getElem? (i := 15) rfl)) rfl rfl rfl (ty := .object "PumpParliament$Well") (by decide +kernel) rfl rfl (Nat.le_of_ble_eq_true rfl) [(q, .inr (10, [.ref ((g9 0) 1), .ref ((g20 0) 17), .ref q27, .null, .int 0, .int 0, .int 0]))] rfl [[(q27, .inr (11, [.int 500, .int 0, .int 0, .int 0, .int 2, .int 0, .int 0, .int 0]))], quB ty (g20 0) pS0, lnB ty (g9 0) pS0, [(q, .inr (10, [.ref ((g9 0) 1), .ref ((g20 0) 17), .ref q27, .null, .int 0, .int 0, .int 0]))]] rfl dX6_init_34 (fun H locs w => ?_)
  refine lv_aload_n hx hb dX6_init_37 rfl (lv_at hl 0 rfl) ?_
  refine r_new (ci := 7) (fs := [.int 0, .int 0, .null, .null, .null, .null]) (C := RX3) (T := TX3) (N := 6) hx hb hts in_X6_init_X3 tyX3 tyX3_ok hown (hts _ (List.mem_of_getElem? (i := 16) rfl)) (hts _ (List.mem_of_getElem? (i := 17) rfl)) (hts _ (List.mem_of_getElem? (i := 18) rfl)) w rfl (fun j hj => by rcases (show j = 0 ∨ j = 1 ∨ j = 2 ∨ j = 3 ∨ j = 4 ∨ j = 5 by omega) with rfl | rfl | rfl | rfl | rfl | rfl <;> rfl) (Nat.le_of_ble_eq_true rfl) (Nat.le_of_ble_eq_true rfl) dX6_init_38 (fun q38 H w => ?_)
  refine lv_dup hx hb dX6_init_41 rfl ?_
  refine x_cIN (As := []) (rest := [.ref q38, .ref q]) (Rs := [[(q27, .inr (11, [.int 500, .int 0, .int 0, .int 0, .int 2, .int 0, .int 0, .int 0]))], quB ty (g20 0) pS0, lnB ty (g9 0) pS0, [(q, .inr (10, [.ref ((g9 0) 1), .ref ((g20 0) 17), .ref q27, .null, .int 0, .int 0, .int 0]))]]) ⟨hx, hb, hml, hown, hts⟩ hA0 hj w (c_X3_init l J D ty q38) ⟨va_cnB 0 hts gX6_init_X3_init_n34 rfl rfl rfl (w.2.2.2.2.2 _ (List.mem_of_getElem? (i := 31) rfl)) (hts _ (List.mem_of_getElem? (i := 18) rfl)) hdN_X3_init ⟨Nat.le_of_ble_eq_true rfl, Nat.le_of_ble_eq_true rfl⟩, rfl, (hts _ (List.mem_of_getElem? (i := 41) rfl))⟩ [4, 0, 1, 2, 3] (nB := 5) (by decide) rfl rfl rfl hl.1 rfl (Nat.le_of_ble_eq_true rfl) dX6_init_42 ⟨(Nat.le_of_ble_eq_true rfl), (Nat.le_of_ble_eq_true rfl)⟩ (fun g42 H locs hK w9 => ?_)
  obtain rfl : (g42 0) 20 = q38 := hK
  have w := w9.cast (Bs' := [miB ty (g42 0) pM0, [(q27, .inr (11, [.int 500, .int 0, .int 0, .int 0, .int 2, .int 0, .int 0, .int 0]))], quB ty (g20 0) pS0, lnB ty (g9 0) pS0, [(q, .inr (10, [.ref ((g9 0) 1), .ref ((g20 0) 17), .ref q27, .null, .int 0, .int 0, .int 0]))]]) rfl
  refine r_putF hx hb hts in_X6_init_X6 tyX6 tyX6_ok nmX6 hown hmn w 4 0 rfl rfl (ci := 10) rfl 3 (by decide) (hts _ (List.mem_of_getElem? (i := 19) rfl)) rfl rfl rfl (ty := .object "PumpParliament$Minutes") (by decide +kernel) rfl rfl (Nat.le_of_ble_eq_true rfl) [(q, .inr (10, [.ref ((g9 0) 1), .ref ((g20 0) 17), .ref q27, .ref ((g42 0) 20), .int 0, .int 0, .int 0]))] rfl [miB ty (g42 0) pM0, [(q27, .inr (11, [.int 500, .int 0, .int 0, .int 0, .int 2, .int 0, .int 0, .int 0]))], quB ty (g20 0) pS0, lnB ty (g9 0) pS0, [(q, .inr (10, [.ref ((g9 0) 1), .ref ((g20 0) 17), .ref q27, .ref ((g42 0) 20), .int 0, .int 0, .int 0]))]] rfl dX6_init_45 (fun H locs w => ?_)
  have w := w.order (Bs' := [[(q, .inr (10, [.ref ((g9 0) 1), .ref ((g20 0) 17), .ref q27, .ref ((g42 0) 20), .int 0, .int 0, .int 0]))], lnB ty (g9 0) pS0, quB ty (g20 0) pS0, [(q27, .inr (11, [.int 500, .int 0, .int 0, .int 0, .int 2, .int 0, .int 0, .int 0]))], miB ty (g42 0) pM0]) [4, 3, 2, 1, 0] (nB := 5) (by decide) rfl rfl
  exact e_x hx hb hr hlocks w (fun _ => aSt q ((g9 0)) ((g20 0)) q27 ((g42 0))) rfl (by show _ = (stW ty (aSt q ((g9 0)) ((g20 0)) q27 ((g42 0))) (pS0, pM0)).flatten; rw [st_new]) dX6_init_48 (Nat.le_of_ble_eq_true rfl) (Nat.le_of_ble_eq_true rfl)
