theorem hdN_L_cell : yL_cell.cls ≠ "java/lang/invoke/MethodHandle" ∧ yL_cell.cls ≠ "java/lang/invoke/VarHandle" ∧ (parseMethodDescriptor yL_cell.desc).map (fun d => d.parameters.length) = some 2 := by decide +kernel
set_option maxRecDepth 100000 in
set_option maxHeartbeats 4000000 in
theorem c_L_cell (l : Launch) (D : va_G) (ty : Nat → ClassId) (b9 L9 : Nat) (xs : Nat → Int32) (i : Nat) (hi : i < 1000) : Sx b9 L9 xs l yL_cell wsL_cell (kR 0 0 0 0) D (kTY ty) [.ref b9, .int (nI i)] [] (fun _ (_ : Unit) => True) (fun _ => []) 0 0 := by
  refine m_s (cc := cL_cell) (maxL := 3) (ret := (some .int)) (by decide +kernel) rfl (Nat.le_of_ble_eq_true rfl) ?_
  intro p e s m below meth c A ls hx hb hml hr hlocks hown hts hz hs9 w hl
  have hown : s.vm.findClass RL = some m.cls := hown
  have hL9 := hs9.2.2.2
  have hl : lv_has ls 3 [(0, .ref b9), (1, .int (nI i))] := hl
  refine lv_ldc (v := 69069) hx hb hown (hts _ (List.mem_of_getElem? (i := 1) rfl)) dL_cell_0 ?_
  refine lv_iload_n hx hb dL_cell_2 rfl (lv_at hl 1 rfl) ?_
  refine lv_aload_n hx hb dL_cell_3 rfl (lv_at hl 0 rfl) ?_
  refine r_slen hx hb hs9 w dL_cell_4 ?_
  refine lv_icmp_ge (tgt := 14) hx hb dL_cell_5 (by decide) (fun c5 => ?_) (fun c5 => ?_)
  · have c5 := (nI_leI (a := L9) (b := i) (by omega) (by omega)).mp c5
    refine lv_iconst (v := 0) hx hb dL_cell_14 (by decide) ?_
    refine lv_sipush (v := 1009) hx hb dL_cell_15 (by decide) ?_
    refine lv_iload_n hx hb dL_cell_18 rfl (lv_at hl 1 rfl) ?_
    refine lv_imul hx hb dL_cell_19 ?_
    refine r_eq (y := (nI (1009 * i))) (pk_mul 1009 i) ?_
    refine lv_iadd hx hb dL_cell_20 ?_
    refine r_eq (y := (nI (0 + (1009 * i)))) (nI_add 0 (1009 * i)) ?_
    refine lv_imul hx hb dL_cell_21 ?_
    refine lv_sipush (v := 12345) hx hb dL_cell_22 (by decide) ?_
    refine lv_iadd hx hb dL_cell_25 ?_
    refine lv_istore_n (lv' := [(2, .int ((69069 * (nI (0 + (1009 * i)))) + 12345)), (0, .ref b9), (1, .int (nI i))]) hx hb dL_cell_26 rfl hl (by decide) rfl (fun ls hl => ?_)
    generalize ((69069 * (nI (0 + (1009 * i)))) + 12345) = x1 at hl
    refine lv_iload_n hx hb dL_cell_27 rfl (lv_at hl 0 rfl) ?_
    refine lv_iload_n hx hb dL_cell_28 rfl (lv_at hl 0 rfl) ?_
    refine lv_bipush (v := 13) hx hb dL_cell_29 (by decide) ?_
    refine lv_iushr (v := ((x1).toUInt32 >>> (Int32.toUInt32 13 &&& Int32.toUInt32 31)).toInt32) hx hb dL_cell_31 rfl ?_
    refine lv_ixor hx hb dL_cell_32 ?_
    refine lv_ldc (v := 1103515245) hx hb hown (hts _ (List.mem_of_getElem? (i := 2) rfl)) dL_cell_33 ?_
    refine lv_imul hx hb dL_cell_35 ?_
    refine lv_istore_n (lv' := [(2, .int ((x1 ^^^ (((x1).toUInt32 >>> (Int32.toUInt32 13 &&& Int32.toUInt32 31)).toInt32)) * 1103515245)), (0, .ref b9), (1, .int (nI i))]) hx hb dL_cell_36 rfl hl (by decide) rfl (fun ls hl => ?_)
    generalize ((x1 ^^^ (((x1).toUInt32 >>> (Int32.toUInt32 13 &&& Int32.toUInt32 31)).toInt32)) * 1103515245) = x2 at hl
    refine lv_iload_n hx hb dL_cell_37 rfl (lv_at hl 0 rfl) ?_
    refine lv_iload_n hx hb dL_cell_38 rfl (lv_at hl 0 rfl) ?_
    refine lv_bipush (v := 16) hx hb dL_cell_39 (by decide) ?_
    refine lv_iushr (v := ((x2).toUInt32 >>> (Int32.toUInt32 16 &&& Int32.toUInt32 31)).toInt32) hx hb dL_cell_41 rfl ?_
    refine lv_ixor hx hb dL_cell_42 ?_
    exact e_s hx hb hr hlocks w () trivial rfl dL_cell_43 (Nat.le_of_ble_eq_true rfl) (Nat.le_of_ble_eq_true rfl)
  · have c5 := mt (nI_leI (a := L9) (b := i) (by omega) (by omega)).mpr c5
    refine lv_aload_n hx hb dL_cell_8 rfl (lv_at hl 0 rfl) ?_
    refine lv_iload_n hx hb dL_cell_9 rfl (lv_at hl 1 rfl) ?_
    refine r_sld hx hb w hs9.1 hs9.2.1 hs9.2.2.1 i (by omega) (by omega) rfl dL_cell_10 ?_
    refine lv_goto (tgt := 15) hx hb dL_cell_11 (by decide) ?_
    refine lv_sipush (v := 1009) hx hb dL_cell_15 (by decide) ?_
    refine lv_iload_n hx hb dL_cell_18 rfl (lv_at hl 1 rfl) ?_
    refine lv_imul hx hb dL_cell_19 ?_
    refine r_eq (y := (nI (1009 * i))) (pk_mul 1009 i) ?_
    refine lv_iadd hx hb dL_cell_20 ?_
    refine lv_imul hx hb dL_cell_21 ?_
    refine lv_sipush (v := 12345) hx hb dL_cell_22 (by decide) ?_
    refine lv_iadd hx hb dL_cell_25 ?_
    refine lv_istore_n (lv' := [(2, .int ((69069 * ((xs i) + (nI (1009 * i)))) + 12345)), (0, .ref b9), (1, .int (nI i))]) hx hb dL_cell_26 rfl hl (by decide) rfl (fun ls hl => ?_)
    generalize ((69069 * ((xs i) + (nI (1009 * i)))) + 12345) = x1 at hl
    refine lv_iload_n hx hb dL_cell_27 rfl (lv_at hl 0 rfl) ?_
    refine lv_iload_n hx hb dL_cell_28 rfl (lv_at hl 0 rfl) ?_
    refine lv_bipush (v := 13) hx hb dL_cell_29 (by decide) ?_
    refine lv_iushr (v := ((x1).toUInt32 >>> (Int32.toUInt32 13 &&& Int32.toUInt32 31)).toInt32) hx hb dL_cell_31 rfl ?_
    refine lv_ixor hx hb dL_cell_32 ?_
    refine lv_ldc (v := 1103515245) hx hb hown (hts _ (List.mem_of_getElem? (i := 2) rfl)) dL_cell_33 ?_
    refine lv_imul hx hb dL_cell_35 ?_
    refine lv_istore_n (lv' := [(2, .int ((x1 ^^^ (((x1).toUInt32 >>> (Int32.toUInt32 13 &&& Int32.toUInt32 31)).toInt32)) * 1103515245)), (0, .ref b9), (1, .int (nI i))]) hx hb dL_cell_36 rfl hl (by decide) rfl (fun ls hl => ?_)
    generalize ((x1 ^^^ (((x1).toUInt32 >>> (Int32.toUInt32 13 &&& Int32.toUInt32 31)).toInt32)) * 1103515245) = x2 at hl
    refine lv_iload_n hx hb dL_cell_37 rfl (lv_at hl 0 rfl) ?_
    refine lv_iload_n hx hb dL_cell_38 rfl (lv_at hl 0 rfl) ?_
    refine lv_bipush (v := 16) hx hb dL_cell_39 (by decide) ?_
    refine lv_iushr (v := ((x2).toUInt32 >>> (Int32.toUInt32 16 &&& Int32.toUInt32 31)).toInt32) hx hb dL_cell_41 rfl ?_
    refine lv_ixor hx hb dL_cell_42 ?_
    exact e_s hx hb hr hlocks w () trivial rfl dL_cell_43 (Nat.le_of_ble_eq_true rfl) (Nat.le_of_ble_eq_true rfl)

theorem hdN_L_pick : yL_pick.cls ≠ "java/lang/invoke/MethodHandle" ∧ yL_pick.cls ≠ "java/lang/invoke/VarHandle" ∧ (parseMethodDescriptor yL_pick.desc).map (fun d => d.parameters.length) = some 3 := by decide +kernel
set_option maxRecDepth 100000 in
set_option maxHeartbeats 4000000 in
theorem c_L_pick (l : Launch) (D : va_G) (ty : Nat → ClassId) (b9 L9 : Nat) (xs : Nat → Int32) (i mm : Nat) (hi : i < 1000) (h1 : 1 ≤ mm) (h2 : mm < 1000) : Sx b9 L9 xs l yL_pick wsL_pick (kR 1 22 0 0) D (kTY ty) [.ref b9, .int (nI i), .int (nI mm)] [] (fun x (j : Nat) => x = nI j ∧ j < mm) (fun _ => []) 0 0 := by
  refine m_s (cc := cL_pick) (maxL := 3) (ret := (some .int)) (by decide +kernel) rfl (Nat.le_of_ble_eq_true rfl) ?_
  intro p e s m below meth c A ls hx hb hml hr hlocks hown hts hz hs9 w hl
  have hown : s.vm.findClass RL = some m.cls := hown
  have hL9 := hs9.2.2.2
  have hl : lv_has ls 3 [(0, .ref b9), (1, .int (nI i)), (2, .int (nI mm))] := hl
  refine lv_aload_n hx hb dL_pick_0 rfl (lv_at hl 0 rfl) ?_
  refine lv_iload_n hx hb dL_pick_1 rfl (lv_at hl 1 rfl) ?_
  refine l_cS (As := [.ref b9, .int (nI i)]) (rest := []) (Cs := []) (Rs := []) ⟨hx, hb, hml, hown, hts⟩ hz hs9 w (c_L_cell l D ty b9 L9 xs i (by omega)) (va_cwS 2 hts gL_pick_L_cell rfl rfl rfl hdN_L_cell ⟨(Nat.le_of_ble_eq_true rfl), (Nat.le_of_ble_eq_true rfl)⟩) rfl hl.1 rfl (Nat.le_of_ble_eq_true rfl) dL_pick_2 ⟨(Nat.le_of_ble_eq_true rfl), (Nat.le_of_ble_eq_true rfl)⟩ (fun r2 u2 H locs hu2 w => ?_)
  have w := w.cast (Bs' := []) rfl
  refine lv_bipush (v := 8) hx hb dL_pick_5 (by decide) ?_
  obtain ⟨a9, ha9, ea9⟩ := pick_n r2
  refine lv_iushr (v := ((r2).toUInt32 >>> (Int32.toUInt32 8 &&& Int32.toUInt32 31)).toInt32) hx hb dL_pick_7 rfl ?_
  refine r_eq (y := (nI a9)) ea9 ?_
  refine lv_iload_n hx hb dL_pick_8 rfl (lv_at hl 2 rfl) ?_
  refine lv_irem hx hb dL_pick_9 (nI_ne0 (by omega) (by omega)) ?_
  refine r_eq (y := (nI (a9 % mm))) (pk_rem (by omega) (by omega) (by omega)) ?_
  exact e_s hx hb hr hlocks w (a9 % mm) ⟨rfl, Nat.mod_lt _ (by omega)⟩ rfl dL_pick_10 (Nat.le_of_ble_eq_true rfl) (Nat.le_of_ble_eq_true rfl)
