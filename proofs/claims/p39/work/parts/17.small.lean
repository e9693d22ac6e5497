theorem in_X4_hasPlace_X4 : ∀ w ∈ wsX40, w ∈ wsX4_hasPlace := by decide +kernel
theorem hdN_X4_hasPlace : yX4_hasPlace.cls ≠ "java/lang/invoke/MethodHandle" ∧ yX4_hasPlace.cls ≠ "java/lang/invoke/VarHandle" ∧ (parseMethodDescriptor yX4_hasPlace.desc).map (fun d => d.parameters.length) = some 1 := by decide +kernel
set_option maxRecDepth 100000 in
set_option maxHeartbeats 4000000 in
theorem c_X4_hasPlace (l : Launch) (D : va_G) (ty : Nat → ClassId) (a : Nat → Nat) (S : pS) (q : Nat) (h1 : S 49 = nI q) (hq : q ≤ 8) (h : Int32)  : Mi l yX4_hasPlace wsX4_hasPlace (kR 0 0 0 0) D (kTY ty) [.ref (a 17), .int h] [quB ty a S] [quB ty a S] (bI (pHas h q)) 0 0 := by
  refine m_i (cc := cX4_hasPlace) (maxL := 2) (ret := (some .boolean)) (by decide +kernel) rfl (Nat.le_of_ble_eq_true rfl) ?_
  intro p e s m below meth c A ls hx hb hml hr hlocks hown hts w hl
  have hown : s.vm.findClass RX4 = some m.cls := hown
  have hl : lv_has ls 2 [(0, .ref (a 17)), (1, .int h)] := hl
  refine lv_iload_n hx hb dX4_hasPlace_0 rfl (lv_at hl 1 rfl) ?_
  refine lv_if_lt (tgt := 16) hx hb dX4_hasPlace_1 (by decide) (fun c1 => ?_) (fun c1 => ?_)
  · refine lv_iconst (v := 0) hx hb dX4_hasPlace_16 (by decide) ?_
    exact e_z (ty := .boolean) hx hb hr rfl hlocks w (by first | exact pHas_t c1 c9 | exact pHas_f1 c1 | exact pHas_f2 c9) dX4_hasPlace_17 (Nat.le_refl _) (Nat.le_refl _)
  · refine lv_iload_n hx hb dX4_hasPlace_4 rfl (lv_at hl 1 rfl) ?_
    refine lv_aload_n hx hb dX4_hasPlace_5 rfl (lv_at hl 0 rfl) ?_
    refine r_get (v' := .int (nI q)) hx hb hts in_X4_hasPlace_X4 hown w 0 0 rfl rfl (ci := 8) rfl 0 (by decide) (hts _ (List.mem_of_getElem? (i := 1) rfl)) rfl rfl (congrArg Value.int h1) dX4_hasPlace_6 ?_
    refine lv_icmp_ge (tgt := 16) hx hb dX4_hasPlace_9 (by decide) (fun c9 => ?_) (fun c9 => ?_)
    · refine lv_iconst (v := 0) hx hb dX4_hasPlace_16 (by decide) ?_
      exact e_z (ty := .boolean) hx hb hr rfl hlocks w (by first | exact pHas_t c1 c9 | exact pHas_f1 c1 | exact pHas_f2 c9) dX4_hasPlace_17 (Nat.le_refl _) (Nat.le_refl _)
    · refine lv_iconst (v := 1) hx hb dX4_hasPlace_12 (by decide) ?_
      refine lv_goto (tgt := 17) hx hb dX4_hasPlace_13 (by decide) ?_
      exact e_z (ty := .boolean) hx hb hr rfl hlocks w (by first | exact pHas_t c1 c9 | exact pHas_f1 c1 | exact pHas_f2 c9) dX4_hasPlace_17 (Nat.le_refl _) (Nat.le_refl _)

theorem in_X4_placeOf_X4 : ∀ w ∈ wsX40, w ∈ wsX4_placeOf := by decide +kernel
theorem hdN_X4_placeOf : yX4_placeOf.cls ≠ "java/lang/invoke/MethodHandle" ∧ yX4_placeOf.cls ≠ "java/lang/invoke/VarHandle" ∧ (parseMethodDescriptor yX4_placeOf.desc).map (fun d => d.parameters.length) = some 1 := by decide +kernel
set_option maxRecDepth 100000 in
set_option maxHeartbeats 4000000 in
theorem c_X4_placeOf (l : Launch) (D : va_G) (ty : Nat → ClassId) (a : Nat → Nat) (S : pS) (q : Nat) (h1 : S 49 = nI q) (hq : q ≤ 8) (hd : ∀ i j, i < q → j < q → S (50 + i) = S (50 + j) → i = j) (h : Int32)  : Mi l yX4_placeOf wsX4_placeOf (kR 0 0 0 0) D (kTY ty) [.ref (a 17), .int h] [quB ty a S] [quB ty a S] (pPl S h q) 0 0 := by
  refine m_i (cc := cX4_placeOf) (maxL := 3) (ret := (some .int)) (by decide +kernel) rfl (Nat.le_of_ble_eq_true rfl) ?_
  intro p e s m below meth c A ls hx hb hml hr hlocks hown hts w hl
  have hown : s.vm.findClass RX4 = some m.cls := hown
  have hl : lv_has ls 3 [(0, .ref (a 17)), (1, .int h)] := hl
  refine lv_iconst (v := 0) hx hb dX4_placeOf_0 (by decide) ?_
  refine lv_istore_n (lv' := [(2, .int 0), (0, .ref (a 17)), (1, .int h)]) hx hb dX4_placeOf_1 rfl hl (by decide) rfl (fun ls hl => ?_)
  refine k_loop (fun k H locs ls => kW D (kTY ty) A s.heap s H locs [quB ty a S] ∧ lv_has ls 3 [(0, .ref (a 17)), (1, .int h), (2, .int (nI k))] ∧ (∀ i, i < k → ¬ S (50 + i) = h)) q 0 (by omega) ⟨w, lv_sub hl [1, 2, 0] rfl, (fun i hi => absurd hi (by omega))⟩ ?_
  intro k hk0 hk ihk H locs ls hI
  obtain ⟨w, hl, hi⟩ := hI
  refine lv_iload_n hx hb dX4_placeOf_2 rfl (lv_at hl 2 rfl) ?_
  refine lv_aload_n hx hb dX4_placeOf_3 rfl (lv_at hl 0 rfl) ?_
  refine r_get (v' := .int (nI q)) hx hb hts in_X4_placeOf_X4 hown w 0 0 rfl rfl (ci := 8) rfl 0 (by decide) (hts _ (List.mem_of_getElem? (i := 1) rfl)) rfl rfl (congrArg Value.int h1) dX4_placeOf_4 ?_
  refine lv_icmp_ge (tgt := 28) hx hb dX4_placeOf_7 (by decide) (fun c7 => ?_) (fun c7 => ?_)
  · have c7 := (nI_leI (a := q) (b := k) (by omega) (by omega)).mp c7
    obtain rfl : q = k := by omega
    refine lv_iconst (v := (-1)) hx hb dX4_placeOf_28 (by decide) ?_
    exact e_i hx hb hr hlocks w (pPl_none hi).symm dX4_placeOf_29 (Nat.le_refl _) (Nat.le_refl _)
  · have c7 := mt (nI_leI (a := q) (b := k) (by omega) (by omega)).mpr c7
    refine lv_aload_n hx hb dX4_placeOf_10 rfl (lv_at hl 0 rfl) ?_
    refine r_get (v' := .ref (a 18)) hx hb hts in_X4_placeOf_X4 hown w 0 0 rfl rfl (ci := 8) rfl 1 (by decide) (hts _ (List.mem_of_getElem? (i := 2) rfl)) rfl rfl rfl dX4_placeOf_11 ?_
    refine lv_iload_n hx hb dX4_placeOf_14 rfl (lv_at hl 2 rfl) ?_
    refine r_iald (v := (S (50 + k))) hx hb w 0 1 rfl rfl 0 rfl k (by omega) (Nat.le_of_ble_eq_true rfl) rfl (quA_at (by omega)) dX4_placeOf_15 ?_
    refine lv_iload_n hx hb dX4_placeOf_16 rfl (lv_at hl 1 rfl) ?_
    refine lv_icmp_ne (tgt := 22) hx hb dX4_placeOf_17 (by decide) (fun c17 => ?_) (fun c17 => ?_)
    · refine lv_iinc (v := (nI (k + 1))) (lv' := [(2, .int (nI (k + 1))), (0, .ref (a 17)), (1, .int h)]) hx hb dX4_placeOf_22 hl (k := 2) rfl (inc1 k) (by decide) rfl (fun ls hl => ?_)
      refine lv_goto (tgt := 2) hx hb dX4_placeOf_25 (by decide) ?_
      exact ihk _ _ _ ⟨w, lv_sub hl [1, 2, 0] rfl, (lt_s hi c17)⟩ (by omega)
    · refine lv_iload_n hx hb dX4_placeOf_20 rfl (lv_at hl 2 rfl) ?_
      exact e_i hx hb hr hlocks w (pPl_found c17 hd (by omega)).symm dX4_placeOf_21 (Nat.le_refl _) (Nat.le_refl _)

theorem in_X4_addLast_X4 : ∀ w ∈ wsX40, w ∈ wsX4_addLast := by decide +kernel
theorem hdN_X4_addLast : yX4_addLast.cls ≠ "java/lang/invoke/MethodHandle" ∧ yX4_addLast.cls ≠ "java/lang/invoke/VarHandle" ∧ (parseMethodDescriptor yX4_addLast.desc).map (fun d => d.parameters.length) = some 1 := by decide +kernel
set_option maxRecDepth 100000 in
set_option maxHeartbeats 4000000 in
theorem c_X4_addLast (l : Launch) (D : va_G) (ty : Nat → ClassId) (a : Nat → Nat) (S : pS) (q : Nat) (h1 : S 49 = nI q) (hq : q < 8) (x : Nat)  : Mv l yX4_addLast wsX4_addLast (kR 0 0 0 0) D (kTY ty) [.ref (a 17), .int (nI x)] [quB ty a S] [quB ty a (sCome S q x)] 0 0 := by
  refine m_v (cc := cX4_addLast) (maxL := 2) (ret := none) (by decide +kernel) rfl (Nat.le_of_ble_eq_true rfl) ?_
  intro p e s m below meth c A ls hx hb hml hr hlocks hown hts w hl
  have hown : s.vm.findClass RX4 = some m.cls := hown
  have hl : lv_has ls 2 [(0, .ref (a 17)), (1, .int (nI x))] := hl
  refine lv_aload_n hx hb dX4_addLast_0 rfl (lv_at hl 0 rfl) ?_
  refine r_get (v' := .int (nI q)) hx hb hts in_X4_addLast_X4 hown w 0 0 rfl rfl (ci := 8) rfl 0 (by decide) (hts _ (List.mem_of_getElem? (i := 1) rfl)) rfl rfl (congrArg Value.int h1) dX4_addLast_1 ?_
  refine lv_bipush (v := 8) hx hb dX4_addLast_4 (by decide) ?_
  refine lv_icmp_ge (tgt := 29) hx hb dX4_addLast_6 (by decide) (fun c6 => ?_) (fun c6 => ?_)
  · have c6 := (nI_leI (a := 8) (b := q) (by omega) (by omega)).mp c6
    exact absurd hq (by omega)
  · have c6 := mt (nI_leI (a := 8) (b := q) (by omega) (by omega)).mpr c6
    refine lv_aload_n hx hb dX4_addLast_9 rfl (lv_at hl 0 rfl) ?_
    refine r_get (v' := .ref (a 18)) hx hb hts in_X4_addLast_X4 hown w 0 0 rfl rfl (ci := 8) rfl 1 (by decide) (hts _ (List.mem_of_getElem? (i := 2) rfl)) rfl rfl rfl dX4_addLast_10 ?_
    refine lv_aload_n hx hb dX4_addLast_13 rfl (lv_at hl 0 rfl) ?_
    refine r_get (v' := .int (nI q)) hx hb hts in_X4_addLast_X4 hown w 0 0 rfl rfl (ci := 8) rfl 0 (by decide) (hts _ (List.mem_of_getElem? (i := 1) rfl)) rfl rfl (congrArg Value.int h1) dX4_addLast_14 ?_
    refine lv_iload_n hx hb dX4_addLast_17 rfl (lv_at hl 1 rfl) ?_
    refine r_iast hx hb w 0 1 rfl rfl 0 rfl q (by omega) (Nat.le_of_ble_eq_true rfl) rfl (quB ty a (upd S (50 + q) (nI x))) (quB_st (by omega)) [quB ty a (upd S (50 + q) (nI x))] rfl dX4_addLast_18 (fun H locs w => ?_)
    refine lv_aload_n hx hb dX4_addLast_19 rfl (lv_at hl 0 rfl) ?_
    refine lv_dup hx hb dX4_addLast_20 rfl ?_
    refine r_get (v' := .int ((upd S (50 + q) (nI x)) 49)) hx hb hts in_X4_addLast_X4 hown w 0 0 rfl rfl (ci := 8) rfl 0 (by decide) (hts _ (List.mem_of_getElem? (i := 1) rfl)) rfl rfl rfl dX4_addLast_21 ?_
    refine r_eq (y := (nI q)) (by rw [updn (by omega)]; exact h1) ?_
    refine lv_iconst (v := 1) hx hb dX4_addLast_24 (by decide) ?_
    refine lv_iadd hx hb dX4_addLast_25 ?_
    refine r_eq (y := (nI (q + 1))) (nI_add q 1) ?_
    refine r_put hx hb hts in_X4_addLast_X4 tyX4 tyX4_ok nmX4 hown w 0 0 rfl rfl (ci := 8) rfl 0 (by decide) (hts _ (List.mem_of_getElem? (i := 1) rfl)) rfl rfl (ty := .int) (by decide +kernel) rfl rfl (Nat.le_of_ble_eq_true rfl) (quB ty a (upd (upd S (50 + q) (nI x)) 49 (nI (q + 1)))) quB_len [quB ty a (upd (upd S (50 + q) (nI x)) 49 (nI (q + 1)))] rfl dX4_addLast_26 (fun H locs w => ?_)
    exact e_v hx hb hr hlocks w dX4_addLast_29 (Nat.le_refl _) (Nat.le_refl _)

theorem in_X4_removePlace_X4 : ∀ w ∈ wsX40, w ∈ wsX4_removePlace := by decide +kernel
theorem hdN_X4_removePlace : yX4_removePlace.cls ≠ "java/lang/invoke/MethodHandle" ∧ yX4_removePlace.cls ≠ "java/lang/invoke/VarHandle" ∧ (parseMethodDescriptor yX4_removePlace.desc).map (fun d => d.parameters.length) = some 1 := by decide +kernel
set_option maxRecDepth 100000 in
set_option maxHeartbeats 4000000 in
theorem c_X4_removePlace (l : Launch) (D : va_G) (ty : Nat → ClassId) (a : Nat → Nat) (S : pS) (q : Nat) (h1 : S 49 = nI q) (hq : q ≤ 8) (x : Nat) (hx0 : x < q)  : Mv l yX4_removePlace wsX4_removePlace (kR 1 21 0 0) D (kTY ty) [.ref (a 17), .int (nI x)] [quB ty a S] [quB ty a (sGo S q x)] 0 0 := by
  refine m_v (cc := cX4_removePlace) (maxL := 3) (ret := none) (by decide +kernel) rfl (Nat.le_of_ble_eq_true rfl) ?_
  intro p e s m below meth c A ls hx hb hml hr hlocks hown hts w hl
  have hown : s.vm.findClass RX4 = some m.cls := hown
  have hl : lv_has ls 3 [(0, .ref (a 17)), (1, .int (nI x))] := hl
  refine lv_aload_n hx hb dX4_removePlace_0 rfl (lv_at hl 0 rfl) ?_
  refine lv_iload_n hx hb dX4_removePlace_1 rfl (lv_at hl 1 rfl) ?_
  refine k_iV (As := [.int (nI x)]) (rest := []) (Rs := []) (Bs' := [quB ty a S]) ⟨hx, hb, hml, hown, hts⟩ w (c_X4_hasPlace l D ty a S q h1 hq (nI x)) (cwV 1 hts gX4_removePlace_X4_hasPlace rfl rfl rfl ⟨rfl, hdN_X4_hasPlace⟩ ⟨Nat.le_of_ble_eq_true rfl, Nat.le_of_ble_eq_true rfl⟩) [0] (nB := 1) (by decide) rfl rfl rfl rfl 0 rfl rfl (ci := 8) rfl rfl rfl hl.1 rfl (Nat.le_of_ble_eq_true rfl) dX4_removePlace_2 ⟨(Nat.zero_le _), (Nat.zero_le _)⟩ (fun H locs w => ?_)
  refine lv_if_eq (tgt := 48) hx hb dX4_removePlace_5 (by decide) (fun c5 => ?_) (fun c5 => ?_)
  · have c5 := bI_0.mp c5
    exact absurd c5 (by rw [pHas_n hx0 (by omega)]; decide)
  · have c5 := bI_1.mp c5
    refine lv_aload_n hx hb dX4_removePlace_8 rfl (lv_at hl 0 rfl) ?_
    refine lv_dup hx hb dX4_removePlace_9 rfl ?_
    refine r_get (v' := .int (nI q)) hx hb hts in_X4_removePlace_X4 hown w 0 0 rfl rfl (ci := 8) rfl 0 (by decide) (hts _ (List.mem_of_getElem? (i := 1) rfl)) rfl rfl (congrArg Value.int h1) dX4_removePlace_10 ?_
    refine lv_iconst (v := 1) hx hb dX4_removePlace_13 (by decide) ?_
    refine lv_isub hx hb dX4_removePlace_14 ?_
    refine r_eq (y := (nI (q - 1))) (pk_sub (a := q) (b := 1) (by omega)) ?_
    refine r_put hx hb hts in_X4_removePlace_X4 tyX4 tyX4_ok nmX4 hown w 0 0 rfl rfl (ci := 8) rfl 0 (by decide) (hts _ (List.mem_of_getElem? (i := 1) rfl)) rfl rfl (ty := .int) (by decide +kernel) rfl rfl (Nat.le_of_ble_eq_true rfl) (quB ty a (upd S 49 (nI (q - 1)))) quB_len [quB ty a (upd S 49 (nI (q - 1)))] rfl dX4_removePlace_15 (fun H locs w => ?_)
    refine lv_iload_n hx hb dX4_removePlace_18 rfl (lv_at hl 1 rfl) ?_
    refine lv_istore_n (lv' := [(2, .int (nI x)), (0, .ref (a 17)), (1, .int (nI x))]) hx hb dX4_removePlace_19 rfl hl (by decide) rfl (fun ls hl => ?_)
    refine k_loop (fun k H locs ls => kW D (kTY ty) A s.heap s H locs [quB ty a (sGoK S q x k)] ∧ lv_has ls 3 [(0, .ref (a 17)), (1, .int (nI x)), (2, .int (nI k))]) (q - 1) x (by omega) ⟨(w.cast (by rw [sGoK_0 S q x])), lv_sub hl [1, 2, 0] rfl⟩ ?_
    intro k hk0 hk ihk H locs ls hI
    obtain ⟨w, hl⟩ := hI
    refine lv_iload_n hx hb dX4_removePlace_20 rfl (lv_at hl 2 rfl) ?_
    refine lv_aload_n hx hb dX4_removePlace_21 rfl (lv_at hl 0 rfl) ?_
    refine r_get (v' := .int ((sGoK S q x k) 49)) hx hb hts in_X4_removePlace_X4 hown w 0 0 rfl rfl (ci := 8) rfl 0 (by decide) (hts _ (List.mem_of_getElem? (i := 1) rfl)) rfl rfl rfl dX4_removePlace_22 ?_
    refine r_eq (y := (nI (q - 1))) rfl ?_
    refine lv_icmp_ge (tgt := 48) hx hb dX4_removePlace_25 (by decide) (fun c25 => ?_) (fun c25 => ?_)
    · have c25 := (nI_leI (a := (q - 1)) (b := k) (by omega) (by omega)).mp c25
      obtain rfl : q - 1 = k := by omega
      exact e_v hx hb hr hlocks (w.cast (by rw [sGoK_e (by omega)])) dX4_removePlace_48 (Nat.le_refl _) (Nat.le_refl _)
    · have c25 := mt (nI_leI (a := (q - 1)) (b := k) (by omega) (by omega)).mpr c25
      refine lv_aload_n hx hb dX4_removePlace_28 rfl (lv_at hl 0 rfl) ?_
      refine r_get (v' := .ref (a 18)) hx hb hts in_X4_removePlace_X4 hown w 0 0 rfl rfl (ci := 8) rfl 1 (by decide) (hts _ (List.mem_of_getElem? (i := 2) rfl)) rfl rfl rfl dX4_removePlace_29 ?_
      refine lv_iload_n hx hb dX4_removePlace_32 rfl (lv_at hl 2 rfl) ?_
      refine lv_aload_n hx hb dX4_removePlace_33 rfl (lv_at hl 0 rfl) ?_
      refine r_get (v' := .ref (a 18)) hx hb hts in_X4_removePlace_X4 hown w 0 0 rfl rfl (ci := 8) rfl 1 (by decide) (hts _ (List.mem_of_getElem? (i := 2) rfl)) rfl rfl rfl dX4_removePlace_34 ?_
      refine lv_iload_n hx hb dX4_removePlace_37 rfl (lv_at hl 2 rfl) ?_
      refine lv_iconst (v := 1) hx hb dX4_removePlace_38 (by decide) ?_
      refine lv_iadd hx hb dX4_removePlace_39 ?_
      refine r_eq (y := (nI (k + 1))) (nI_add k 1) ?_
      refine r_iald (v := ((sGoK S q x k) (50 + (k + 1)))) hx hb w 0 1 rfl rfl 0 rfl (k + 1) (by omega) (Nat.le_of_ble_eq_true rfl) rfl (quA_at (by omega)) dX4_removePlace_40 ?_
      refine r_iast hx hb w 0 1 rfl rfl 0 rfl k (by omega) (Nat.le_of_ble_eq_true rfl) rfl (quB ty a (sGoK S q x (k + 1))) (by rw [sGoK_s hk0]; exact quB_st (by omega)) [quB ty a (sGoK S q x (k + 1))] rfl dX4_removePlace_41 (fun H locs w => ?_)
      refine lv_iinc (v := (nI (k + 1))) (lv' := [(2, .int (nI (k + 1))), (0, .ref (a 17)), (1, .int (nI x))]) hx hb dX4_removePlace_42 hl (k := 2) rfl (inc1 k) (by decide) rfl (fun ls hl => ?_)
      refine lv_goto (tgt := 20) hx hb dX4_removePlace_45 (by decide) ?_
      exact ihk _ _ _ ⟨w, lv_sub hl [1, 2, 0] rfl⟩ (by omega)

theorem hdN_X7_waterAtWear : yX7_waterAtWear.cls ≠ "java/lang/invoke/MethodHandle" ∧ yX7_waterAtWear.cls ≠ "java/lang/invoke/VarHandle" ∧ (parseMethodDescriptor yX7_waterAtWear.desc).map (fun d => d.parameters.length) = some 1 := by decide +kernel
set_option maxRecDepth 100000 in
set_option maxHeartbeats 4000000 in
theorem c_X7_waterAtWear (l : Launch) (D : va_G) (ty : Nat → ClassId) (x : Int32)  : Mi l yX7_waterAtWear wsX7_waterAtWear (kR 0 0 0 0) D (kTY ty) [.int x] [] [] (10 - x / 10) 0 0 := by
  refine m_i (cc := cX7_waterAtWear) (maxL := 1) (ret := (some .int)) (by decide +kernel) rfl (Nat.le_of_ble_eq_true rfl) ?_
  intro p e s m below meth c A ls hx hb hml hr hlocks hown hts w hl
  have hown : s.vm.findClass RX7 = some m.cls := hown
  have hl : lv_has ls 1 [(0, .int x)] := hl
  refine lv_bipush (v := 10) hx hb dX7_waterAtWear_0 (by decide) ?_
  refine lv_iload_n hx hb dX7_waterAtWear_2 rfl (lv_at hl 0 rfl) ?_
  refine lv_bipush (v := 10) hx hb dX7_waterAtWear_3 (by decide) ?_
  refine lv_idiv hx hb dX7_waterAtWear_5 (by decide) ?_
  refine lv_isub hx hb dX7_waterAtWear_6 ?_
  exact e_i hx hb hr hlocks w rfl dX7_waterAtWear_7 (Nat.le_refl _) (Nat.le_refl _)

theorem in_X7_waterOf_X7 : ∀ w ∈ wsX70, w ∈ wsX7_waterOf := by decide +kernel
theorem hdN_X7_waterOf : yX7_waterOf.cls ≠ "java/lang/invoke/MethodHandle" ∧ yX7_waterOf.cls ≠ "java/lang/invoke/VarHandle" ∧ (parseMethodDescriptor yX7_waterOf.desc).map (fun d => d.parameters.length) = some 1 := by decide +kernel
set_option maxRecDepth 100000 in
set_option maxHeartbeats 4000000 in
theorem c_X7_waterOf (l : Launch) (D : va_G) (ty : Nat → ClassId) (a : Nat → Nat) (S : pS) (mm : Nat) (hm : mm ≤ 100)  : Mi l yX7_waterOf wsX7_waterOf (kR 1 20 0 0) D (kTY ty) [.ref (a 19), .int (nI mm)] [weB a S] [weB a S] (pBrings S mm) 0 0 := by
  refine m_i (cc := cX7_waterOf) (maxL := 4) (ret := (some .int)) (by decide +kernel) rfl (Nat.le_of_ble_eq_true rfl) ?_
  intro p e s m below meth c A ls hx hb hml hr hlocks hown hts w hl
  have hown : s.vm.findClass RX7 = some m.cls := hown
  have hl : lv_has ls 4 [(0, .ref (a 19)), (1, .int (nI mm))] := hl
  refine lv_iconst (v := 0) hx hb dX7_waterOf_0 (by decide) ?_
  refine lv_istore_n (lv' := [(2, .int 0), (0, .ref (a 19)), (1, .int (nI mm))]) hx hb dX7_waterOf_1 rfl hl (by decide) rfl (fun ls hl => ?_)
  refine lv_iconst (v := 0) hx hb dX7_waterOf_2 (by decide) ?_
  refine lv_istore_n (lv' := [(3, .int 0), (2, .int 0), (0, .ref (a 19)), (1, .int (nI mm))]) hx hb dX7_waterOf_3 rfl hl (by decide) rfl (fun ls hl => ?_)
  refine k_loop (fun k H locs ls => kW D (kTY ty) A s.heap s H locs [weB a S] ∧ lv_has ls 4 [(0, .ref (a 19)), (1, .int (nI mm)), (2, .int (pBrings S k)), (3, .int (nI k))]) mm 0 (by omega) ⟨w, lv_sub hl [2, 3, 1, 0] rfl⟩ ?_
  intro k hk0 hk ihk H locs ls hI
  obtain ⟨w, hl⟩ := hI
  refine lv_iload_n hx hb dX7_waterOf_4 rfl (lv_at hl 3 rfl) ?_
  refine lv_iload_n hx hb dX7_waterOf_5 rfl (lv_at hl 1 rfl) ?_
  refine lv_icmp_ge (tgt := 32) hx hb dX7_waterOf_6 (by decide) (fun c6 => ?_) (fun c6 => ?_)
  · have c6 := (nI_leI (a := mm) (b := k) (by omega) (by omega)).mp c6
    obtain rfl : mm = k := by omega
    refine lv_iload_n hx hb dX7_waterOf_32 rfl (lv_at hl 2 rfl) ?_
    exact e_i hx hb hr hlocks w rfl dX7_waterOf_33 (Nat.le_refl _) (Nat.le_refl _)
  · have c6 := mt (nI_leI (a := mm) (b := k) (by omega) (by omega)).mpr c6
    refine lv_iload_n hx hb dX7_waterOf_9 rfl (lv_at hl 2 rfl) ?_
    refine lv_bipush (v := 50) hx hb dX7_waterOf_10 (by decide) ?_
    refine lv_aload_n hx hb dX7_waterOf_12 rfl (lv_at hl 0 rfl) ?_
    refine r_get (v' := .int (S 205)) hx hb hts in_X7_waterOf_X7 hown w 0 0 rfl rfl (ci := 11) rfl 5 (by decide) (hts _ (List.mem_of_getElem? (i := 1) rfl)) rfl rfl rfl dX7_waterOf_13 ?_
    refine lv_iload_n hx hb dX7_waterOf_16 rfl (lv_at hl 3 rfl) ?_
    refine lv_iadd hx hb dX7_waterOf_17 ?_
    refine va_mmin hx hb (hml.trans hl.1.symm) hown (hts _ (List.mem_of_getElem? (i := 2) rfl)) (hts _ (List.mem_of_getElem? (i := 3) rfl)) (hts _ (List.mem_of_getElem? (i := 4) rfl)) (hts _ (List.mem_of_getElem? (i := 5) rfl)) (Nat.le_of_ble_eq_true rfl) (Nat.le_of_ble_eq_true rfl) (Nat.zero_le _) (Nat.zero_le _) dX7_waterOf_18 ?_
    refine r_eq (y := (jmin 50 ((S 205) + (nI k)))) rfl ?_
    refine k_iS (As := [.int (jmin 50 ((S 205) + (nI k)))]) (rest := [.int (pBrings S k)]) (Rs := [weB a S]) (Bs' := [weB a S]) ⟨hx, hb, hml, hown, hts⟩ w (c_X7_waterAtWear l D ty (jmin 50 ((S 205) + (nI k)))) (va_cwS 1 hts gX7_waterOf_X7_waterAtWear rfl rfl rfl hdN_X7_waterAtWear ⟨Nat.le_of_ble_eq_true rfl, Nat.le_of_ble_eq_true rfl⟩) [0] (nB := 1) (by decide) rfl rfl rfl rfl rfl hl.1 rfl (Nat.le_of_ble_eq_true rfl) dX7_waterOf_21 ⟨(Nat.zero_le _), (Nat.zero_le _)⟩ (fun H locs w => ?_)
    refine lv_iadd hx hb dX7_waterOf_24 ?_
    refine r_eq (y := (pBrings S (k + 1))) rfl ?_
    refine lv_istore_n (lv' := [(2, .int (pBrings S (k + 1))), (0, .ref (a 19)), (1, .int (nI mm)), (3, .int (nI k))]) hx hb dX7_waterOf_25 rfl hl (by decide) rfl (fun ls hl => ?_)
    refine lv_iinc (v := (nI (k + 1))) (lv' := [(3, .int (nI (k + 1))), (2, .int (pBrings S (k + 1))), (0, .ref (a 19)), (1, .int (nI mm))]) hx hb dX7_waterOf_26 hl (k := 3) rfl (inc1 k) (by decide) rfl (fun ls hl => ?_)
    refine lv_goto (tgt := 4) hx hb dX7_waterOf_29 (by decide) ?_
    exact ihk _ _ _ ⟨w, lv_sub hl [2, 3, 1, 0] rfl⟩ (by omega)

theorem in_X7_drawOnce_X7 : ∀ w ∈ wsX70, w ∈ wsX7_drawOnce := by decide +kernel
theorem hdN_X7_drawOnce : yX7_drawOnce.cls ≠ "java/lang/invoke/MethodHandle" ∧ yX7_drawOnce.cls ≠ "java/lang/invoke/VarHandle" ∧ (parseMethodDescriptor yX7_drawOnce.desc).map (fun d => d.parameters.length) = some 0 := by decide +kernel
set_option maxRecDepth 100000 in
set_option maxHeartbeats 4000000 in
theorem c_X7_drawOnce (l : Launch) (D : va_G) (ty : Nat → ClassId) (a : Nat → Nat) (S : pS) (hw : jmin 50 (S 205) = S 205)  : Mi l yX7_drawOnce wsX7_drawOnce (kR 1 20 0 0) D (kTY ty) [.ref (a 19)] [weB a S] [weB a (sPump S)] (pBring (S 205)) 0 0 := by
  refine m_i (cc := cX7_drawOnce) (maxL := 2) (ret := (some .int)) (by decide +kernel) rfl (Nat.le_of_ble_eq_true rfl) ?_
  intro p e s m below meth c A ls hx hb hml hr hlocks hown hts w hl
  have hown : s.vm.findClass RX7 = some m.cls := hown
  have hl : lv_has ls 2 [(0, .ref (a 19))] := hl
  refine lv_aload_n hx hb dX7_drawOnce_0 rfl (lv_at hl 0 rfl) ?_
  refine r_get (v' := .int (S 205)) hx hb hts in_X7_drawOnce_X7 hown w 0 0 rfl rfl (ci := 11) rfl 5 (by decide) (hts _ (List.mem_of_getElem? (i := 1) rfl)) rfl rfl rfl dX7_drawOnce_1 ?_
  refine k_iS (As := [.int (S 205)]) (rest := []) (Rs := [weB a S]) (Bs' := [weB a S]) ⟨hx, hb, hml, hown, hts⟩ w (c_X7_waterAtWear l D ty (S 205)) (va_cwS 1 hts gX7_drawOnce_X7_waterAtWear rfl rfl rfl hdN_X7_waterAtWear ⟨Nat.le_of_ble_eq_true rfl, Nat.le_of_ble_eq_true rfl⟩) [0] (nB := 1) (by decide) rfl rfl rfl rfl rfl hl.1 rfl (Nat.le_of_ble_eq_true rfl) dX7_drawOnce_4 ⟨(Nat.zero_le _), (Nat.zero_le _)⟩ (fun H locs w => ?_)
  refine r_eq (y := (pBring (S 205))) (by rw [pBring, hw]) ?_
  refine lv_istore_n (lv' := [(1, .int (pBring (S 205))), (0, .ref (a 19))]) hx hb dX7_drawOnce_7 rfl hl (by decide) rfl (fun ls hl => ?_)
  refine lv_aload_n hx hb dX7_drawOnce_8 rfl (lv_at hl 1 rfl) ?_
  refine lv_dup hx hb dX7_drawOnce_9 rfl ?_
  refine r_get (v' := .int (S 204)) hx hb hts in_X7_drawOnce_X7 hown w 0 0 rfl rfl (ci := 11) rfl 0 (by decide) (hts _ (List.mem_of_getElem? (i := 2) rfl)) rfl rfl rfl dX7_drawOnce_10 ?_
  refine lv_iload_n hx hb dX7_drawOnce_13 rfl (lv_at hl 0 rfl) ?_
  refine lv_isub hx hb dX7_drawOnce_14 ?_
  refine r_put hx hb hts in_X7_drawOnce_X7 tyX7 tyX7_ok nmX7 hown w 0 0 rfl rfl (ci := 11) rfl 0 (by decide) (hts _ (List.mem_of_getElem? (i := 2) rfl)) rfl rfl (ty := .int) (by decide +kernel) rfl rfl (Nat.le_of_ble_eq_true rfl) (weB a (upd S 204 ((S 204) - (pBring (S 205))))) rfl [weB a (upd S 204 ((S 204) - (pBring (S 205))))] rfl dX7_drawOnce_15 (fun H locs w => ?_)
  refine lv_aload_n hx hb dX7_drawOnce_18 rfl (lv_at hl 1 rfl) ?_
  refine lv_dup hx hb dX7_drawOnce_19 rfl ?_
  refine r_get (v' := .int ((upd S 204 ((S 204) - (pBring (S 205)))) 210)) hx hb hts in_X7_drawOnce_X7 hown w 0 0 rfl rfl (ci := 11) rfl 1 (by decide) (hts _ (List.mem_of_getElem? (i := 3) rfl)) rfl rfl rfl dX7_drawOnce_20 ?_
  refine r_eq (y := (S 210)) rfl ?_
  refine lv_iload_n hx hb dX7_drawOnce_23 rfl (lv_at hl 0 rfl) ?_
  refine lv_iadd hx hb dX7_drawOnce_24 ?_
  refine r_put hx hb hts in_X7_drawOnce_X7 tyX7 tyX7_ok nmX7 hown w 0 0 rfl rfl (ci := 11) rfl 1 (by decide) (hts _ (List.mem_of_getElem? (i := 3) rfl)) rfl rfl (ty := .int) (by decide +kernel) rfl rfl (Nat.le_of_ble_eq_true rfl) (weB a (upd (upd S 204 ((S 204) - (pBring (S 205)))) 210 ((S 210) + (pBring (S 205))))) rfl [weB a (upd (upd S 204 ((S 204) - (pBring (S 205)))) 210 ((S 210) + (pBring (S 205))))] rfl dX7_drawOnce_25 (fun H locs w => ?_)
  refine lv_aload_n hx hb dX7_drawOnce_28 rfl (lv_at hl 1 rfl) ?_
  refine lv_dup hx hb dX7_drawOnce_29 rfl ?_
  refine r_get (v' := .int ((upd (upd S 204 ((S 204) - (pBring (S 205)))) 210 ((S 210) + (pBring (S 205)))) 212)) hx hb hts in_X7_drawOnce_X7 hown w 0 0 rfl rfl (ci := 11) rfl 6 (by decide) (hts _ (List.mem_of_getElem? (i := 4) rfl)) rfl rfl rfl dX7_drawOnce_30 ?_
  refine r_eq (y := (S 212)) rfl ?_
  refine lv_iconst (v := 1) hx hb dX7_drawOnce_33 (by decide) ?_
  refine lv_iadd hx hb dX7_drawOnce_34 ?_
  refine r_put hx hb hts in_X7_drawOnce_X7 tyX7 tyX7_ok nmX7 hown w 0 0 rfl rfl (ci := 11) rfl 6 (by decide) (hts _ (List.mem_of_getElem? (i := 4) rfl)) rfl rfl (ty := .int) (by decide +kernel) rfl rfl (Nat.le_of_ble_eq_true rfl) (weB a (upd (upd (upd S 204 ((S 204) - (pBring (S 205)))) 210 ((S 210) + (pBring (S 205)))) 212 ((S 212) + 1))) rfl [weB a (upd (upd (upd S 204 ((S 204) - (pBring (S 205)))) 210 ((S 210) + (pBring (S 205)))) 212 ((S 212) + 1))] rfl dX7_drawOnce_35 (fun H locs w => ?_)
  refine lv_aload_n hx hb dX7_drawOnce_38 rfl (lv_at hl 1 rfl) ?_
  refine lv_bipush (v := 50) hx hb dX7_drawOnce_39 (by decide) ?_
  refine lv_aload_n hx hb dX7_drawOnce_41 rfl (lv_at hl 1 rfl) ?_
  refine r_get (v' := .int ((upd (upd (upd S 204 ((S 204) - (pBring (S 205)))) 210 ((S 210) + (pBring (S 205)))) 212 ((S 212) + 1)) 205)) hx hb hts in_X7_drawOnce_X7 hown w 0 0 rfl rfl (ci := 11) rfl 5 (by decide) (hts _ (List.mem_of_getElem? (i := 1) rfl)) rfl rfl rfl dX7_drawOnce_42 ?_
  refine r_eq (y := (S 205)) rfl ?_
  refine lv_iconst (v := 1) hx hb dX7_drawOnce_45 (by decide) ?_
  refine lv_iadd hx hb dX7_drawOnce_46 ?_
  refine va_mmin hx hb (hml.trans hl.1.symm) hown (hts _ (List.mem_of_getElem? (i := 5) rfl)) (hts _ (List.mem_of_getElem? (i := 6) rfl)) (hts _ (List.mem_of_getElem? (i := 7) rfl)) (hts _ (List.mem_of_getElem? (i := 8) rfl)) (Nat.le_of_ble_eq_true rfl) (Nat.le_of_ble_eq_true rfl) (Nat.zero_le _) (Nat.zero_le _) dX7_drawOnce_47 ?_
  refine r_eq (y := (jmin 50 ((S 205) + 1))) rfl ?_
  refine r_put hx hb hts in_X7_drawOnce_X7 tyX7 tyX7_ok nmX7 hown w 0 0 rfl rfl (ci := 11) rfl 5 (by decide) (hts _ (List.mem_of_getElem? (i := 1) rfl)) rfl rfl (ty := .int) (by decide +kernel) rfl rfl (Nat.le_of_ble_eq_true rfl) (weB a (upd (upd (upd (upd S 204 ((S 204) - (pBring (S 205)))) 210 ((S 210) + (pBring (S 205)))) 212 ((S 212) + 1)) 205 (jmin 50 ((S 205) + 1)))) rfl [weB a (upd (upd (upd (upd S 204 ((S 204) - (pBring (S 205)))) 210 ((S 210) + (pBring (S 205)))) 212 ((S 212) + 1)) 205 (jmin 50 ((S 205) + 1)))] rfl dX7_drawOnce_50 (fun H locs w => ?_)
  refine lv_iload_n hx hb dX7_drawOnce_53 rfl (lv_at hl 0 rfl) ?_
  exact e_i hx hb hr hlocks w rfl dX7_drawOnce_54 (Nat.le_refl _) (Nat.le_refl _)

theorem in_X7_renewLeather_X7 : ∀ w ∈ wsX70, w ∈ wsX7_renewLeather := by decide +kernel
theorem hdN_X7_renewLeather : yX7_renewLeather.cls ≠ "java/lang/invoke/MethodHandle" ∧ yX7_renewLeather.cls ≠ "java/lang/invoke/VarHandle" ∧ (parseMethodDescriptor yX7_renewLeather.desc).map (fun d => d.parameters.length) = some 0 := by decide +kernel
set_option maxRecDepth 100000 in
set_option maxHeartbeats 4000000 in
theorem c_X7_renewLeather (l : Launch) (D : va_G) (ty : Nat → ClassId) (a : Nat → Nat) (S : pS)  : Mi l yX7_renewLeather wsX7_renewLeather (kR 0 0 0 0) D (kTY ty) [.ref (a 19)] [weB a S] [weB a (upd S 205 0)] (S 205) 0 0 := by
  refine m_i (cc := cX7_renewLeather) (maxL := 2) (ret := (some .int)) (by decide +kernel) rfl (Nat.le_of_ble_eq_true rfl) ?_
  intro p e s m below meth c A ls hx hb hml hr hlocks hown hts w hl
  have hown : s.vm.findClass RX7 = some m.cls := hown
  have hl : lv_has ls 2 [(0, .ref (a 19))] := hl
  refine lv_aload_n hx hb dX7_renewLeather_0 rfl (lv_at hl 0 rfl) ?_
  refine r_get (v' := .int (S 205)) hx hb hts in_X7_renewLeather_X7 hown w 0 0 rfl rfl (ci := 11) rfl 5 (by decide) (hts _ (List.mem_of_getElem? (i := 1) rfl)) rfl rfl rfl dX7_renewLeather_1 ?_
  refine lv_istore_n (lv' := [(1, .int (S 205)), (0, .ref (a 19))]) hx hb dX7_renewLeather_4 rfl hl (by decide) rfl (fun ls hl => ?_)
  refine lv_aload_n hx hb dX7_renewLeather_5 rfl (lv_at hl 1 rfl) ?_
  refine lv_iconst (v := 0) hx hb dX7_renewLeather_6 (by decide) ?_
  refine r_put hx hb hts in_X7_renewLeather_X7 tyX7 tyX7_ok nmX7 hown w 0 0 rfl rfl (ci := 11) rfl 5 (by decide) (hts _ (List.mem_of_getElem? (i := 1) rfl)) rfl rfl (ty := .int) (by decide +kernel) rfl rfl (Nat.le_of_ble_eq_true rfl) (weB a (upd S 205 0)) rfl [weB a (upd S 205 0)] rfl dX7_renewLeather_7 (fun H locs w => ?_)
  refine lv_iload_n hx hb dX7_renewLeather_10 rfl (lv_at hl 0 rfl) ?_
  exact e_i hx hb hr hlocks w rfl dX7_renewLeather_11 (Nat.le_refl _) (Nat.le_refl _)

theorem in_X7_changeRain_X7 : ∀ w ∈ wsX70, w ∈ wsX7_changeRain := by decide +kernel
theorem hdN_X7_changeRain : yX7_changeRain.cls ≠ "java/lang/invoke/MethodHandle" ∧ yX7_changeRain.cls ≠ "java/lang/invoke/VarHandle" ∧ (parseMethodDescriptor yX7_changeRain.desc).map (fun d => d.parameters.length) = some 1 := by decide +kernel
set_option maxRecDepth 100000 in
set_option maxHeartbeats 4000000 in
theorem c_X7_changeRain (l : Launch) (D : va_G) (ty : Nat → ClassId) (a : Nat → Nat) (S : pS) (v : Int32)  : Mi l yX7_changeRain wsX7_changeRain (kR 0 0 0 0) D (kTY ty) [.ref (a 19), .int v] [weB a S] [weB a (upd S 208 v)] (S 208) 0 0 := by
  refine m_i (cc := cX7_changeRain) (maxL := 3) (ret := (some .int)) (by decide +kernel) rfl (Nat.le_of_ble_eq_true rfl) ?_
  intro p e s m below meth c A ls hx hb hml hr hlocks hown hts w hl
  have hown : s.vm.findClass RX7 = some m.cls := hown
  have hl : lv_has ls 3 [(0, .ref (a 19)), (1, .int v)] := hl
  refine lv_aload_n hx hb dX7_changeRain_0 rfl (lv_at hl 0 rfl) ?_
  refine r_get (v' := .int (S 208)) hx hb hts in_X7_changeRain_X7 hown w 0 0 rfl rfl (ci := 11) rfl 4 (by decide) (hts _ (List.mem_of_getElem? (i := 1) rfl)) rfl rfl rfl dX7_changeRain_1 ?_
  refine lv_istore_n (lv' := [(2, .int (S 208)), (0, .ref (a 19)), (1, .int v)]) hx hb dX7_changeRain_4 rfl hl (by decide) rfl (fun ls hl => ?_)
  refine lv_aload_n hx hb dX7_changeRain_5 rfl (lv_at hl 1 rfl) ?_
  refine lv_iload_n hx hb dX7_changeRain_6 rfl (lv_at hl 2 rfl) ?_
  refine r_put hx hb hts in_X7_changeRain_X7 tyX7 tyX7_ok nmX7 hown w 0 0 rfl rfl (ci := 11) rfl 4 (by decide) (hts _ (List.mem_of_getElem? (i := 1) rfl)) rfl rfl (ty := .int) (by decide +kernel) rfl rfl (Nat.le_of_ble_eq_true rfl) (weB a (upd S 208 v)) rfl [weB a (upd S 208 v)] rfl dX7_changeRain_7 (fun H locs w => ?_)
  refine lv_iload_n hx hb dX7_changeRain_10 rfl (lv_at hl 0 rfl) ?_
  exact e_i hx hb hr hlocks w rfl dX7_changeRain_11 (Nat.le_refl _) (Nat.le_refl _)

theorem in_X7_passNight_X7 : ∀ w ∈ wsX70, w ∈ wsX7_passNight := by decide +kernel
theorem hdN_X7_passNight : yX7_passNight.cls ≠ "java/lang/invoke/MethodHandle" ∧ yX7_passNight.cls ≠ "java/lang/invoke/VarHandle" ∧ (parseMethodDescriptor yX7_passNight.desc).map (fun d => d.parameters.length) = some 0 := by decide +kernel
set_option maxRecDepth 100000 in
set_option maxHeartbeats 4000000 in
theorem c_X7_passNight (l : Launch) (D : va_G) (ty : Nat → ClassId) (a : Nat → Nat) (S : pS)  : Mv l yX7_passNight wsX7_passNight (kR 0 0 0 0) D (kTY ty) [.ref (a 19)] [weB a S] [weB a (sRain S)] 0 0 := by
  refine m_v (cc := cX7_passNight) (maxL := 2) (ret := none) (by decide +kernel) rfl (Nat.le_of_ble_eq_true rfl) ?_
  intro p e s m below meth c A ls hx hb hml hr hlocks hown hts w hl
  have hown : s.vm.findClass RX7 = some m.cls := hown
  have hl : lv_has ls 2 [(0, .ref (a 19))] := hl
  refine lv_bipush (v := 10) hx hb dX7_passNight_0 (by decide) ?_
  refine lv_aload_n hx hb dX7_passNight_2 rfl (lv_at hl 0 rfl) ?_
  refine r_get (v' := .int (S 208)) hx hb hts in_X7_passNight_X7 hown w 0 0 rfl rfl (ci := 11) rfl 4 (by decide) (hts _ (List.mem_of_getElem? (i := 1) rfl)) rfl rfl rfl dX7_passNight_3 ?_
  refine lv_imul hx hb dX7_passNight_6 ?_
  refine lv_istore_n (lv' := [(1, .int (10 * (S 208))), (0, .ref (a 19))]) hx hb dX7_passNight_7 rfl hl (by decide) rfl (fun ls hl => ?_)
  refine lv_aload_n hx hb dX7_passNight_8 rfl (lv_at hl 1 rfl) ?_
  refine lv_dup hx hb dX7_passNight_9 rfl ?_
  refine r_get (v' := .int (S 214)) hx hb hts in_X7_passNight_X7 hown w 0 0 rfl rfl (ci := 11) rfl 3 (by decide) (hts _ (List.mem_of_getElem? (i := 2) rfl)) rfl rfl rfl dX7_passNight_10 ?_
  refine lv_iload_n hx hb dX7_passNight_13 rfl (lv_at hl 0 rfl) ?_
  refine lv_iadd hx hb dX7_passNight_14 ?_
  refine r_put hx hb hts in_X7_passNight_X7 tyX7 tyX7_ok nmX7 hown w 0 0 rfl rfl (ci := 11) rfl 3 (by decide) (hts _ (List.mem_of_getElem? (i := 2) rfl)) rfl rfl (ty := .int) (by decide +kernel) rfl rfl (Nat.le_of_ble_eq_true rfl) (weB a (upd S 214 ((S 214) + (10 * (S 208))))) rfl [weB a (upd S 214 ((S 214) + (10 * (S 208))))] rfl dX7_passNight_15 (fun H locs w => ?_)
  refine lv_aload_n hx hb dX7_passNight_18 rfl (lv_at hl 1 rfl) ?_
  refine lv_dup hx hb dX7_passNight_19 rfl ?_
  refine r_get (v' := .int ((upd S 214 ((S 214) + (10 * (S 208)))) 204)) hx hb hts in_X7_passNight_X7 hown w 0 0 rfl rfl (ci := 11) rfl 0 (by decide) (hts _ (List.mem_of_getElem? (i := 3) rfl)) rfl rfl rfl dX7_passNight_20 ?_
  refine r_eq (y := (S 204)) rfl ?_
  refine lv_iload_n hx hb dX7_passNight_23 rfl (lv_at hl 0 rfl) ?_
  refine lv_iadd hx hb dX7_passNight_24 ?_
  refine r_put hx hb hts in_X7_passNight_X7 tyX7 tyX7_ok nmX7 hown w 0 0 rfl rfl (ci := 11) rfl 0 (by decide) (hts _ (List.mem_of_getElem? (i := 3) rfl)) rfl rfl (ty := .int) (by decide +kernel) rfl rfl (Nat.le_of_ble_eq_true rfl) (weB a (upd (upd S 214 ((S 214) + (10 * (S 208)))) 204 ((S 204) + (10 * (S 208))))) rfl [weB a (upd (upd S 214 ((S 214) + (10 * (S 208)))) 204 ((S 204) + (10 * (S 208))))] rfl dX7_passNight_25 (fun H locs w => ?_)
  refine lv_aload_n hx hb dX7_passNight_28 rfl (lv_at hl 1 rfl) ?_
  refine r_get (v' := .int ((upd (upd S 214 ((S 214) + (10 * (S 208)))) 204 ((S 204) + (10 * (S 208)))) 204)) hx hb hts in_X7_passNight_X7 hown w 0 0 rfl rfl (ci := 11) rfl 0 (by decide) (hts _ (List.mem_of_getElem? (i := 3) rfl)) rfl rfl rfl dX7_passNight_29 ?_
  refine r_eq (y := (S 204 + 10 * (S 208))) rfl ?_
  refine lv_sipush (v := 999) hx hb dX7_passNight_32 (by decide) ?_
  refine lv_icmp_le (tgt := 62) hx hb dX7_passNight_35 (by decide) (fun c35 => ?_) (fun c35 => ?_)
  · refine lv_aload_n hx hb dX7_passNight_62 rfl (lv_at hl 1 rfl) ?_
    refine lv_aload_n hx hb dX7_passNight_63 rfl (lv_at hl 1 rfl) ?_
    refine r_get (v' := .int ((upd (upd S 214 ((S 214) + (10 * (S 208)))) 204 ((S 204) + (10 * (S 208)))) 204)) hx hb hts in_X7_passNight_X7 hown w 0 0 rfl rfl (ci := 11) rfl 0 (by decide) (hts _ (List.mem_of_getElem? (i := 3) rfl)) rfl rfl rfl dX7_passNight_64 ?_
    refine r_eq (y := (S 204 + 10 * (S 208))) rfl ?_
    refine lv_bipush (v := 100) hx hb dX7_passNight_67 (by decide) ?_
    refine lv_icmp_ge (tgt := 76) hx hb dX7_passNight_69 (by decide) (fun c69 => ?_) (fun c69 => ?_)
    · refine lv_iconst (v := 0) hx hb dX7_passNight_76 (by decide) ?_
      refine r_put hx hb hts in_X7_passNight_X7 tyX7 tyX7_ok nmX7 hown w 0 0 rfl rfl (ci := 11) rfl 7 (by decide) (hts _ (List.mem_of_getElem? (i := 5) rfl)) rfl rfl (ty := .boolean) (by decide +kernel) rfl rfl (Nat.le_of_ble_eq_true rfl) (weB a (upd (upd (upd S 214 ((S 214) + (10 * (S 208)))) 204 ((S 204) + (10 * (S 208)))) 207 0)) rfl [weB a (upd (upd (upd S 214 ((S 214) + (10 * (S 208)))) 204 ((S 204) + (10 * (S 208)))) 207 0)] rfl dX7_passNight_77 (fun H locs w => ?_)
      exact e_v hx hb hr hlocks (w.cast (congrArg (fun b => [b]) (night_lo (Int32.not_lt.mpr c35) (bI_d0 (Int32.not_lt.mpr c69))))) dX7_passNight_80 (Nat.le_refl _) (Nat.le_refl _)
    · refine lv_iconst (v := 1) hx hb dX7_passNight_72 (by decide) ?_
      refine lv_goto (tgt := 77) hx hb dX7_passNight_73 (by decide) ?_
      refine r_put hx hb hts in_X7_passNight_X7 tyX7 tyX7_ok nmX7 hown w 0 0 rfl rfl (ci := 11) rfl 7 (by decide) (hts _ (List.mem_of_getElem? (i := 5) rfl)) rfl rfl (ty := .boolean) (by decide +kernel) rfl rfl (Nat.le_of_ble_eq_true rfl) (weB a (upd (upd (upd S 214 ((S 214) + (10 * (S 208)))) 204 ((S 204) + (10 * (S 208)))) 207 1)) rfl [weB a (upd (upd (upd S 214 ((S 214) + (10 * (S 208)))) 204 ((S 204) + (10 * (S 208)))) 207 1)] rfl dX7_passNight_77 (fun H locs w => ?_)
      exact e_v hx hb hr hlocks (w.cast (congrArg (fun b => [b]) (night_lo (Int32.not_lt.mpr c35) (bI_d1 (Int32.not_le.mp c69))))) dX7_passNight_80 (Nat.le_refl _) (Nat.le_refl _)
  · refine lv_aload_n hx hb dX7_passNight_38 rfl (lv_at hl 1 rfl) ?_
    refine lv_dup hx hb dX7_passNight_39 rfl ?_
    refine r_get (v' := .int ((upd (upd S 214 ((S 214) + (10 * (S 208)))) 204 ((S 204) + (10 * (S 208)))) 211)) hx hb hts in_X7_passNight_X7 hown w 0 0 rfl rfl (ci := 11) rfl 2 (by decide) (hts _ (List.mem_of_getElem? (i := 4) rfl)) rfl rfl rfl dX7_passNight_40 ?_
    refine r_eq (y := (S 211)) rfl ?_
    refine lv_aload_n hx hb dX7_passNight_43 rfl (lv_at hl 1 rfl) ?_
    refine r_get (v' := .int ((upd (upd S 214 ((S 214) + (10 * (S 208)))) 204 ((S 204) + (10 * (S 208)))) 204)) hx hb hts in_X7_passNight_X7 hown w 0 0 rfl rfl (ci := 11) rfl 0 (by decide) (hts _ (List.mem_of_getElem? (i := 3) rfl)) rfl rfl rfl dX7_passNight_44 ?_
    refine r_eq (y := (S 204 + 10 * (S 208))) rfl ?_
    refine lv_sipush (v := 999) hx hb dX7_passNight_47 (by decide) ?_
    refine lv_isub hx hb dX7_passNight_50 ?_
    refine lv_iadd hx hb dX7_passNight_51 ?_
    refine r_put hx hb hts in_X7_passNight_X7 tyX7 tyX7_ok nmX7 hown w 0 0 rfl rfl (ci := 11) rfl 2 (by decide) (hts _ (List.mem_of_getElem? (i := 4) rfl)) rfl rfl (ty := .int) (by decide +kernel) rfl rfl (Nat.le_of_ble_eq_true rfl) (weB a (upd (upd (upd S 214 ((S 214) + (10 * (S 208)))) 204 ((S 204) + (10 * (S 208)))) 211 ((S 211) + ((S 204 + 10 * (S 208)) - 999)))) rfl [weB a (upd (upd (upd S 214 ((S 214) + (10 * (S 208)))) 204 ((S 204) + (10 * (S 208)))) 211 ((S 211) + ((S 204 + 10 * (S 208)) - 999)))] rfl dX7_passNight_52 (fun H locs w => ?_)
    refine lv_aload_n hx hb dX7_passNight_55 rfl (lv_at hl 1 rfl) ?_
    refine lv_sipush (v := 999) hx hb dX7_passNight_56 (by decide) ?_
    refine r_put hx hb hts in_X7_passNight_X7 tyX7 tyX7_ok nmX7 hown w 0 0 rfl rfl (ci := 11) rfl 0 (by decide) (hts _ (List.mem_of_getElem? (i := 3) rfl)) rfl rfl (ty := .int) (by decide +kernel) rfl rfl (Nat.le_of_ble_eq_true rfl) (weB a (upd (upd (upd (upd S 214 ((S 214) + (10 * (S 208)))) 204 ((S 204) + (10 * (S 208)))) 211 ((S 211) + ((S 204 + 10 * (S 208)) - 999))) 204 999)) rfl [weB a (upd (upd (upd (upd S 214 ((S 214) + (10 * (S 208)))) 204 ((S 204) + (10 * (S 208)))) 211 ((S 211) + ((S 204 + 10 * (S 208)) - 999))) 204 999)] rfl dX7_passNight_59 (fun H locs w => ?_)
    refine lv_aload_n hx hb dX7_passNight_62 rfl (lv_at hl 1 rfl) ?_
    refine lv_aload_n hx hb dX7_passNight_63 rfl (lv_at hl 1 rfl) ?_
    refine r_get (v' := .int ((upd (upd (upd (upd S 214 ((S 214) + (10 * (S 208)))) 204 ((S 204) + (10 * (S 208)))) 211 ((S 211) + ((S 204 + 10 * (S 208)) - 999))) 204 999) 204)) hx hb hts in_X7_passNight_X7 hown w 0 0 rfl rfl (ci := 11) rfl 0 (by decide) (hts _ (List.mem_of_getElem? (i := 3) rfl)) rfl rfl rfl dX7_passNight_64 ?_
    refine r_eq (y := 999) rfl ?_
    refine lv_bipush (v := 100) hx hb dX7_passNight_67 (by decide) ?_
    refine lv_icmp_ge (tgt := 76) hx hb dX7_passNight_69 (by decide) (fun c69 => ?_) (fun c69 => ?_)
    · have c69 := (nI_leI (a := 100) (b := 999) (by omega) (by omega)).mp c69
      refine lv_iconst (v := 0) hx hb dX7_passNight_76 (by decide) ?_
      refine r_put hx hb hts in_X7_passNight_X7 tyX7 tyX7_ok nmX7 hown w 0 0 rfl rfl (ci := 11) rfl 7 (by decide) (hts _ (List.mem_of_getElem? (i := 5) rfl)) rfl rfl (ty := .boolean) (by decide +kernel) rfl rfl (Nat.le_of_ble_eq_true rfl) (weB a (upd (upd (upd (upd (upd S 214 ((S 214) + (10 * (S 208)))) 204 ((S 204) + (10 * (S 208)))) 211 ((S 211) + ((S 204 + 10 * (S 208)) - 999))) 204 999) 207 0)) rfl [weB a (upd (upd (upd (upd (upd S 214 ((S 214) + (10 * (S 208)))) 204 ((S 204) + (10 * (S 208)))) 211 ((S 211) + ((S 204 + 10 * (S 208)) - 999))) 204 999) 207 0)] rfl dX7_passNight_77 (fun H locs w => ?_)
      exact e_v hx hb hr hlocks (w.cast (congrArg (fun b => [b]) (night_hi (Int32.not_le.mp c35)))) dX7_passNight_80 (Nat.le_refl _) (Nat.le_refl _)
    · have c69 := mt (nI_leI (a := 100) (b := 999) (by omega) (by omega)).mpr c69
      exact absurd (by decide) c69

theorem in_X3_note_X3 : ∀ w ∈ wsX30, w ∈ wsX3_note := by decide +kernel
theorem hdN_X3_note : yX3_note.cls ≠ "java/lang/invoke/MethodHandle" ∧ yX3_note.cls ≠ "java/lang/invoke/VarHandle" ∧ (parseMethodDescriptor yX3_note.desc).map (fun d => d.parameters.length) = some 4 := by decide +kernel
set_option maxRecDepth 100000 in
set_option maxHeartbeats 4000000 in
theorem c_X3_note (l : Launch) (D : va_G) (ty : Nat → ClassId) (a : Nat → Nat) (M : pS) (x : Nat) (h1 : M 1 = nI x) (hxx : x < 20) (kd dy v1 v2 : Int32)  : Mv l yX3_note wsX3_note (kR 1 14 0 0) D (kTY ty) [.ref (a 20), .int kd, .int dy, .int v1, .int v2] [miB ty a M] [miB ty a (mNote M kd dy v1 v2)] 0 0 := by
  refine m_v (cc := cX3_note) (maxL := 5) (ret := none) (by decide +kernel) rfl (Nat.le_of_ble_eq_true rfl) ?_
  intro p e s m below meth c A ls hx hb hml hr hlocks hown hts w hl
  have hown : s.vm.findClass RX3 = some m.cls := hown
  have hl : lv_has ls 5 [(0, .ref (a 20)), (1, .int kd), (2, .int dy), (3, .int v1), (4, .int v2)] := hl
  refine lv_aload_n hx hb dX3_note_0 rfl (lv_at hl 0 rfl) ?_
  refine r_get (v' := .ref (a 21)) hx hb hts in_X3_note_X3 hown w 0 0 rfl rfl (ci := 7) rfl 2 (by decide) (hts _ (List.mem_of_getElem? (i := 1) rfl)) rfl rfl rfl dX3_note_1 ?_
  refine lv_aload_n hx hb dX3_note_4 rfl (lv_at hl 0 rfl) ?_
  refine r_get (v' := .int (nI x)) hx hb hts in_X3_note_X3 hown w 0 0 rfl rfl (ci := 7) rfl 1 (by decide) (hts _ (List.mem_of_getElem? (i := 2) rfl)) rfl rfl (congrArg Value.int h1) dX3_note_5 ?_
  refine lv_iload_n hx hb dX3_note_8 rfl (lv_at hl 1 rfl) ?_
  refine r_iast hx hb w 0 1 rfl rfl 0 rfl x (by omega) (Nat.le_of_ble_eq_true rfl) rfl (miB ty a (upd M (2 + x) kd)) (miB_st0 (by omega)) [miB ty a (upd M (2 + x) kd)] rfl dX3_note_9 (fun H locs w => ?_)
  refine lv_aload_n hx hb dX3_note_10 rfl (lv_at hl 0 rfl) ?_
  refine r_get (v' := .ref (a 22)) hx hb hts in_X3_note_X3 hown w 0 0 rfl rfl (ci := 7) rfl 3 (by decide) (hts _ (List.mem_of_getElem? (i := 3) rfl)) rfl rfl rfl dX3_note_11 ?_
  refine lv_aload_n hx hb dX3_note_14 rfl (lv_at hl 0 rfl) ?_
  refine r_get (v' := .int ((upd M (2 + x) kd) 1)) hx hb hts in_X3_note_X3 hown w 0 0 rfl rfl (ci := 7) rfl 1 (by decide) (hts _ (List.mem_of_getElem? (i := 2) rfl)) rfl rfl rfl dX3_note_15 ?_
  refine r_eq (y := (nI x)) (by rw [updn (by omega)]; exact h1) ?_
  refine lv_iload_n hx hb dX3_note_18 rfl (lv_at hl 2 rfl) ?_
  refine r_iast hx hb w 0 2 rfl rfl 0 rfl x (by omega) (Nat.le_of_ble_eq_true rfl) rfl (miB ty a (upd (upd M (2 + x) kd) (22 + x) dy)) (miB_st1 (by omega)) [miB ty a (upd (upd M (2 + x) kd) (22 + x) dy)] rfl dX3_note_19 (fun H locs w => ?_)
  refine lv_aload_n hx hb dX3_note_20 rfl (lv_at hl 0 rfl) ?_
  refine r_get (v' := .ref (a 23)) hx hb hts in_X3_note_X3 hown w 0 0 rfl rfl (ci := 7) rfl 4 (by decide) (hts _ (List.mem_of_getElem? (i := 4) rfl)) rfl rfl rfl dX3_note_21 ?_
  refine lv_aload_n hx hb dX3_note_24 rfl (lv_at hl 0 rfl) ?_
  refine r_get (v' := .int ((upd (upd M (2 + x) kd) (22 + x) dy) 1)) hx hb hts in_X3_note_X3 hown w 0 0 rfl rfl (ci := 7) rfl 1 (by decide) (hts _ (List.mem_of_getElem? (i := 2) rfl)) rfl rfl rfl dX3_note_25 ?_
  refine r_eq (y := (nI x)) (by rw [updn (by omega), updn (by omega)]; exact h1) ?_
  refine lv_iload_n hx hb dX3_note_28 rfl (lv_at hl 3 rfl) ?_
  refine r_iast hx hb w 0 3 rfl rfl 0 rfl x (by omega) (Nat.le_of_ble_eq_true rfl) rfl (miB ty a (upd (upd (upd M (2 + x) kd) (22 + x) dy) (42 + x) v1)) (miB_st2 (by omega)) [miB ty a (upd (upd (upd M (2 + x) kd) (22 + x) dy) (42 + x) v1)] rfl dX3_note_29 (fun H locs w => ?_)
  refine lv_aload_n hx hb dX3_note_30 rfl (lv_at hl 0 rfl) ?_
  refine r_get (v' := .ref (a 24)) hx hb hts in_X3_note_X3 hown w 0 0 rfl rfl (ci := 7) rfl 5 (by decide) (hts _ (List.mem_of_getElem? (i := 5) rfl)) rfl rfl rfl dX3_note_31 ?_
  refine lv_aload_n hx hb dX3_note_34 rfl (lv_at hl 0 rfl) ?_
  refine r_get (v' := .int ((upd (upd (upd M (2 + x) kd) (22 + x) dy) (42 + x) v1) 1)) hx hb hts in_X3_note_X3 hown w 0 0 rfl rfl (ci := 7) rfl 1 (by decide) (hts _ (List.mem_of_getElem? (i := 2) rfl)) rfl rfl rfl dX3_note_35 ?_
  refine r_eq (y := (nI x)) (by rw [updn (by omega), updn (by omega), updn (by omega)]; exact h1) ?_
  refine lv_iload hx hb dX3_note_38 (lv_at hl 4 rfl) ?_
  refine r_iast hx hb w 0 4 rfl rfl 0 rfl x (by omega) (Nat.le_of_ble_eq_true rfl) rfl (miB ty a (upd (upd (upd (upd M (2 + x) kd) (22 + x) dy) (42 + x) v1) (62 + x) v2)) (miB_st3 (by omega)) [miB ty a (upd (upd (upd (upd M (2 + x) kd) (22 + x) dy) (42 + x) v1) (62 + x) v2)] rfl dX3_note_40 (fun H locs w => ?_)
  refine lv_aload_n hx hb dX3_note_41 rfl (lv_at hl 0 rfl) ?_
  refine lv_aload_n hx hb dX3_note_42 rfl (lv_at hl 0 rfl) ?_
  refine r_get (v' := .int ((upd (upd (upd (upd M (2 + x) kd) (22 + x) dy) (42 + x) v1) (62 + x) v2) 1)) hx hb hts in_X3_note_X3 hown w 0 0 rfl rfl (ci := 7) rfl 1 (by decide) (hts _ (List.mem_of_getElem? (i := 2) rfl)) rfl rfl rfl dX3_note_43 ?_
  refine r_eq (y := (nI x)) (by rw [updn (by omega), updn (by omega), updn (by omega), updn (by omega)]; exact h1) ?_
  refine lv_iconst (v := 1) hx hb dX3_note_46 (by decide) ?_
  refine lv_iadd hx hb dX3_note_47 ?_
  refine r_eq (y := (nI (x + 1))) (nI_add x 1) ?_
  refine lv_bipush (v := 20) hx hb dX3_note_48 (by decide) ?_
  refine lv_irem hx hb dX3_note_50 (by decide) ?_
  refine r_eq (y := (nI ((x + 1) % 20))) (pk_rem (a := x + 1) (d := 20) (by omega) (by omega) (by omega)) ?_
  refine r_put hx hb hts in_X3_note_X3 tyX3 tyX3_ok nmX3 hown w 0 0 rfl rfl (ci := 7) rfl 1 (by decide) (hts _ (List.mem_of_getElem? (i := 2) rfl)) rfl rfl (ty := .int) (by decide +kernel) rfl rfl (Nat.le_of_ble_eq_true rfl) (miB ty a (upd (upd (upd (upd (upd M (2 + x) kd) (22 + x) dy) (42 + x) v1) (62 + x) v2) 1 (nI ((x + 1) % 20)))) miB_f1 [miB ty a (upd (upd (upd (upd (upd M (2 + x) kd) (22 + x) dy) (42 + x) v1) (62 + x) v2) 1 (nI ((x + 1) % 20)))] rfl dX3_note_51 (fun H locs w => ?_)
  refine lv_aload_n hx hb dX3_note_54 rfl (lv_at hl 0 rfl) ?_
  refine lv_bipush (v := 20) hx hb dX3_note_55 (by decide) ?_
  refine lv_aload_n hx hb dX3_note_57 rfl (lv_at hl 0 rfl) ?_
  refine r_get (v' := .int ((upd (upd (upd (upd (upd M (2 + x) kd) (22 + x) dy) (42 + x) v1) (62 + x) v2) 1 (nI ((x + 1) % 20))) 0)) hx hb hts in_X3_note_X3 hown w 0 0 rfl rfl (ci := 7) rfl 0 (by decide) (hts _ (List.mem_of_getElem? (i := 6) rfl)) rfl rfl rfl dX3_note_58 ?_
  refine r_eq (y := (M 0)) (by rw [updn (by omega), updn (by omega), updn (by omega), updn (by omega), updn (by omega)]) ?_
  refine lv_iconst (v := 1) hx hb dX3_note_61 (by decide) ?_
  refine lv_iadd hx hb dX3_note_62 ?_
  refine va_mmin hx hb (hml.trans hl.1.symm) hown (hts _ (List.mem_of_getElem? (i := 7) rfl)) (hts _ (List.mem_of_getElem? (i := 8) rfl)) (hts _ (List.mem_of_getElem? (i := 9) rfl)) (hts _ (List.mem_of_getElem? (i := 10) rfl)) (Nat.le_of_ble_eq_true rfl) (Nat.le_of_ble_eq_true rfl) (Nat.zero_le _) (Nat.zero_le _) dX3_note_63 ?_
  refine r_eq (y := (jmin 20 ((M 0) + 1))) rfl ?_
  refine r_put hx hb hts in_X3_note_X3 tyX3 tyX3_ok nmX3 hown w 0 0 rfl rfl (ci := 7) rfl 0 (by decide) (hts _ (List.mem_of_getElem? (i := 6) rfl)) rfl rfl (ty := .int) (by decide +kernel) rfl rfl (Nat.le_of_ble_eq_true rfl) (miB ty a (mNote M kd dy v1 v2)) (by rw [mNote_x h1 hxx]; exact miB_f0) [miB ty a (mNote M kd dy v1 v2)] rfl dX3_note_66 (fun H locs w => ?_)
  exact e_v hx hb hr hlocks w dX3_note_69 (Nat.le_refl _) (Nat.le_refl _)

theorem in_X5_because_X5 : ∀ w ∈ wsX50, w ∈ wsX5_because := by decide +kernel
theorem hdN_X5_because : yX5_because.cls ≠ "java/lang/invoke/MethodHandle" ∧ yX5_because.cls ≠ "java/lang/invoke/VarHandle" ∧ (parseMethodDescriptor yX5_because.desc).map (fun d => d.parameters.length) = some 2 := by decide +kernel
set_option maxRecDepth 100000 in
set_option maxHeartbeats 4000000 in
theorem c_X5_because (l : Launch) (D : va_G) (ty : Nat → ClassId) (r : Nat) (f0 f1 f2 f3 v1 v2 : Int32)  : Mi l yX5_because wsX5_because (kR 0 0 0 0) D (kTY ty) [.ref r, .int v1, .int v2] [rfB r f0 f1 f2 f3] [rfB r v1 v2 f3 f3] 1 0 0 := by
  refine m_i (cc := cX5_because) (maxL := 3) (ret := (some .boolean)) (by decide +kernel) rfl (Nat.le_of_ble_eq_true rfl) ?_
  intro p e s m below meth c A ls hx hb hml hr hlocks hown hts w hl
  have hown : s.vm.findClass RX5 = some m.cls := hown
  have hl : lv_has ls 3 [(0, .ref r), (1, .int v1), (2, .int v2)] := hl
  refine lv_aload_n hx hb dX5_because_0 rfl (lv_at hl 0 rfl) ?_
  refine lv_iload_n hx hb dX5_because_1 rfl (lv_at hl 1 rfl) ?_
  refine r_put hx hb hts in_X5_because_X5 tyX5 tyX5_ok nmX5 hown w 0 0 rfl rfl (ci := 9) rfl 0 (by decide) (hts _ (List.mem_of_getElem? (i := 1) rfl)) rfl rfl (ty := .int) (by decide +kernel) rfl rfl (Nat.le_of_ble_eq_true rfl) (rfB r v1 f1 f2 f3) rfl [rfB r v1 f1 f2 f3] rfl dX5_because_2 (fun H locs w => ?_)
  refine lv_aload_n hx hb dX5_because_5 rfl (lv_at hl 0 rfl) ?_
  refine lv_iload_n hx hb dX5_because_6 rfl (lv_at hl 2 rfl) ?_
  refine r_put hx hb hts in_X5_because_X5 tyX5 tyX5_ok nmX5 hown w 0 0 rfl rfl (ci := 9) rfl 1 (by decide) (hts _ (List.mem_of_getElem? (i := 2) rfl)) rfl rfl (ty := .int) (by decide +kernel) rfl rfl (Nat.le_of_ble_eq_true rfl) (rfB r v1 v2 f2 f3) rfl [rfB r v1 v2 f2 f3] rfl dX5_because_7 (fun H locs w => ?_)
  refine lv_aload_n hx hb dX5_because_10 rfl (lv_at hl 0 rfl) ?_
  refine lv_aload_n hx hb dX5_because_11 rfl (lv_at hl 0 rfl) ?_
  refine r_get (v' := .int f3) hx hb hts in_X5_because_X5 hown w 0 0 rfl rfl (ci := 9) rfl 3 (by decide) (hts _ (List.mem_of_getElem? (i := 3) rfl)) rfl rfl rfl dX5_because_12 ?_
  refine r_put hx hb hts in_X5_because_X5 tyX5 tyX5_ok nmX5 hown w 0 0 rfl rfl (ci := 9) rfl 2 (by decide) (hts _ (List.mem_of_getElem? (i := 4) rfl)) rfl rfl (ty := .int) (by decide +kernel) rfl rfl (Nat.le_of_ble_eq_true rfl) (rfB r v1 v2 f3 f3) rfl [rfB r v1 v2 f3 f3] rfl dX5_because_15 (fun H locs w => ?_)
  refine lv_iconst (v := 1) hx hb dX5_because_18 (by decide) ?_
  exact e_z (ty := .boolean) hx hb hr rfl hlocks w rfl dX5_because_19 (Nat.le_refl _) (Nat.le_refl _)

theorem hdN_X8_isWithin : yX8_isWithin.cls ≠ "java/lang/invoke/MethodHandle" ∧ yX8_isWithin.cls ≠ "java/lang/invoke/VarHandle" ∧ (parseMethodDescriptor yX8_isWithin.desc).map (fun d => d.parameters.length) = some 3 := by decide +kernel
set_option maxRecDepth 100000 in
set_option maxHeartbeats 4000000 in
theorem c_X8_isWithin (l : Launch) (D : va_G) (ty : Nat → ClassId) (v lo hi : Int32)  : Mi l yX8_isWithin wsX8_isWithin (kR 0 0 0 0) D (kTY ty) [.int v, .int lo, .int hi] [] [] (bI (pIn v lo hi)) 0 0 := by
  refine m_i (cc := cX8_isWithin) (maxL := 3) (ret := (some .boolean)) (by decide +kernel) rfl (Nat.le_of_ble_eq_true rfl) ?_
  intro p e s m below meth c A ls hx hb hml hr hlocks hown hts w hl
  have hown : s.vm.findClass RX8 = some m.cls := hown
  have hl : lv_has ls 3 [(0, .int v), (1, .int lo), (2, .int hi)] := hl
  refine lv_iload_n hx hb dX8_isWithin_0 rfl (lv_at hl 0 rfl) ?_
  refine lv_iload_n hx hb dX8_isWithin_1 rfl (lv_at hl 1 rfl) ?_
  refine lv_icmp_lt (tgt := 14) hx hb dX8_isWithin_2 (by decide) (fun c2 => ?_) (fun c2 => ?_)
  · refine lv_iconst (v := 0) hx hb dX8_isWithin_14 (by decide) ?_
    exact e_z (ty := .boolean) hx hb hr rfl hlocks w (by first | exact pIn_t c2 c7 | exact pIn_f1 c2 | exact pIn_f2 c7) dX8_isWithin_15 (Nat.le_refl _) (Nat.le_refl _)
  · refine lv_iload_n hx hb dX8_isWithin_5 rfl (lv_at hl 0 rfl) ?_
    refine lv_iload_n hx hb dX8_isWithin_6 rfl (lv_at hl 2 rfl) ?_
    refine lv_icmp_gt (tgt := 14) hx hb dX8_isWithin_7 (by decide) (fun c7 => ?_) (fun c7 => ?_)
    · refine lv_iconst (v := 0) hx hb dX8_isWithin_14 (by decide) ?_
      exact e_z (ty := .boolean) hx hb hr rfl hlocks w (by first | exact pIn_t c2 c7 | exact pIn_f1 c2 | exact pIn_f2 c7) dX8_isWithin_15 (Nat.le_refl _) (Nat.le_refl _)
    · refine lv_iconst (v := 1) hx hb dX8_isWithin_10 (by decide) ?_
      refine lv_goto (tgt := 15) hx hb dX8_isWithin_11 (by decide) ?_
      exact e_z (ty := .boolean) hx hb hr rfl hlocks w (by first | exact pIn_t c2 c7 | exact pIn_f1 c2 | exact pIn_f2 c7) dX8_isWithin_15 (Nat.le_refl _) (Nat.le_refl _)
