theorem in_X9_sign_X9 : ∀ w ∈ wsX90, w ∈ wsX9_sign := by decide +kernel
theorem hdN_X9_sign : yX9_sign.cls ≠ "java/lang/invoke/MethodHandle" ∧ yX9_sign.cls ≠ "java/lang/invoke/VarHandle" ∧ (parseMethodDescriptor yX9_sign.desc).map (fun d => d.parameters.length) = some 0 := by decide +kernel
set_option maxRecDepth 100000 in
set_option maxHeartbeats 4000000 in
theorem c_X9_sign (l : Launch) (D : va_G) (ty : Nat → ClassId) (r : Nat → Nat) (F ch : pS) (z : Nat) (hz : z ≤ 60) (h18 : F 18 = nI z) (t : Nat) (ht : t ≤ z + 1) (w0 : Int32) (k : Nat)  : Mi l yX9_sign wsX9_sign (kR 0 0 0 0) D (kTY ty) [.ref (r 0)] [moB r (upd (upd (upd F 19 (nI t)) 20 w0) 21 (nI k)), arB ty (r 6) 60 ch] [moB r (upd (upd (upd F 19 (nI t)) 20 w0) 21 (nI k)), arB ty (r 6) 60 ch] (sg ch z t) 0 0 := by
  refine m_i (cc := cX9_sign) (maxL := 1) (ret := (some .int)) (by decide +kernel) rfl (Nat.le_of_ble_eq_true rfl) ?_
  intro p e s m below meth c A ls hx hb hml hr hlocks hown hts w hl
  have hown : s.vm.findClass RX9 = some m.cls := hown
  have hl : lv_has ls 1 [(0, .ref (r 0))] := hl
  refine lv_aload_n hx hb dX9_sign_0 rfl (lv_at hl 0 rfl) ?_
  refine r_get (v' := .int (nI t)) hx hb hts in_X9_sign_X9 hown w 0 0 rfl rfl (ci := 13) rfl 19 (by decide) (hts _ (List.mem_of_getElem? (i := 1) rfl)) rfl rfl rfl dX9_sign_1 ?_
  refine lv_aload_n hx hb dX9_sign_4 rfl (lv_at hl 0 rfl) ?_
  refine r_get (v' := .int (nI z)) hx hb hts in_X9_sign_X9 hown w 0 0 rfl rfl (ci := 13) rfl 18 (by decide) (hts _ (List.mem_of_getElem? (i := 2) rfl)) rfl rfl (congrArg Value.int h18) dX9_sign_5 ?_
  refine lv_icmp_ge (tgt := 23) hx hb dX9_sign_8 (by decide) (fun c8 => ?_) (fun c8 => ?_)
  · have c8 := (nI_leI (a := z) (b := t) (by omega) (by omega)).mp c8
    refine lv_iconst (v := (-1)) hx hb dX9_sign_23 (by decide) ?_
    exact e_i hx hb hr hlocks w (sg_f (by omega)) dX9_sign_24 (Nat.le_refl _) (Nat.le_refl _)
  · have c8 := mt (nI_leI (a := z) (b := t) (by omega) (by omega)).mpr c8
    refine lv_aload_n hx hb dX9_sign_11 rfl (lv_at hl 0 rfl) ?_
    refine r_get (v' := .ref (r 6)) hx hb hts in_X9_sign_X9 hown w 0 0 rfl rfl (ci := 13) rfl 11 (by decide) (hts _ (List.mem_of_getElem? (i := 3) rfl)) rfl rfl rfl dX9_sign_12 ?_
    refine lv_aload_n hx hb dX9_sign_15 rfl (lv_at hl 0 rfl) ?_
    refine r_get (v' := .int (nI t)) hx hb hts in_X9_sign_X9 hown w 0 0 rfl rfl (ci := 13) rfl 19 (by decide) (hts _ (List.mem_of_getElem? (i := 1) rfl)) rfl rfl rfl dX9_sign_16 ?_
    refine r_iald (v := (ch t)) hx hb w 1 0 rfl rfl 0 rfl t (by omega) (by omega) rfl rfl dX9_sign_19 ?_
    refine lv_goto (tgt := 24) hx hb dX9_sign_20 (by decide) ?_
    exact e_i hx hb hr hlocks w (sg_t (by omega)) dX9_sign_24 (Nat.le_refl _) (Nat.le_refl _)

theorem in_X9_reads_X9 : ∀ w ∈ wsX90, w ∈ wsX9_reads := by decide +kernel
theorem hdN_X9_reads : yX9_reads.cls ≠ "java/lang/invoke/MethodHandle" ∧ yX9_reads.cls ≠ "java/lang/invoke/VarHandle" ∧ (parseMethodDescriptor yX9_reads.desc).map (fun d => d.parameters.length) = some 2 := by decide +kernel
set_option maxRecDepth 100000 in
set_option maxHeartbeats 4000000 in
theorem c_X9_reads (l : Launch) (D : va_G) (ty : Nat → ClassId) (r : Nat → Nat) (F ch : pS) (z : Nat) (hz : z ≤ 60) (h18 : F 18 = nI z) (t : Nat) (ht : t ≤ z + 1) (w0 : Int32) (k : Nat) (lo hi : Int32) (hlo : 0 ≤ lo)  : Mi l yX9_reads wsX9_reads (kR 1 22 0 0) D (kTY ty) [.ref (r 0), .int lo, .int hi] [moB r (upd (upd (upd F 19 (nI t)) 20 w0) 21 (nI k)), arB ty (r 6) 60 ch] [moB r (upd (upd (upd F 19 (nI ((rd ch z lo hi t w0).2.1))) 20 ((rd ch z lo hi t w0).2.2)) 21 (nI k)), arB ty (r 6) 60 ch] ((rd ch z lo hi t w0).1) 0 0 := by
  refine m_i (cc := cX9_reads) (maxL := 3) (ret := (some .int)) (by decide +kernel) rfl (Nat.le_of_ble_eq_true rfl) ?_
  intro p e s m below meth c A ls hx hb hml hr hlocks hown hts w hl
  have hown : s.vm.findClass RX9 = some m.cls := hown
  have hl : lv_has ls 3 [(0, .ref (r 0)), (1, .int lo), (2, .int hi)] := hl
  refine lv_aload_n hx hb dX9_reads_0 rfl (lv_at hl 0 rfl) ?_
  refine r_get (v' := .int w0) hx hb hts in_X9_reads_X9 hown w 0 0 rfl rfl (ci := 13) rfl 20 (by decide) (hts _ (List.mem_of_getElem? (i := 1) rfl)) rfl rfl rfl dX9_reads_1 ?_
  refine lv_iconst (v := (-1)) hx hb dX9_reads_4 (by decide) ?_
  refine lv_icmp_ne (tgt := 45) hx hb dX9_reads_5 (by decide) (fun c5 => ?_) (fun c5 => ?_)
  · refine lv_aload_n hx hb dX9_reads_45 rfl (lv_at hl 0 rfl) ?_
    refine lv_aload_n hx hb dX9_reads_46 rfl (lv_at hl 0 rfl) ?_
    refine r_get (v' := .int w0) hx hb hts in_X9_reads_X9 hown w 0 0 rfl rfl (ci := 13) rfl 20 (by decide) (hts _ (List.mem_of_getElem? (i := 1) rfl)) rfl rfl rfl dX9_reads_47 ?_
    refine lv_iconst (v := (-1)) hx hb dX9_reads_50 (by decide) ?_
    refine lv_icmp_ne (tgt := 61) hx hb dX9_reads_51 (by decide) (fun c51 => ?_) (fun c51 => ?_)
    · refine lv_aload_n hx hb dX9_reads_61 rfl (lv_at hl 0 rfl) ?_
      refine r_get (v' := .int w0) hx hb hts in_X9_reads_X9 hown w 0 0 rfl rfl (ci := 13) rfl 20 (by decide) (hts _ (List.mem_of_getElem? (i := 1) rfl)) rfl rfl rfl dX9_reads_62 ?_
      refine r_put hx hb hts in_X9_reads_X9 tyX9 tyX9_ok nmX9 hown w 0 0 rfl rfl (ci := 13) rfl 20 (by decide) (hts _ (List.mem_of_getElem? (i := 1) rfl)) rfl rfl (ty := .int) (by decide +kernel) rfl rfl (Nat.le_of_ble_eq_true rfl) (moB r (upd (upd (upd F 19 (nI t)) 20 w0) 21 (nI k))) rfl [moB r (upd (upd (upd F 19 (nI t)) 20 w0) 21 (nI k)), arB ty (r 6) 60 ch] rfl dX9_reads_65 (fun H locs w => ?_)
      refine lv_iconst (v := 0) hx hb dX9_reads_68 (by decide) ?_
      exact e_i hx hb hr hlocks (w.cast (by rw [rd_n1 c5])) (by rw [rd_n1 c5]) dX9_reads_69 (Nat.le_refl _) (Nat.le_refl _)
    · exact absurd c51 c5
  · refine lv_aload_n hx hb dX9_reads_8 rfl (lv_at hl 0 rfl) ?_
    refine k_iV (As := []) (rest := []) (Rs := []) (Bs' := [moB r (upd (upd (upd F 19 (nI t)) 20 w0) 21 (nI k)), arB ty (r 6) 60 ch]) ⟨hx, hb, hml, hown, hts⟩ w (c_X9_sign l D ty r F ch z hz h18 t (by omega) w0 k) (cwV 0 hts gX9_reads_X9_sign rfl rfl rfl ⟨rfl, hdN_X9_sign⟩ ⟨Nat.le_of_ble_eq_true rfl, Nat.le_of_ble_eq_true rfl⟩) [0, 1] (nB := 2) (by decide) rfl rfl rfl rfl 0 rfl rfl (ci := 13) rfl rfl rfl hl.1 rfl (Nat.le_of_ble_eq_true rfl) dX9_reads_9 ⟨(Nat.zero_le _), (Nat.zero_le _)⟩ (fun H locs w => ?_)
    refine lv_iload_n hx hb dX9_reads_12 rfl (lv_at hl 1 rfl) ?_
    refine lv_iload_n hx hb dX9_reads_13 rfl (lv_at hl 2 rfl) ?_
    refine k_iS (As := [.int (sg ch z t), .int lo, .int hi]) (rest := []) (Rs := [moB r (upd (upd (upd F 19 (nI t)) 20 w0) 21 (nI k)), arB ty (r 6) 60 ch]) (Bs' := [moB r (upd (upd (upd F 19 (nI t)) 20 w0) 21 (nI k)), arB ty (r 6) 60 ch]) ⟨hx, hb, hml, hown, hts⟩ w (c_X9_isIn l D ty (sg ch z t) lo hi) (va_cwS 3 hts gX9_reads_X9_isIn rfl rfl rfl hdN_X9_isIn ⟨Nat.le_of_ble_eq_true rfl, Nat.le_of_ble_eq_true rfl⟩) [0, 1] (nB := 2) (by decide) rfl rfl rfl rfl rfl hl.1 rfl (Nat.le_of_ble_eq_true rfl) dX9_reads_14 ⟨(Nat.zero_le _), (Nat.zero_le _)⟩ (fun H locs w => ?_)
    refine lv_if_eq (tgt := 45) hx hb dX9_reads_17 (by decide) (fun c17 => ?_) (fun c17 => ?_)
    · have c17 := bI_0.mp c17
      refine lv_aload_n hx hb dX9_reads_45 rfl (lv_at hl 0 rfl) ?_
      refine lv_aload_n hx hb dX9_reads_46 rfl (lv_at hl 0 rfl) ?_
      refine r_get (v' := .int w0) hx hb hts in_X9_reads_X9 hown w 0 0 rfl rfl (ci := 13) rfl 20 (by decide) (hts _ (List.mem_of_getElem? (i := 1) rfl)) rfl rfl rfl dX9_reads_47 ?_
      refine lv_iconst (v := (-1)) hx hb dX9_reads_50 (by decide) ?_
      refine lv_icmp_ne (tgt := 61) hx hb dX9_reads_51 (by decide) (fun c51 => ?_) (fun c51 => ?_)
      · exact absurd c5 c51
      · refine lv_aload_n hx hb dX9_reads_54 rfl (lv_at hl 0 rfl) ?_
        refine r_get (v' := .int (nI t)) hx hb hts in_X9_reads_X9 hown w 0 0 rfl rfl (ci := 13) rfl 19 (by decide) (hts _ (List.mem_of_getElem? (i := 2) rfl)) rfl rfl rfl dX9_reads_55 ?_
        refine lv_goto (tgt := 65) hx hb dX9_reads_58 (by decide) ?_
        refine r_put hx hb hts in_X9_reads_X9 tyX9 tyX9_ok nmX9 hown w 0 0 rfl rfl (ci := 13) rfl 20 (by decide) (hts _ (List.mem_of_getElem? (i := 1) rfl)) rfl rfl (ty := .int) (by decide +kernel) rfl rfl (Nat.le_of_ble_eq_true rfl) (moB r (upd (upd (upd F 19 (nI t)) 20 (nI t)) 21 (nI k))) rfl [moB r (upd (upd (upd F 19 (nI t)) 20 (nI t)) 21 (nI k)), arB ty (r 6) 60 ch] rfl dX9_reads_65 (fun H locs w => ?_)
        refine lv_iconst (v := 0) hx hb dX9_reads_68 (by decide) ?_
        exact e_i hx hb hr hlocks (w.cast (by rw [rd_n2 c5 c17])) (by rw [rd_n2 c5 c17]) dX9_reads_69 (Nat.le_refl _) (Nat.le_refl _)
    · have c17 := bI_1.mp c17
      have htz := sg_in hlo c17
      refine lv_aload_n hx hb dX9_reads_20 rfl (lv_at hl 0 rfl) ?_
      refine lv_dup hx hb dX9_reads_21 rfl ?_
      refine r_get (v' := .int (nI t)) hx hb hts in_X9_reads_X9 hown w 0 0 rfl rfl (ci := 13) rfl 19 (by decide) (hts _ (List.mem_of_getElem? (i := 2) rfl)) rfl rfl rfl dX9_reads_22 ?_
      refine lv_iconst (v := 1) hx hb dX9_reads_25 (by decide) ?_
      refine lv_iadd hx hb dX9_reads_26 ?_
      refine r_eq (y := (nI (t + 1))) (nI_add t 1) ?_
      refine r_put hx hb hts in_X9_reads_X9 tyX9 tyX9_ok nmX9 hown w 0 0 rfl rfl (ci := 13) rfl 19 (by decide) (hts _ (List.mem_of_getElem? (i := 2) rfl)) rfl rfl (ty := .int) (by decide +kernel) rfl rfl (Nat.le_of_ble_eq_true rfl) (moB r (upd (upd (upd F 19 (nI (t + 1))) 20 w0) 21 (nI k))) rfl [moB r (upd (upd (upd F 19 (nI (t + 1))) 20 w0) 21 (nI k)), arB ty (r 6) 60 ch] rfl dX9_reads_27 (fun H locs w => ?_)
      refine lv_aload_n hx hb dX9_reads_30 rfl (lv_at hl 0 rfl) ?_
      refine r_get (v' := .ref (r 6)) hx hb hts in_X9_reads_X9 hown w 0 0 rfl rfl (ci := 13) rfl 11 (by decide) (hts _ (List.mem_of_getElem? (i := 3) rfl)) rfl rfl rfl dX9_reads_31 ?_
      refine lv_aload_n hx hb dX9_reads_34 rfl (lv_at hl 0 rfl) ?_
      refine r_get (v' := .int (nI (t + 1))) hx hb hts in_X9_reads_X9 hown w 0 0 rfl rfl (ci := 13) rfl 19 (by decide) (hts _ (List.mem_of_getElem? (i := 2) rfl)) rfl rfl rfl dX9_reads_35 ?_
      refine lv_iconst (v := 1) hx hb dX9_reads_38 (by decide) ?_
      refine lv_isub hx hb dX9_reads_39 ?_
      refine r_eq (y := (nI ((t + 1) - 1))) (pk_sub (a := (t + 1)) (b := 1) (by omega)) ?_
      refine r_iald (v := (ch ((t + 1) - 1))) hx hb w 1 0 rfl rfl 0 rfl ((t + 1) - 1) (by omega) (by omega) rfl rfl dX9_reads_40 ?_
      refine r_eq (y := (ch t)) rfl ?_
      refine lv_bipush (v := 48) hx hb dX9_reads_41 (by decide) ?_
      refine lv_isub hx hb dX9_reads_43 ?_
      exact e_i hx hb hr hlocks (w.cast (by rw [rd_y c5 c17])) (by rw [rd_y c5 c17]) dX9_reads_44 (Nat.le_refl _) (Nat.le_refl _)

theorem in_X9_number_X9 : ∀ w ∈ wsX90, w ∈ wsX9_number := by decide +kernel
theorem hdN_X9_number : yX9_number.cls ≠ "java/lang/invoke/MethodHandle" ∧ yX9_number.cls ≠ "java/lang/invoke/VarHandle" ∧ (parseMethodDescriptor yX9_number.desc).map (fun d => d.parameters.length) = some 0 := by decide +kernel
set_option maxRecDepth 100000 in
set_option maxHeartbeats 4000000 in
theorem c_X9_number (l : Launch) (D : va_G) (ty : Nat → ClassId) (r : Nat → Nat) (F ch : pS) (z : Nat) (hz : z ≤ 60) (h18 : F 18 = nI z) (t : Nat) (ht : t ≤ z) (w0 : Int32) (k : Nat)  : Mi l yX9_number wsX9_number (kR 2 44 0 0) D (kTY ty) [.ref (r 0)] [moB r (upd (upd (upd F 19 (nI t)) 20 w0) 21 (nI k)), arB ty (r 6) 60 ch] [moB r (upd (upd (upd F 19 (nI ((nuS ch z t w0).2.1))) 20 ((nuS ch z t w0).2.2)) 21 (nI k)), arB ty (r 6) 60 ch] ((nuS ch z t w0).1) 0 0 := by
  refine m_i (cc := cX9_number) (maxL := 2) (ret := (some .int)) (by decide +kernel) rfl (Nat.le_of_ble_eq_true rfl) ?_
  intro p e s m below meth c A ls hx hb hml hr hlocks hown hts w hl
  have hown : s.vm.findClass RX9 = some m.cls := hown
  have hl : lv_has ls 2 [(0, .ref (r 0))] := hl
  have ha := rd_le (ch := ch) (w := w0) (lo := 48) (hi := 57) (by decide) ht
  refine lv_aload_n hx hb dX9_number_0 rfl (lv_at hl 0 rfl) ?_
  refine lv_bipush (v := 48) hx hb dX9_number_1 (by decide) ?_
  refine lv_bipush (v := 57) hx hb dX9_number_3 (by decide) ?_
  refine k_iV (As := [.int 48, .int 57]) (rest := []) (Rs := []) (Bs' := [moB r (upd (upd (upd F 19 (nI ((rd ch z 48 57 t w0).2.1))) 20 ((rd ch z 48 57 t w0).2.2)) 21 (nI k)), arB ty (r 6) 60 ch]) ⟨hx, hb, hml, hown, hts⟩ w (c_X9_reads l D ty r F ch z hz h18 t (by omega) w0 k 48 57 (by decide)) (cwV 2 hts gX9_number_X9_reads rfl rfl rfl ⟨rfl, hdN_X9_reads⟩ ⟨Nat.le_of_ble_eq_true rfl, Nat.le_of_ble_eq_true rfl⟩) [0, 1] (nB := 2) (by decide) rfl rfl rfl rfl 0 rfl rfl (ci := 13) rfl rfl rfl hl.1 rfl (Nat.le_of_ble_eq_true rfl) dX9_number_5 ⟨(Nat.zero_le _), (Nat.zero_le _)⟩ (fun H locs w => ?_)
  refine lv_istore_n (lv' := [(1, .int ((rd ch z 48 57 t w0).1)), (0, .ref (r 0))]) hx hb dX9_number_8 rfl hl (by decide) rfl (fun ls hl => ?_)
  refine lv_aload_n hx hb dX9_number_9 rfl (lv_at hl 1 rfl) ?_
  refine r_get (v' := .int ((rd ch z 48 57 t w0).2.2)) hx hb hts in_X9_number_X9 hown w 0 0 rfl rfl (ci := 13) rfl 20 (by decide) (hts _ (List.mem_of_getElem? (i := 1) rfl)) rfl rfl rfl dX9_number_10 ?_
  refine lv_iconst (v := (-1)) hx hb dX9_number_13 (by decide) ?_
  refine lv_icmp_ne (tgt := 47) hx hb dX9_number_14 (by decide) (fun c14 => ?_) (fun c14 => ?_)
  · refine lv_iload_n hx hb dX9_number_47 rfl (lv_at hl 0 rfl) ?_
    exact e_i hx hb hr hlocks (w.cast (by rw [nu_1 c14])) (by rw [nu_1 c14]) dX9_number_48 (Nat.le_refl _) (Nat.le_refl _)
  · refine lv_aload_n hx hb dX9_number_17 rfl (lv_at hl 1 rfl) ?_
    refine k_iV (As := []) (rest := []) (Rs := []) (Bs' := [moB r (upd (upd (upd F 19 (nI ((rd ch z 48 57 t w0).2.1))) 20 ((rd ch z 48 57 t w0).2.2)) 21 (nI k)), arB ty (r 6) 60 ch]) ⟨hx, hb, hml, hown, hts⟩ w (c_X9_sign l D ty r F ch z hz h18 ((rd ch z 48 57 t w0).2.1) (by omega) ((rd ch z 48 57 t w0).2.2) k) (cwV 0 hts gX9_number_X9_sign rfl rfl rfl ⟨rfl, hdN_X9_sign⟩ ⟨Nat.le_of_ble_eq_true rfl, Nat.le_of_ble_eq_true rfl⟩) [0, 1] (nB := 2) (by decide) rfl rfl rfl rfl 0 rfl rfl (ci := 13) rfl rfl rfl hl.1 rfl (Nat.le_of_ble_eq_true rfl) dX9_number_18 ⟨(Nat.zero_le _), (Nat.zero_le _)⟩ (fun H locs w => ?_)
    refine lv_bipush (v := 48) hx hb dX9_number_21 (by decide) ?_
    refine lv_bipush (v := 57) hx hb dX9_number_23 (by decide) ?_
    refine k_iS (As := [.int (sg ch z ((rd ch z 48 57 t w0).2.1)), .int 48, .int 57]) (rest := []) (Rs := [moB r (upd (upd (upd F 19 (nI ((rd ch z 48 57 t w0).2.1))) 20 ((rd ch z 48 57 t w0).2.2)) 21 (nI k)), arB ty (r 6) 60 ch]) (Bs' := [moB r (upd (upd (upd F 19 (nI ((rd ch z 48 57 t w0).2.1))) 20 ((rd ch z 48 57 t w0).2.2)) 21 (nI k)), arB ty (r 6) 60 ch]) ⟨hx, hb, hml, hown, hts⟩ w (c_X9_isIn l D ty (sg ch z ((rd ch z 48 57 t w0).2.1)) 48 57) (va_cwS 3 hts gX9_number_X9_isIn rfl rfl rfl hdN_X9_isIn ⟨Nat.le_of_ble_eq_true rfl, Nat.le_of_ble_eq_true rfl⟩) [0, 1] (nB := 2) (by decide) rfl rfl rfl rfl rfl hl.1 rfl (Nat.le_of_ble_eq_true rfl) dX9_number_25 ⟨(Nat.zero_le _), (Nat.zero_le _)⟩ (fun H locs w => ?_)
    refine lv_if_eq (tgt := 47) hx hb dX9_number_28 (by decide) (fun c28 => ?_) (fun c28 => ?_)
    · have c28 := bI_0.mp c28
      refine lv_iload_n hx hb dX9_number_47 rfl (lv_at hl 0 rfl) ?_
      exact e_i hx hb hr hlocks (w.cast (by rw [nu_2 c28])) (by rw [nu_2 c28]) dX9_number_48 (Nat.le_refl _) (Nat.le_refl _)
    · have c28 := bI_1.mp c28
      refine lv_bipush (v := 10) hx hb dX9_number_31 (by decide) ?_
      refine lv_iload_n hx hb dX9_number_33 rfl (lv_at hl 0 rfl) ?_
      refine lv_imul hx hb dX9_number_34 ?_
      refine lv_aload_n hx hb dX9_number_35 rfl (lv_at hl 1 rfl) ?_
      refine lv_bipush (v := 48) hx hb dX9_number_36 (by decide) ?_
      refine lv_bipush (v := 57) hx hb dX9_number_38 (by decide) ?_
      refine k_iV (As := [.int 48, .int 57]) (rest := [.int (10 * ((rd ch z 48 57 t w0).1))]) (Rs := []) (Bs' := [moB r (upd (upd (upd F 19 (nI ((rd ch z 48 57 ((rd ch z 48 57 t w0).2.1) ((rd ch z 48 57 t w0).2.2)).2.1))) 20 ((rd ch z 48 57 ((rd ch z 48 57 t w0).2.1) ((rd ch z 48 57 t w0).2.2)).2.2)) 21 (nI k)), arB ty (r 6) 60 ch]) ⟨hx, hb, hml, hown, hts⟩ w (c_X9_reads l D ty r F ch z hz h18 ((rd ch z 48 57 t w0).2.1) (by omega) ((rd ch z 48 57 t w0).2.2) k 48 57 (by decide)) (cwV 2 hts gX9_number_X9_reads rfl rfl rfl ⟨rfl, hdN_X9_reads⟩ ⟨Nat.le_of_ble_eq_true rfl, Nat.le_of_ble_eq_true rfl⟩) [0, 1] (nB := 2) (by decide) rfl rfl rfl rfl 0 rfl rfl (ci := 13) rfl rfl rfl hl.1 rfl (Nat.le_of_ble_eq_true rfl) dX9_number_40 ⟨(Nat.zero_le _), (Nat.zero_le _)⟩ (fun H locs w => ?_)
      refine lv_iadd hx hb dX9_number_43 ?_
      refine lv_goto (tgt := 48) hx hb dX9_number_44 (by decide) ?_
      exact e_i hx hb hr hlocks (w.cast (by rw [nu_y c14 c28])) (by rw [nu_y c14 c28]) dX9_number_48 (Nat.le_refl _) (Nat.le_refl _)

theorem in_X9_readsCommand_X9 : ∀ w ∈ wsX90, w ∈ wsX9_readsCommand := by decide +kernel
theorem hdN_X9_readsCommand : yX9_readsCommand.cls ≠ "java/lang/invoke/MethodHandle" ∧ yX9_readsCommand.cls ≠ "java/lang/invoke/VarHandle" ∧ (parseMethodDescriptor yX9_readsCommand.desc).map (fun d => d.parameters.length) = some 0 := by decide +kernel
set_option maxRecDepth 100000 in
set_option maxHeartbeats 4000000 in
theorem c_X9_readsCommand (l : Launch) (D : va_G) (ty : Nat → ClassId) (r : Nat → Nat) (F ch : pS) (z : Nat) (hz : z ≤ 60) (h18 : F 18 = nI z) (t : Nat) (ht : t ≤ z) (k : Nat) (hk : k < 40) (K U : pS)  : Mv l yX9_readsCommand wsX9_readsCommand (kR 3 65 0 0) D (kTY ty) [.ref (r 0)] [moB r (upd (upd (upd F 19 (nI t)) 20 (-1)) 21 (nI k)), arB ty (r 6) 60 ch, arB ty (r 8) 40 K, arB ty (r 9) 40 U] [moB r (upd (upd (upd F 19 (nI ((rcS ch z t).2.1))) 20 ((rcS ch z t).2.2)) 21 (nI (k + 1))), arB ty (r 6) 60 ch, arB ty (r 8) 40 (upd K k (sg ch z t)), arB ty (r 9) 40 (upd U k (rcS ch z t).1)] 0 0 := by
  refine m_v (cc := cX9_readsCommand) (maxL := 2) (ret := none) (by decide +kernel) rfl (Nat.le_of_ble_eq_true rfl) ?_
  intro p e s m below meth c A ls hx hb hml hr hlocks hown hts w hl
  have hown : s.vm.findClass RX9 = some m.cls := hown
  have hl : lv_has ls 2 [(0, .ref (r 0))] := hl
  refine lv_aload_n hx hb dX9_readsCommand_0 rfl (lv_at hl 0 rfl) ?_
  refine k_iV (As := []) (rest := []) (Rs := [arB ty (r 8) 40 K, arB ty (r 9) 40 U]) (Bs' := [moB r (upd (upd (upd F 19 (nI t)) 20 (-1)) 21 (nI k)), arB ty (r 6) 60 ch, arB ty (r 8) 40 K, arB ty (r 9) 40 U]) ⟨hx, hb, hml, hown, hts⟩ w (c_X9_sign l D ty r F ch z hz h18 t (by omega) (-1) k) (cwV 0 hts gX9_readsCommand_X9_sign rfl rfl rfl ⟨rfl, hdN_X9_sign⟩ ⟨Nat.le_of_ble_eq_true rfl, Nat.le_of_ble_eq_true rfl⟩) [0, 1, 2, 3] (nB := 4) (by decide) rfl rfl rfl rfl 0 rfl rfl (ci := 13) rfl rfl rfl hl.1 rfl (Nat.le_of_ble_eq_true rfl) dX9_readsCommand_1 ⟨(Nat.zero_le _), (Nat.zero_le _)⟩ (fun H locs w => ?_)
  refine lv_istore_n (lv' := [(1, .int (sg ch z t)), (0, .ref (r 0))]) hx hb dX9_readsCommand_4 rfl hl (by decide) rfl (fun ls hl => ?_)
  refine lv_aload_n hx hb dX9_readsCommand_5 rfl (lv_at hl 1 rfl) ?_
  refine r_get (v' := .ref (r 8)) hx hb hts in_X9_readsCommand_X9 hown w 0 0 rfl rfl (ci := 13) rfl 22 (by decide) (hts _ (List.mem_of_getElem? (i := 1) rfl)) rfl rfl rfl dX9_readsCommand_6 ?_
  refine lv_aload_n hx hb dX9_readsCommand_9 rfl (lv_at hl 1 rfl) ?_
  refine r_get (v' := .int (nI k)) hx hb hts in_X9_readsCommand_X9 hown w 0 0 rfl rfl (ci := 13) rfl 21 (by decide) (hts _ (List.mem_of_getElem? (i := 2) rfl)) rfl rfl rfl dX9_readsCommand_10 ?_
  refine lv_iload_n hx hb dX9_readsCommand_13 rfl (lv_at hl 0 rfl) ?_
  refine r_iast hx hb w 2 0 rfl rfl 0 rfl k (by omega) (by omega) rfl (arB ty (r 8) 40 (upd K k (sg ch z t))) rfl [moB r (upd (upd (upd F 19 (nI t)) 20 (-1)) 21 (nI k)), arB ty (r 6) 60 ch, arB ty (r 8) 40 (upd K k (sg ch z t)), arB ty (r 9) 40 U] rfl dX9_readsCommand_14 (fun H locs w => ?_)
  refine lv_aload_n hx hb dX9_readsCommand_15 rfl (lv_at hl 1 rfl) ?_
  refine r_get (v' := .ref (r 9)) hx hb hts in_X9_readsCommand_X9 hown w 0 0 rfl rfl (ci := 13) rfl 23 (by decide) (hts _ (List.mem_of_getElem? (i := 3) rfl)) rfl rfl rfl dX9_readsCommand_16 ?_
  refine lv_aload_n hx hb dX9_readsCommand_19 rfl (lv_at hl 1 rfl) ?_
  refine r_get (v' := .int (nI k)) hx hb hts in_X9_readsCommand_X9 hown w 0 0 rfl rfl (ci := 13) rfl 21 (by decide) (hts _ (List.mem_of_getElem? (i := 2) rfl)) rfl rfl rfl dX9_readsCommand_20 ?_
  refine lv_iconst (v := 0) hx hb dX9_readsCommand_23 (by decide) ?_
  refine r_iast hx hb w 3 0 rfl rfl 0 rfl k (by omega) (by omega) rfl (arB ty (r 9) 40 (upd U k 0)) rfl [moB r (upd (upd (upd F 19 (nI t)) 20 (-1)) 21 (nI k)), arB ty (r 6) 60 ch, arB ty (r 8) 40 (upd K k (sg ch z t)), arB ty (r 9) 40 (upd U k 0)] rfl dX9_readsCommand_24 (fun H locs w => ?_)
  refine lv_aload_n hx hb dX9_readsCommand_25 rfl (lv_at hl 1 rfl) ?_
  refine lv_dup hx hb dX9_readsCommand_26 rfl ?_
  refine r_get (v' := .int (nI t)) hx hb hts in_X9_readsCommand_X9 hown w 0 0 rfl rfl (ci := 13) rfl 19 (by decide) (hts _ (List.mem_of_getElem? (i := 4) rfl)) rfl rfl rfl dX9_readsCommand_27 ?_
  refine lv_iconst (v := 1) hx hb dX9_readsCommand_30 (by decide) ?_
  refine lv_iadd hx hb dX9_readsCommand_31 ?_
  refine r_eq (y := (nI (t + 1))) (nI_add t 1) ?_
  refine r_put hx hb hts in_X9_readsCommand_X9 tyX9 tyX9_ok nmX9 hown w 0 0 rfl rfl (ci := 13) rfl 19 (by decide) (hts _ (List.mem_of_getElem? (i := 4) rfl)) rfl rfl (ty := .int) (by decide +kernel) rfl rfl (Nat.le_of_ble_eq_true rfl) (moB r (upd (upd (upd F 19 (nI (t + 1))) 20 (-1)) 21 (nI k))) rfl [moB r (upd (upd (upd F 19 (nI (t + 1))) 20 (-1)) 21 (nI k)), arB ty (r 6) 60 ch, arB ty (r 8) 40 (upd K k (sg ch z t)), arB ty (r 9) 40 (upd U k 0)] rfl dX9_readsCommand_32 (fun H locs w => ?_)
  refine k_cut (fun H locs ls => (kW D (kTY ty) A s.heap s H locs [moB r (upd (upd (upd F 19 (nI (t + 1))) 20 (-1)) 21 (nI k)), arB ty (r 6) 60 ch, arB ty (r 8) 40 (upd K k (sg ch z t)), arB ty (r 9) 40 (upd U k 0)] ∧ lv_has ls 2 [(1, .int (sg ch z t)), (0, .ref (r 0))]) ∧ pLet (sg ch z t) = -1) (pc' := 167) (st' := []) ?_ ?_
  · intro H locs ls hI
    obtain ⟨⟨w, hl⟩, hpl⟩ := hI
    refine lv_aload_n hx hb dX9_readsCommand_167 rfl (lv_at hl 1 rfl) ?_
    refine lv_dup hx hb dX9_readsCommand_168 rfl ?_
    refine r_get (v' := .int (nI (t + 1))) hx hb hts in_X9_readsCommand_X9 hown w 0 0 rfl rfl (ci := 13) rfl 19 (by decide) (hts _ (List.mem_of_getElem? (i := 4) rfl)) rfl rfl rfl dX9_readsCommand_169 ?_
    refine lv_iconst (v := 1) hx hb dX9_readsCommand_172 (by decide) ?_
    refine lv_isub hx hb dX9_readsCommand_173 ?_
    refine r_eq (y := (nI ((t + 1) - 1))) (pk_sub (a := (t + 1)) (b := 1) (by omega)) ?_
    refine r_put hx hb hts in_X9_readsCommand_X9 tyX9 tyX9_ok nmX9 hown w 0 0 rfl rfl (ci := 13) rfl 19 (by decide) (hts _ (List.mem_of_getElem? (i := 4) rfl)) rfl rfl (ty := .int) (by decide +kernel) rfl rfl (Nat.le_of_ble_eq_true rfl) (moB r (upd (upd (upd F 19 (nI ((t + 1) - 1))) 20 (-1)) 21 (nI k))) rfl [moB r (upd (upd (upd F 19 (nI ((t + 1) - 1))) 20 (-1)) 21 (nI k)), arB ty (r 6) 60 ch, arB ty (r 8) 40 (upd K k (sg ch z t)), arB ty (r 9) 40 (upd U k 0)] rfl dX9_readsCommand_174 (fun H locs w => ?_)
    refine lv_aload_n hx hb dX9_readsCommand_177 rfl (lv_at hl 1 rfl) ?_
    refine lv_aload_n hx hb dX9_readsCommand_178 rfl (lv_at hl 1 rfl) ?_
    refine r_get (v' := .int (-1)) hx hb hts in_X9_readsCommand_X9 hown w 0 0 rfl rfl (ci := 13) rfl 20 (by decide) (hts _ (List.mem_of_getElem? (i := 5) rfl)) rfl rfl rfl dX9_readsCommand_179 ?_
    refine lv_iconst (v := (-1)) hx hb dX9_readsCommand_182 (by decide) ?_
    refine lv_icmp_ne (tgt := 193) hx hb dX9_readsCommand_183 (by decide) (fun c183 => ?_) (fun c183 => ?_)
    · exact absurd rfl c183
    · refine lv_aload_n hx hb dX9_readsCommand_186 rfl (lv_at hl 1 rfl) ?_
      refine r_get (v' := .int (nI ((t + 1) - 1))) hx hb hts in_X9_readsCommand_X9 hown w 0 0 rfl rfl (ci := 13) rfl 19 (by decide) (hts _ (List.mem_of_getElem? (i := 4) rfl)) rfl rfl rfl dX9_readsCommand_187 ?_
      refine lv_goto (tgt := 197) hx hb dX9_readsCommand_190 (by decide) ?_
      refine r_put hx hb hts in_X9_readsCommand_X9 tyX9 tyX9_ok nmX9 hown w 0 0 rfl rfl (ci := 13) rfl 20 (by decide) (hts _ (List.mem_of_getElem? (i := 5) rfl)) rfl rfl (ty := .int) (by decide +kernel) rfl rfl (Nat.le_of_ble_eq_true rfl) (moB r (upd (upd (upd F 19 (nI ((t + 1) - 1))) 20 (nI ((t + 1) - 1))) 21 (nI k))) rfl [moB r (upd (upd (upd F 19 (nI ((t + 1) - 1))) 20 (nI ((t + 1) - 1))) 21 (nI k)), arB ty (r 6) 60 ch, arB ty (r 8) 40 (upd K k (sg ch z t)), arB ty (r 9) 40 (upd U k 0)] rfl dX9_readsCommand_197 (fun H locs w => ?_)
      refine lv_aload_n hx hb dX9_readsCommand_200 rfl (lv_at hl 1 rfl) ?_
      refine lv_dup hx hb dX9_readsCommand_201 rfl ?_
      refine r_get (v' := .int (nI k)) hx hb hts in_X9_readsCommand_X9 hown w 0 0 rfl rfl (ci := 13) rfl 21 (by decide) (hts _ (List.mem_of_getElem? (i := 2) rfl)) rfl rfl rfl dX9_readsCommand_202 ?_
      refine lv_iconst (v := 1) hx hb dX9_readsCommand_205 (by decide) ?_
      refine lv_iadd hx hb dX9_readsCommand_206 ?_
      refine r_eq (y := (nI (k + 1))) (nI_add k 1) ?_
      refine r_put hx hb hts in_X9_readsCommand_X9 tyX9 tyX9_ok nmX9 hown w 0 0 rfl rfl (ci := 13) rfl 21 (by decide) (hts _ (List.mem_of_getElem? (i := 2) rfl)) rfl rfl (ty := .int) (by decide +kernel) rfl rfl (Nat.le_of_ble_eq_true rfl) (moB r (upd (upd (upd F 19 (nI ((t + 1) - 1))) 20 (nI ((t + 1) - 1))) 21 (nI (k + 1)))) rfl [moB r (upd (upd (upd F 19 (nI ((t + 1) - 1))) 20 (nI ((t + 1) - 1))) 21 (nI (k + 1))), arB ty (r 6) 60 ch, arB ty (r 8) 40 (upd K k (sg ch z t)), arB ty (r 9) 40 (upd U k 0)] rfl dX9_readsCommand_207 (fun H locs w => ?_)
      exact e_v hx hb hr hlocks (w.cast (by rw [rc_n hpl]; rfl)) dX9_readsCommand_210 (Nat.le_refl _) (Nat.le_refl _)
  · intro contD0
    
    refine lv_iload_n hx hb dX9_readsCommand_35 rfl (lv_at hl 0 rfl) ?_
    by_cases e36_106 : (sg ch z t) = 106
    · have hpl : pLet (sg ch z t) = 1 := by rw [e36_106]; decide
      have htz := pLet_z (ch := ch) (z := z) (t := t) (by rw [hpl]; decide)
      refine r_eq (y := 106) e36_106 ?_
      refine lv_tableIn (tgt := 128) hx hb dX9_readsCommand_36 (by decide) (by decide) rfl (by decide) ?_
      refine lv_aload_n hx hb dX9_readsCommand_128 rfl (lv_at hl 1 rfl) ?_
      refine r_get (v' := .ref (r 9)) hx hb hts in_X9_readsCommand_X9 hown w 0 0 rfl rfl (ci := 13) rfl 23 (by decide) (hts _ (List.mem_of_getElem? (i := 3) rfl)) rfl rfl rfl dX9_readsCommand_129 ?_
      refine lv_aload_n hx hb dX9_readsCommand_132 rfl (lv_at hl 1 rfl) ?_
      refine r_get (v' := .int (nI k)) hx hb hts in_X9_readsCommand_X9 hown w 0 0 rfl rfl (ci := 13) rfl 21 (by decide) (hts _ (List.mem_of_getElem? (i := 2) rfl)) rfl rfl rfl dX9_readsCommand_133 ?_
      refine lv_aload_n hx hb dX9_readsCommand_136 rfl (lv_at hl 1 rfl) ?_
      refine lv_bipush (v := 48) hx hb dX9_readsCommand_137 (by decide) ?_
      refine lv_bipush (v := 57) hx hb dX9_readsCommand_139 (by decide) ?_
      refine k_iV (As := [.int 48, .int 57]) (rest := [.int (nI k), .ref (r 9)]) (Rs := [arB ty (r 8) 40 (upd K k (sg ch z t)), arB ty (r 9) 40 (upd U k 0)]) (Bs' := [moB r (upd (upd (upd F 19 (nI ((rd ch z 48 57 (t + 1) (-1)).2.1))) 20 ((rd ch z 48 57 (t + 1) (-1)).2.2)) 21 (nI k)), arB ty (r 6) 60 ch, arB ty (r 8) 40 (upd K k (sg ch z t)), arB ty (r 9) 40 (upd U k 0)]) ⟨hx, hb, hml, hown, hts⟩ w (c_X9_reads l D ty r F ch z hz h18 (t + 1) (by omega) (-1) k 48 57 (by decide)) (cwV 2 hts gX9_readsCommand_X9_reads rfl rfl rfl ⟨rfl, hdN_X9_reads⟩ ⟨Nat.le_of_ble_eq_true rfl, Nat.le_of_ble_eq_true rfl⟩) [0, 1, 2, 3] (nB := 4) (by decide) rfl rfl rfl rfl 0 rfl rfl (ci := 13) rfl rfl rfl hl.1 rfl (Nat.le_of_ble_eq_true rfl) dX9_readsCommand_141 ⟨(Nat.zero_le _), (Nat.zero_le _)⟩ (fun H locs w => ?_)
      refine r_iast hx hb w 3 0 rfl rfl 0 rfl k (by omega) (by omega) rfl (arB ty (r 9) 40 (upd (upd U k 0) k ((rd ch z 48 57 (t + 1) (-1)).1))) rfl [moB r (upd (upd (upd F 19 (nI ((rd ch z 48 57 (t + 1) (-1)).2.1))) 20 ((rd ch z 48 57 (t + 1) (-1)).2.2)) 21 (nI k)), arB ty (r 6) 60 ch, arB ty (r 8) 40 (upd K k (sg ch z t)), arB ty (r 9) 40 (upd (upd U k 0) k ((rd ch z 48 57 (t + 1) (-1)).1))] rfl dX9_readsCommand_144 (fun H locs w => ?_)
      refine lv_goto (tgt := 200) hx hb dX9_readsCommand_145 (by decide) ?_
      refine lv_aload_n hx hb dX9_readsCommand_200 rfl (lv_at hl 1 rfl) ?_
      refine lv_dup hx hb dX9_readsCommand_201 rfl ?_
      refine r_get (v' := .int (nI k)) hx hb hts in_X9_readsCommand_X9 hown w 0 0 rfl rfl (ci := 13) rfl 21 (by decide) (hts _ (List.mem_of_getElem? (i := 2) rfl)) rfl rfl rfl dX9_readsCommand_202 ?_
      refine lv_iconst (v := 1) hx hb dX9_readsCommand_205 (by decide) ?_
      refine lv_iadd hx hb dX9_readsCommand_206 ?_
      refine r_eq (y := (nI (k + 1))) (nI_add k 1) ?_
      refine r_put hx hb hts in_X9_readsCommand_X9 tyX9 tyX9_ok nmX9 hown w 0 0 rfl rfl (ci := 13) rfl 21 (by decide) (hts _ (List.mem_of_getElem? (i := 2) rfl)) rfl rfl (ty := .int) (by decide +kernel) rfl rfl (Nat.le_of_ble_eq_true rfl) (moB r (upd (upd (upd F 19 (nI ((rd ch z 48 57 (t + 1) (-1)).2.1))) 20 ((rd ch z 48 57 (t + 1) (-1)).2.2)) 21 (nI (k + 1)))) rfl [moB r (upd (upd (upd F 19 (nI ((rd ch z 48 57 (t + 1) (-1)).2.1))) 20 ((rd ch z 48 57 (t + 1) (-1)).2.2)) 21 (nI (k + 1))), arB ty (r 6) 60 ch, arB ty (r 8) 40 (upd K k (sg ch z t)), arB ty (r 9) 40 (upd (upd U k 0) k ((rd ch z 48 57 (t + 1) (-1)).1))] rfl dX9_readsCommand_207 (fun H locs w => ?_)
      exact e_v hx hb hr hlocks (w.cast (by rw [rc_1 hpl, upd_upd])) dX9_readsCommand_210 (Nat.le_refl _) (Nat.le_refl _)
    by_cases e36_108 : (sg ch z t) = 108
    · have hpl : pLet (sg ch z t) = 1 := by rw [e36_108]; decide
      have htz := pLet_z (ch := ch) (z := z) (t := t) (by rw [hpl]; decide)
      refine r_eq (y := 108) e36_108 ?_
      refine lv_tableIn (tgt := 128) hx hb dX9_readsCommand_36 (by decide) (by decide) rfl (by decide) ?_
      refine lv_aload_n hx hb dX9_readsCommand_128 rfl (lv_at hl 1 rfl) ?_
      refine r_get (v' := .ref (r 9)) hx hb hts in_X9_readsCommand_X9 hown w 0 0 rfl rfl (ci := 13) rfl 23 (by decide) (hts _ (List.mem_of_getElem? (i := 3) rfl)) rfl rfl rfl dX9_readsCommand_129 ?_
      refine lv_aload_n hx hb dX9_readsCommand_132 rfl (lv_at hl 1 rfl) ?_
      refine r_get (v' := .int (nI k)) hx hb hts in_X9_readsCommand_X9 hown w 0 0 rfl rfl (ci := 13) rfl 21 (by decide) (hts _ (List.mem_of_getElem? (i := 2) rfl)) rfl rfl rfl dX9_readsCommand_133 ?_
      refine lv_aload_n hx hb dX9_readsCommand_136 rfl (lv_at hl 1 rfl) ?_
      refine lv_bipush (v := 48) hx hb dX9_readsCommand_137 (by decide) ?_
      refine lv_bipush (v := 57) hx hb dX9_readsCommand_139 (by decide) ?_
      refine k_iV (As := [.int 48, .int 57]) (rest := [.int (nI k), .ref (r 9)]) (Rs := [arB ty (r 8) 40 (upd K k (sg ch z t)), arB ty (r 9) 40 (upd U k 0)]) (Bs' := [moB r (upd (upd (upd F 19 (nI ((rd ch z 48 57 (t + 1) (-1)).2.1))) 20 ((rd ch z 48 57 (t + 1) (-1)).2.2)) 21 (nI k)), arB ty (r 6) 60 ch, arB ty (r 8) 40 (upd K k (sg ch z t)), arB ty (r 9) 40 (upd U k 0)]) ⟨hx, hb, hml, hown, hts⟩ w (c_X9_reads l D ty r F ch z hz h18 (t + 1) (by omega) (-1) k 48 57 (by decide)) (cwV 2 hts gX9_readsCommand_X9_reads rfl rfl rfl ⟨rfl, hdN_X9_reads⟩ ⟨Nat.le_of_ble_eq_true rfl, Nat.le_of_ble_eq_true rfl⟩) [0, 1, 2, 3] (nB := 4) (by decide) rfl rfl rfl rfl 0 rfl rfl (ci := 13) rfl rfl rfl hl.1 rfl (Nat.le_of_ble_eq_true rfl) dX9_readsCommand_141 ⟨(Nat.zero_le _), (Nat.zero_le _)⟩ (fun H locs w => ?_)
      refine r_iast hx hb w 3 0 rfl rfl 0 rfl k (by omega) (by omega) rfl (arB ty (r 9) 40 (upd (upd U k 0) k ((rd ch z 48 57 (t + 1) (-1)).1))) rfl [moB r (upd (upd (upd F 19 (nI ((rd ch z 48 57 (t + 1) (-1)).2.1))) 20 ((rd ch z 48 57 (t + 1) (-1)).2.2)) 21 (nI k)), arB ty (r 6) 60 ch, arB ty (r 8) 40 (upd K k (sg ch z t)), arB ty (r 9) 40 (upd (upd U k 0) k ((rd ch z 48 57 (t + 1) (-1)).1))] rfl dX9_readsCommand_144 (fun H locs w => ?_)
      refine lv_goto (tgt := 200) hx hb dX9_readsCommand_145 (by decide) ?_
      refine lv_aload_n hx hb dX9_readsCommand_200 rfl (lv_at hl 1 rfl) ?_
      refine lv_dup hx hb dX9_readsCommand_201 rfl ?_
      refine r_get (v' := .int (nI k)) hx hb hts in_X9_readsCommand_X9 hown w 0 0 rfl rfl (ci := 13) rfl 21 (by decide) (hts _ (List.mem_of_getElem? (i := 2) rfl)) rfl rfl rfl dX9_readsCommand_202 ?_
      refine lv_iconst (v := 1) hx hb dX9_readsCommand_205 (by decide) ?_
      refine lv_iadd hx hb dX9_readsCommand_206 ?_
      refine r_eq (y := (nI (k + 1))) (nI_add k 1) ?_
      refine r_put hx hb hts in_X9_readsCommand_X9 tyX9 tyX9_ok nmX9 hown w 0 0 rfl rfl (ci := 13) rfl 21 (by decide) (hts _ (List.mem_of_getElem? (i := 2) rfl)) rfl rfl (ty := .int) (by decide +kernel) rfl rfl (Nat.le_of_ble_eq_true rfl) (moB r (upd (upd (upd F 19 (nI ((rd ch z 48 57 (t + 1) (-1)).2.1))) 20 ((rd ch z 48 57 (t + 1) (-1)).2.2)) 21 (nI (k + 1)))) rfl [moB r (upd (upd (upd F 19 (nI ((rd ch z 48 57 (t + 1) (-1)).2.1))) 20 ((rd ch z 48 57 (t + 1) (-1)).2.2)) 21 (nI (k + 1))), arB ty (r 6) 60 ch, arB ty (r 8) 40 (upd K k (sg ch z t)), arB ty (r 9) 40 (upd (upd U k 0) k ((rd ch z 48 57 (t + 1) (-1)).1))] rfl dX9_readsCommand_207 (fun H locs w => ?_)
      exact e_v hx hb hr hlocks (w.cast (by rw [rc_1 hpl, upd_upd])) dX9_readsCommand_210 (Nat.le_refl _) (Nat.le_refl _)
    by_cases e36_114 : (sg ch z t) = 114
    · have hpl : pLet (sg ch z t) = 1 := by rw [e36_114]; decide
      have htz := pLet_z (ch := ch) (z := z) (t := t) (by rw [hpl]; decide)
      refine r_eq (y := 114) e36_114 ?_
      refine lv_tableIn (tgt := 128) hx hb dX9_readsCommand_36 (by decide) (by decide) rfl (by decide) ?_
      refine lv_aload_n hx hb dX9_readsCommand_128 rfl (lv_at hl 1 rfl) ?_
      refine r_get (v' := .ref (r 9)) hx hb hts in_X9_readsCommand_X9 hown w 0 0 rfl rfl (ci := 13) rfl 23 (by decide) (hts _ (List.mem_of_getElem? (i := 3) rfl)) rfl rfl rfl dX9_readsCommand_129 ?_
      refine lv_aload_n hx hb dX9_readsCommand_132 rfl (lv_at hl 1 rfl) ?_
      refine r_get (v' := .int (nI k)) hx hb hts in_X9_readsCommand_X9 hown w 0 0 rfl rfl (ci := 13) rfl 21 (by decide) (hts _ (List.mem_of_getElem? (i := 2) rfl)) rfl rfl rfl dX9_readsCommand_133 ?_
      refine lv_aload_n hx hb dX9_readsCommand_136 rfl (lv_at hl 1 rfl) ?_
      refine lv_bipush (v := 48) hx hb dX9_readsCommand_137 (by decide) ?_
      refine lv_bipush (v := 57) hx hb dX9_readsCommand_139 (by decide) ?_
      refine k_iV (As := [.int 48, .int 57]) (rest := [.int (nI k), .ref (r 9)]) (Rs := [arB ty (r 8) 40 (upd K k (sg ch z t)), arB ty (r 9) 40 (upd U k 0)]) (Bs' := [moB r (upd (upd (upd F 19 (nI ((rd ch z 48 57 (t + 1) (-1)).2.1))) 20 ((rd ch z 48 57 (t + 1) (-1)).2.2)) 21 (nI k)), arB ty (r 6) 60 ch, arB ty (r 8) 40 (upd K k (sg ch z t)), arB ty (r 9) 40 (upd U k 0)]) ⟨hx, hb, hml, hown, hts⟩ w (c_X9_reads l D ty r F ch z hz h18 (t + 1) (by omega) (-1) k 48 57 (by decide)) (cwV 2 hts gX9_readsCommand_X9_reads rfl rfl rfl ⟨rfl, hdN_X9_reads⟩ ⟨Nat.le_of_ble_eq_true rfl, Nat.le_of_ble_eq_true rfl⟩) [0, 1, 2, 3] (nB := 4) (by decide) rfl rfl rfl rfl 0 rfl rfl (ci := 13) rfl rfl rfl hl.1 rfl (Nat.le_of_ble_eq_true rfl) dX9_readsCommand_141 ⟨(Nat.zero_le _), (Nat.zero_le _)⟩ (fun H locs w => ?_)
      refine r_iast hx hb w 3 0 rfl rfl 0 rfl k (by omega) (by omega) rfl (arB ty (r 9) 40 (upd (upd U k 0) k ((rd ch z 48 57 (t + 1) (-1)).1))) rfl [moB r (upd (upd (upd F 19 (nI ((rd ch z 48 57 (t + 1) (-1)).2.1))) 20 ((rd ch z 48 57 (t + 1) (-1)).2.2)) 21 (nI k)), arB ty (r 6) 60 ch, arB ty (r 8) 40 (upd K k (sg ch z t)), arB ty (r 9) 40 (upd (upd U k 0) k ((rd ch z 48 57 (t + 1) (-1)).1))] rfl dX9_readsCommand_144 (fun H locs w => ?_)
      refine lv_goto (tgt := 200) hx hb dX9_readsCommand_145 (by decide) ?_
      refine lv_aload_n hx hb dX9_readsCommand_200 rfl (lv_at hl 1 rfl) ?_
      refine lv_dup hx hb dX9_readsCommand_201 rfl ?_
      refine r_get (v' := .int (nI k)) hx hb hts in_X9_readsCommand_X9 hown w 0 0 rfl rfl (ci := 13) rfl 21 (by decide) (hts _ (List.mem_of_getElem? (i := 2) rfl)) rfl rfl rfl dX9_readsCommand_202 ?_
      refine lv_iconst (v := 1) hx hb dX9_readsCommand_205 (by decide) ?_
      refine lv_iadd hx hb dX9_readsCommand_206 ?_
      refine r_eq (y := (nI (k + 1))) (nI_add k 1) ?_
      refine r_put hx hb hts in_X9_readsCommand_X9 tyX9 tyX9_ok nmX9 hown w 0 0 rfl rfl (ci := 13) rfl 21 (by decide) (hts _ (List.mem_of_getElem? (i := 2) rfl)) rfl rfl (ty := .int) (by decide +kernel) rfl rfl (Nat.le_of_ble_eq_true rfl) (moB r (upd (upd (upd F 19 (nI ((rd ch z 48 57 (t + 1) (-1)).2.1))) 20 ((rd ch z 48 57 (t + 1) (-1)).2.2)) 21 (nI (k + 1)))) rfl [moB r (upd (upd (upd F 19 (nI ((rd ch z 48 57 (t + 1) (-1)).2.1))) 20 ((rd ch z 48 57 (t + 1) (-1)).2.2)) 21 (nI (k + 1))), arB ty (r 6) 60 ch, arB ty (r 8) 40 (upd K k (sg ch z t)), arB ty (r 9) 40 (upd (upd U k 0) k ((rd ch z 48 57 (t + 1) (-1)).1))] rfl dX9_readsCommand_207 (fun H locs w => ?_)
      exact e_v hx hb hr hlocks (w.cast (by rw [rc_1 hpl, upd_upd])) dX9_readsCommand_210 (Nat.le_refl _) (Nat.le_refl _)
    by_cases e36_100 : (sg ch z t) = 100
    · have hpl : pLet (sg ch z t) = 2 := by rw [e36_100]; decide
      have htz := pLet_z (ch := ch) (z := z) (t := t) (by rw [hpl]; decide)
      refine r_eq (y := 100) e36_100 ?_
      refine lv_tableIn (tgt := 148) hx hb dX9_readsCommand_36 (by decide) (by decide) rfl (by decide) ?_
      refine lv_aload_n hx hb dX9_readsCommand_148 rfl (lv_at hl 1 rfl) ?_
      refine r_get (v' := .ref (r 9)) hx hb hts in_X9_readsCommand_X9 hown w 0 0 rfl rfl (ci := 13) rfl 23 (by decide) (hts _ (List.mem_of_getElem? (i := 3) rfl)) rfl rfl rfl dX9_readsCommand_149 ?_
      refine lv_aload_n hx hb dX9_readsCommand_152 rfl (lv_at hl 1 rfl) ?_
      refine r_get (v' := .int (nI k)) hx hb hts in_X9_readsCommand_X9 hown w 0 0 rfl rfl (ci := 13) rfl 21 (by decide) (hts _ (List.mem_of_getElem? (i := 2) rfl)) rfl rfl rfl dX9_readsCommand_153 ?_
      refine lv_aload_n hx hb dX9_readsCommand_156 rfl (lv_at hl 1 rfl) ?_
      refine k_iV (As := []) (rest := [.int (nI k), .ref (r 9)]) (Rs := [arB ty (r 8) 40 (upd K k (sg ch z t)), arB ty (r 9) 40 (upd U k 0)]) (Bs' := [moB r (upd (upd (upd F 19 (nI ((nuS ch z (t + 1) (-1)).2.1))) 20 ((nuS ch z (t + 1) (-1)).2.2)) 21 (nI k)), arB ty (r 6) 60 ch, arB ty (r 8) 40 (upd K k (sg ch z t)), arB ty (r 9) 40 (upd U k 0)]) ⟨hx, hb, hml, hown, hts⟩ w (c_X9_number l D ty r F ch z hz h18 (t + 1) (by omega) (-1) k) (cwV 0 hts gX9_readsCommand_X9_number rfl rfl rfl ⟨rfl, hdN_X9_number⟩ ⟨Nat.le_of_ble_eq_true rfl, Nat.le_of_ble_eq_true rfl⟩) [0, 1, 2, 3] (nB := 4) (by decide) rfl rfl rfl rfl 0 rfl rfl (ci := 13) rfl rfl rfl hl.1 rfl (Nat.le_of_ble_eq_true rfl) dX9_readsCommand_157 ⟨(Nat.zero_le _), (Nat.zero_le _)⟩ (fun H locs w => ?_)
      refine r_iast hx hb w 3 0 rfl rfl 0 rfl k (by omega) (by omega) rfl (arB ty (r 9) 40 (upd (upd U k 0) k ((nuS ch z (t + 1) (-1)).1))) rfl [moB r (upd (upd (upd F 19 (nI ((nuS ch z (t + 1) (-1)).2.1))) 20 ((nuS ch z (t + 1) (-1)).2.2)) 21 (nI k)), arB ty (r 6) 60 ch, arB ty (r 8) 40 (upd K k (sg ch z t)), arB ty (r 9) 40 (upd (upd U k 0) k ((nuS ch z (t + 1) (-1)).1))] rfl dX9_readsCommand_160 (fun H locs w => ?_)
      refine lv_goto (tgt := 200) hx hb dX9_readsCommand_161 (by decide) ?_
      refine lv_aload_n hx hb dX9_readsCommand_200 rfl (lv_at hl 1 rfl) ?_
      refine lv_dup hx hb dX9_readsCommand_201 rfl ?_
      refine r_get (v' := .int (nI k)) hx hb hts in_X9_readsCommand_X9 hown w 0 0 rfl rfl (ci := 13) rfl 21 (by decide) (hts _ (List.mem_of_getElem? (i := 2) rfl)) rfl rfl rfl dX9_readsCommand_202 ?_
      refine lv_iconst (v := 1) hx hb dX9_readsCommand_205 (by decide) ?_
      refine lv_iadd hx hb dX9_readsCommand_206 ?_
      refine r_eq (y := (nI (k + 1))) (nI_add k 1) ?_
      refine r_put hx hb hts in_X9_readsCommand_X9 tyX9 tyX9_ok nmX9 hown w 0 0 rfl rfl (ci := 13) rfl 21 (by decide) (hts _ (List.mem_of_getElem? (i := 2) rfl)) rfl rfl (ty := .int) (by decide +kernel) rfl rfl (Nat.le_of_ble_eq_true rfl) (moB r (upd (upd (upd F 19 (nI ((nuS ch z (t + 1) (-1)).2.1))) 20 ((nuS ch z (t + 1) (-1)).2.2)) 21 (nI (k + 1)))) rfl [moB r (upd (upd (upd F 19 (nI ((nuS ch z (t + 1) (-1)).2.1))) 20 ((nuS ch z (t + 1) (-1)).2.2)) 21 (nI (k + 1))), arB ty (r 6) 60 ch, arB ty (r 8) 40 (upd K k (sg ch z t)), arB ty (r 9) 40 (upd (upd U k 0) k ((nuS ch z (t + 1) (-1)).1))] rfl dX9_readsCommand_207 (fun H locs w => ?_)
      exact e_v hx hb hr hlocks (w.cast (by rw [rc_2 hpl, upd_upd])) dX9_readsCommand_210 (Nat.le_refl _) (Nat.le_refl _)
    by_cases e36_110 : (sg ch z t) = 110
    · have hpl : pLet (sg ch z t) = 2 := by rw [e36_110]; decide
      have htz := pLet_z (ch := ch) (z := z) (t := t) (by rw [hpl]; decide)
      refine r_eq (y := 110) e36_110 ?_
      refine lv_tableIn (tgt := 148) hx hb dX9_readsCommand_36 (by decide) (by decide) rfl (by decide) ?_
      refine lv_aload_n hx hb dX9_readsCommand_148 rfl (lv_at hl 1 rfl) ?_
      refine r_get (v' := .ref (r 9)) hx hb hts in_X9_readsCommand_X9 hown w 0 0 rfl rfl (ci := 13) rfl 23 (by decide) (hts _ (List.mem_of_getElem? (i := 3) rfl)) rfl rfl rfl dX9_readsCommand_149 ?_
      refine lv_aload_n hx hb dX9_readsCommand_152 rfl (lv_at hl 1 rfl) ?_
      refine r_get (v' := .int (nI k)) hx hb hts in_X9_readsCommand_X9 hown w 0 0 rfl rfl (ci := 13) rfl 21 (by decide) (hts _ (List.mem_of_getElem? (i := 2) rfl)) rfl rfl rfl dX9_readsCommand_153 ?_
      refine lv_aload_n hx hb dX9_readsCommand_156 rfl (lv_at hl 1 rfl) ?_
      refine k_iV (As := []) (rest := [.int (nI k), .ref (r 9)]) (Rs := [arB ty (r 8) 40 (upd K k (sg ch z t)), arB ty (r 9) 40 (upd U k 0)]) (Bs' := [moB r (upd (upd (upd F 19 (nI ((nuS ch z (t + 1) (-1)).2.1))) 20 ((nuS ch z (t + 1) (-1)).2.2)) 21 (nI k)), arB ty (r 6) 60 ch, arB ty (r 8) 40 (upd K k (sg ch z t)), arB ty (r 9) 40 (upd U k 0)]) ⟨hx, hb, hml, hown, hts⟩ w (c_X9_number l D ty r F ch z hz h18 (t + 1) (by omega) (-1) k) (cwV 0 hts gX9_readsCommand_X9_number rfl rfl rfl ⟨rfl, hdN_X9_number⟩ ⟨Nat.le_of_ble_eq_true rfl, Nat.le_of_ble_eq_true rfl⟩) [0, 1, 2, 3] (nB := 4) (by decide) rfl rfl rfl rfl 0 rfl rfl (ci := 13) rfl rfl rfl hl.1 rfl (Nat.le_of_ble_eq_true rfl) dX9_readsCommand_157 ⟨(Nat.zero_le _), (Nat.zero_le _)⟩ (fun H locs w => ?_)
      refine r_iast hx hb w 3 0 rfl rfl 0 rfl k (by omega) (by omega) rfl (arB ty (r 9) 40 (upd (upd U k 0) k ((nuS ch z (t + 1) (-1)).1))) rfl [moB r (upd (upd (upd F 19 (nI ((nuS ch z (t + 1) (-1)).2.1))) 20 ((nuS ch z (t + 1) (-1)).2.2)) 21 (nI k)), arB ty (r 6) 60 ch, arB ty (r 8) 40 (upd K k (sg ch z t)), arB ty (r 9) 40 (upd (upd U k 0) k ((nuS ch z (t + 1) (-1)).1))] rfl dX9_readsCommand_160 (fun H locs w => ?_)
      refine lv_goto (tgt := 200) hx hb dX9_readsCommand_161 (by decide) ?_
      refine lv_aload_n hx hb dX9_readsCommand_200 rfl (lv_at hl 1 rfl) ?_
      refine lv_dup hx hb dX9_readsCommand_201 rfl ?_
      refine r_get (v' := .int (nI k)) hx hb hts in_X9_readsCommand_X9 hown w 0 0 rfl rfl (ci := 13) rfl 21 (by decide) (hts _ (List.mem_of_getElem? (i := 2) rfl)) rfl rfl rfl dX9_readsCommand_202 ?_
      refine lv_iconst (v := 1) hx hb dX9_readsCommand_205 (by decide) ?_
      refine lv_iadd hx hb dX9_readsCommand_206 ?_
      refine r_eq (y := (nI (k + 1))) (nI_add k 1) ?_
      refine r_put hx hb hts in_X9_readsCommand_X9 tyX9 tyX9_ok nmX9 hown w 0 0 rfl rfl (ci := 13) rfl 21 (by decide) (hts _ (List.mem_of_getElem? (i := 2) rfl)) rfl rfl (ty := .int) (by decide +kernel) rfl rfl (Nat.le_of_ble_eq_true rfl) (moB r (upd (upd (upd F 19 (nI ((nuS ch z (t + 1) (-1)).2.1))) 20 ((nuS ch z (t + 1) (-1)).2.2)) 21 (nI (k + 1)))) rfl [moB r (upd (upd (upd F 19 (nI ((nuS ch z (t + 1) (-1)).2.1))) 20 ((nuS ch z (t + 1) (-1)).2.2)) 21 (nI (k + 1))), arB ty (r 6) 60 ch, arB ty (r 8) 40 (upd K k (sg ch z t)), arB ty (r 9) 40 (upd (upd U k 0) k ((nuS ch z (t + 1) (-1)).1))] rfl dX9_readsCommand_207 (fun H locs w => ?_)
      exact e_v hx hb hr hlocks (w.cast (by rw [rc_2 hpl, upd_upd])) dX9_readsCommand_210 (Nat.le_refl _) (Nat.le_refl _)
    by_cases e36_118 : (sg ch z t) = 118
    · have hpl : pLet (sg ch z t) = 4 := by rw [e36_118]; decide
      have htz := pLet_z (ch := ch) (z := z) (t := t) (by rw [hpl]; decide)
      refine r_eq (y := 118) e36_118 ?_
      refine lv_tableIn (tgt := 164) hx hb dX9_readsCommand_36 (by decide) (by decide) rfl (by decide) ?_
      refine lv_goto (tgt := 200) hx hb dX9_readsCommand_164 (by decide) ?_
      refine lv_aload_n hx hb dX9_readsCommand_200 rfl (lv_at hl 1 rfl) ?_
      refine lv_dup hx hb dX9_readsCommand_201 rfl ?_
      refine r_get (v' := .int (nI k)) hx hb hts in_X9_readsCommand_X9 hown w 0 0 rfl rfl (ci := 13) rfl 21 (by decide) (hts _ (List.mem_of_getElem? (i := 2) rfl)) rfl rfl rfl dX9_readsCommand_202 ?_
      refine lv_iconst (v := 1) hx hb dX9_readsCommand_205 (by decide) ?_
      refine lv_iadd hx hb dX9_readsCommand_206 ?_
      refine r_eq (y := (nI (k + 1))) (nI_add k 1) ?_
      refine r_put hx hb hts in_X9_readsCommand_X9 tyX9 tyX9_ok nmX9 hown w 0 0 rfl rfl (ci := 13) rfl 21 (by decide) (hts _ (List.mem_of_getElem? (i := 2) rfl)) rfl rfl (ty := .int) (by decide +kernel) rfl rfl (Nat.le_of_ble_eq_true rfl) (moB r (upd (upd (upd F 19 (nI (t + 1))) 20 (-1)) 21 (nI (k + 1)))) rfl [moB r (upd (upd (upd F 19 (nI (t + 1))) 20 (-1)) 21 (nI (k + 1))), arB ty (r 6) 60 ch, arB ty (r 8) 40 (upd K k (sg ch z t)), arB ty (r 9) 40 (upd U k 0)] rfl dX9_readsCommand_207 (fun H locs w => ?_)
      exact e_v hx hb hr hlocks (w.cast (by rw [rc_4 hpl])) dX9_readsCommand_210 (Nat.le_refl _) (Nat.le_refl _)
    by_cases e36_112 : (sg ch z t) = 112
    · have hpl : pLet (sg ch z t) = 4 := by rw [e36_112]; decide
      have htz := pLet_z (ch := ch) (z := z) (t := t) (by rw [hpl]; decide)
      refine r_eq (y := 112) e36_112 ?_
      refine lv_tableIn (tgt := 164) hx hb dX9_readsCommand_36 (by decide) (by decide) rfl (by decide) ?_
      refine lv_goto (tgt := 200) hx hb dX9_readsCommand_164 (by decide) ?_
      refine lv_aload_n hx hb dX9_readsCommand_200 rfl (lv_at hl 1 rfl) ?_
      refine lv_dup hx hb dX9_readsCommand_201 rfl ?_
      refine r_get (v' := .int (nI k)) hx hb hts in_X9_readsCommand_X9 hown w 0 0 rfl rfl (ci := 13) rfl 21 (by decide) (hts _ (List.mem_of_getElem? (i := 2) rfl)) rfl rfl rfl dX9_readsCommand_202 ?_
      refine lv_iconst (v := 1) hx hb dX9_readsCommand_205 (by decide) ?_
      refine lv_iadd hx hb dX9_readsCommand_206 ?_
      refine r_eq (y := (nI (k + 1))) (nI_add k 1) ?_
      refine r_put hx hb hts in_X9_readsCommand_X9 tyX9 tyX9_ok nmX9 hown w 0 0 rfl rfl (ci := 13) rfl 21 (by decide) (hts _ (List.mem_of_getElem? (i := 2) rfl)) rfl rfl (ty := .int) (by decide +kernel) rfl rfl (Nat.le_of_ble_eq_true rfl) (moB r (upd (upd (upd F 19 (nI (t + 1))) 20 (-1)) 21 (nI (k + 1)))) rfl [moB r (upd (upd (upd F 19 (nI (t + 1))) 20 (-1)) 21 (nI (k + 1))), arB ty (r 6) 60 ch, arB ty (r 8) 40 (upd K k (sg ch z t)), arB ty (r 9) 40 (upd U k 0)] rfl dX9_readsCommand_207 (fun H locs w => ?_)
      exact e_v hx hb hr hlocks (w.cast (by rw [rc_4 hpl])) dX9_readsCommand_210 (Nat.le_refl _) (Nat.le_refl _)
    have hpl : pLet (sg ch z t) = -1 := by simp only [pLet, e36_106, e36_108, e36_114, e36_100, e36_110, e36_118, e36_112, or_self, if_false]
    by_cases e36_101 : (sg ch z t) = 101
    · refine r_eq (y := 101) e36_101 ?_
      refine lv_tableIn (tgt := 167) hx hb dX9_readsCommand_36 (by decide) (by decide) rfl (by decide) ?_
      exact contD0 _ _ _ ⟨⟨w, hl⟩, hpl⟩
    by_cases e36_102 : (sg ch z t) = 102
    · refine r_eq (y := 102) e36_102 ?_
      refine lv_tableIn (tgt := 167) hx hb dX9_readsCommand_36 (by decide) (by decide) rfl (by decide) ?_
      exact contD0 _ _ _ ⟨⟨w, hl⟩, hpl⟩
    by_cases e36_103 : (sg ch z t) = 103
    · refine r_eq (y := 103) e36_103 ?_
      refine lv_tableIn (tgt := 167) hx hb dX9_readsCommand_36 (by decide) (by decide) rfl (by decide) ?_
      exact contD0 _ _ _ ⟨⟨w, hl⟩, hpl⟩
    by_cases e36_104 : (sg ch z t) = 104
    · refine r_eq (y := 104) e36_104 ?_
      refine lv_tableIn (tgt := 167) hx hb dX9_readsCommand_36 (by decide) (by decide) rfl (by decide) ?_
      exact contD0 _ _ _ ⟨⟨w, hl⟩, hpl⟩
    by_cases e36_105 : (sg ch z t) = 105
    · refine r_eq (y := 105) e36_105 ?_
      refine lv_tableIn (tgt := 167) hx hb dX9_readsCommand_36 (by decide) (by decide) rfl (by decide) ?_
      exact contD0 _ _ _ ⟨⟨w, hl⟩, hpl⟩
    by_cases e36_107 : (sg ch z t) = 107
    · refine r_eq (y := 107) e36_107 ?_
      refine lv_tableIn (tgt := 167) hx hb dX9_readsCommand_36 (by decide) (by decide) rfl (by decide) ?_
      exact contD0 _ _ _ ⟨⟨w, hl⟩, hpl⟩
    by_cases e36_109 : (sg ch z t) = 109
    · refine r_eq (y := 109) e36_109 ?_
      refine lv_tableIn (tgt := 167) hx hb dX9_readsCommand_36 (by decide) (by decide) rfl (by decide) ?_
      exact contD0 _ _ _ ⟨⟨w, hl⟩, hpl⟩
    by_cases e36_111 : (sg ch z t) = 111
    · refine r_eq (y := 111) e36_111 ?_
      refine lv_tableIn (tgt := 167) hx hb dX9_readsCommand_36 (by decide) (by decide) rfl (by decide) ?_
      exact contD0 _ _ _ ⟨⟨w, hl⟩, hpl⟩
    by_cases e36_113 : (sg ch z t) = 113
    · refine r_eq (y := 113) e36_113 ?_
      refine lv_tableIn (tgt := 167) hx hb dX9_readsCommand_36 (by decide) (by decide) rfl (by decide) ?_
      exact contD0 _ _ _ ⟨⟨w, hl⟩, hpl⟩
    by_cases e36_115 : (sg ch z t) = 115
    · refine r_eq (y := 115) e36_115 ?_
      refine lv_tableIn (tgt := 167) hx hb dX9_readsCommand_36 (by decide) (by decide) rfl (by decide) ?_
      exact contD0 _ _ _ ⟨⟨w, hl⟩, hpl⟩
    by_cases e36_116 : (sg ch z t) = 116
    · refine r_eq (y := 116) e36_116 ?_
      refine lv_tableIn (tgt := 167) hx hb dX9_readsCommand_36 (by decide) (by decide) rfl (by decide) ?_
      exact contD0 _ _ _ ⟨⟨w, hl⟩, hpl⟩
    by_cases e36_117 : (sg ch z t) = 117
    · refine r_eq (y := 117) e36_117 ?_
      refine lv_tableIn (tgt := 167) hx hb dX9_readsCommand_36 (by decide) (by decide) rfl (by decide) ?_
      exact contD0 _ _ _ ⟨⟨w, hl⟩, hpl⟩
    refine lv_tableOut (tgt := 167) hx hb dX9_readsCommand_36 (sw_out 100 118 (fun v h1 h2 e => by
      have h3 : v = 100 ∨ v = 101 ∨ v = 102 ∨ v = 103 ∨ v = 104 ∨ v = 105 ∨ v = 106 ∨ v = 107 ∨ v = 108 ∨ v = 109 ∨ v = 110 ∨ v = 111 ∨ v = 112 ∨ v = 113 ∨ v = 114 ∨ v = 115 ∨ v = 116 ∨ v = 117 ∨ v = 118 := by omega
      rcases h3 with rfl | rfl | rfl | rfl | rfl | rfl | rfl | rfl | rfl | rfl | rfl | rfl | rfl | rfl | rfl | rfl | rfl | rfl | rfl
      · exact e36_100 (Int32.toInt_inj.mp e)
      · exact e36_101 (Int32.toInt_inj.mp e)
      · exact e36_102 (Int32.toInt_inj.mp e)
      · exact e36_103 (Int32.toInt_inj.mp e)
      · exact e36_104 (Int32.toInt_inj.mp e)
      · exact e36_105 (Int32.toInt_inj.mp e)
      · exact e36_106 (Int32.toInt_inj.mp e)
      · exact e36_107 (Int32.toInt_inj.mp e)
      · exact e36_108 (Int32.toInt_inj.mp e)
      · exact e36_109 (Int32.toInt_inj.mp e)
      · exact e36_110 (Int32.toInt_inj.mp e)
      · exact e36_111 (Int32.toInt_inj.mp e)
      · exact e36_112 (Int32.toInt_inj.mp e)
      · exact e36_113 (Int32.toInt_inj.mp e)
      · exact e36_114 (Int32.toInt_inj.mp e)
      · exact e36_115 (Int32.toInt_inj.mp e)
      · exact e36_116 (Int32.toInt_inj.mp e)
      · exact e36_117 (Int32.toInt_inj.mp e)
      · exact e36_118 (Int32.toInt_inj.mp e)
      )) (by decide) ?_
    exact contD0 _ _ _ ⟨⟨w, hl⟩, hpl⟩
