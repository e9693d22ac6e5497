theorem in_X9_readsAll_X9 : ∀ w ∈ wsX90, w ∈ wsX9_readsAll := by decide +kernel
theorem hdN_X9_readsAll : yX9_readsAll.cls ≠ "java/lang/invoke/MethodHandle" ∧ yX9_readsAll.cls ≠ "java/lang/invoke/VarHandle" ∧ (parseMethodDescriptor yX9_readsAll.desc).map (fun d => d.parameters.length) = some 0 := by decide +kernel
set_option maxRecDepth 100000 in
set_option maxHeartbeats 4000000 in
theorem c_X9_readsAll (l : Launch) (D : va_G) (ty : Nat → ClassId) (r : Nat → Nat) (F ch : pS) (z : Nat) (hz : z ≤ 60) (h18 : F 18 = nI z) (K U : pS)  : Mv l yX9_readsAll wsX9_readsAll (kR 4 86 0 0) D (kTY ty) [.ref (r 0)] [moB r F, arB ty (r 6) 60 ch, arB ty (r 8) 40 K, arB ty (r 9) 40 U] [moB r (upd (upd (upd F 19 (nI ((raA ch z K U).1))) 20 ((raA ch z K U).2.1)) 21 (nI ((raA ch z K U).2.2.1))), arB ty (r 6) 60 ch, arB ty (r 8) 40 ((raA ch z K U).2.2.2.1), arB ty (r 9) 40 ((raA ch z K U).2.2.2.2)] 0 0 := by
  refine m_v (cc := cX9_readsAll) (maxL := 2) (ret := none) (by decide +kernel) rfl (Nat.le_of_ble_eq_true rfl) ?_
  intro p e s m below meth c A ls hx hb hml hr hlocks hown hts w hl
  have hown : s.vm.findClass RX9 = some m.cls := hown
  have hl : lv_has ls 2 [(0, .ref (r 0))] := hl
  refine lv_aload_n hx hb dX9_readsAll_0 rfl (lv_at hl 0 rfl) ?_
  refine lv_iconst (v := 0) hx hb dX9_readsAll_1 (by decide) ?_
  refine r_put hx hb hts in_X9_readsAll_X9 tyX9 tyX9_ok nmX9 hown w 0 0 rfl rfl (ci := 13) rfl 19 (by decide) (hts _ (List.mem_of_getElem? (i := 1) rfl)) rfl rfl (ty := .int) (by decide +kernel) rfl rfl (Nat.le_of_ble_eq_true rfl) (moB r (upd F 19 0)) rfl [moB r (upd F 19 0), arB ty (r 6) 60 ch, arB ty (r 8) 40 K, arB ty (r 9) 40 U] rfl dX9_readsAll_2 (fun H locs w => ?_)
  refine lv_aload_n hx hb dX9_readsAll_5 rfl (lv_at hl 0 rfl) ?_
  refine lv_iconst (v := (-1)) hx hb dX9_readsAll_6 (by decide) ?_
  refine r_put hx hb hts in_X9_readsAll_X9 tyX9 tyX9_ok nmX9 hown w 0 0 rfl rfl (ci := 13) rfl 20 (by decide) (hts _ (List.mem_of_getElem? (i := 2) rfl)) rfl rfl (ty := .int) (by decide +kernel) rfl rfl (Nat.le_of_ble_eq_true rfl) (moB r (upd (upd F 19 0) 20 (-1))) rfl [moB r (upd (upd F 19 0) 20 (-1)), arB ty (r 6) 60 ch, arB ty (r 8) 40 K, arB ty (r 9) 40 U] rfl dX9_readsAll_7 (fun H locs w => ?_)
  refine lv_aload_n hx hb dX9_readsAll_10 rfl (lv_at hl 0 rfl) ?_
  refine lv_iconst (v := 0) hx hb dX9_readsAll_11 (by decide) ?_
  refine r_put hx hb hts in_X9_readsAll_X9 tyX9 tyX9_ok nmX9 hown w 0 0 rfl rfl (ci := 13) rfl 21 (by decide) (hts _ (List.mem_of_getElem? (i := 3) rfl)) rfl rfl (ty := .int) (by decide +kernel) rfl rfl (Nat.le_of_ble_eq_true rfl) (moB r (upd (upd (upd F 19 0) 20 (-1)) 21 0)) rfl [moB r (upd (upd (upd F 19 0) 20 (-1)) 21 0), arB ty (r 6) 60 ch, arB ty (r 8) 40 K, arB ty (r 9) 40 U] rfl dX9_readsAll_12 (fun H locs w => ?_)
  refine lv_aload_n hx hb dX9_readsAll_15 rfl (lv_at hl 0 rfl) ?_
  refine k_vV (As := []) (rest := []) (Rs := []) (Bs' := [moB r (upd (upd (upd F 19 (nI ((rcS ch z 0).2.1))) 20 ((rcS ch z 0).2.2)) 21 (nI (0 + 1))), arB ty (r 6) 60 ch, arB ty (r 8) 40 (upd K 0 (sg ch z 0)), arB ty (r 9) 40 (upd U 0 (rcS ch z 0).1)]) ⟨hx, hb, hml, hown, hts⟩ w (c_X9_readsCommand l D ty r F ch z hz h18 0 (by omega) 0 (by omega) K U) (cwV 0 hts gX9_readsAll_X9_readsCommand rfl rfl rfl ⟨rfl, hdN_X9_readsCommand⟩ ⟨Nat.le_of_ble_eq_true rfl, Nat.le_of_ble_eq_true rfl⟩) [0, 1, 2, 3] (nB := 4) (by decide) rfl rfl rfl rfl 0 rfl rfl (ci := 13) rfl rfl rfl hl.1 rfl (Nat.le_of_ble_eq_true rfl) dX9_readsAll_16 ⟨(Nat.zero_le _), (Nat.zero_le _)⟩ (fun H locs w => ?_)
  refine k_loop (fun kk H locs ls => ∃ (t : Nat) (w0 : Int32) (k : Nat) (K1 : pS) (U1 : pS), kW D (kTY ty) A s.heap s H locs [moB r (upd (upd (upd F 19 (nI t)) 20 w0) 21 (nI k)), arB ty (r 6) 60 ch, arB ty (r 8) 40 K1, arB ty (r 9) 40 U1] ∧ lv_has ls 2 [(0, .ref (r 0))] ∧ (raA ch z K U = raS ch z (61 - kk) t w0 k K1 U1) ∧ (t ≤ z) ∧ (w0 = -1 → kk ≤ t ∧ 2 * k ≤ t + 1)) 61 0 (by omega) ⟨(rcS ch z 0).2.1, (rcS ch z 0).2.2, 1, upd K 0 (sg ch z 0), upd U 0 (rcS ch z 0).1, w, lv_sub hl [0] rfl, rfl, (rc_le hz (Nat.zero_le z)).1, (fun q => by have a := (rc_le hz (Nat.zero_le z)).2.2 q; omega)⟩ ?_
  intro kk hkk0 hkk ihkk H locs ls hI
  obtain ⟨t, w0, k, K1, U1, w, hl, hra, htz, hib⟩ := hI
  refine lv_aload_n hx hb dX9_readsAll_19 rfl (lv_at hl 0 rfl) ?_
  refine r_get (v' := .int w0) hx hb hts in_X9_readsAll_X9 hown w 0 0 rfl rfl (ci := 13) rfl 20 (by decide) (hts _ (List.mem_of_getElem? (i := 2) rfl)) rfl rfl rfl dX9_readsAll_20 ?_
  refine lv_iconst (v := (-1)) hx hb dX9_readsAll_23 (by decide) ?_
  refine lv_icmp_ne (tgt := 62) hx hb dX9_readsAll_24 (by decide) (fun c24 => ?_) (fun c24 => ?_)
  · exact e_v hx hb hr hlocks (w.cast (by rw [hra, ra_x (fun q => c24 q.1)])) dX9_readsAll_62 (Nat.le_refl _) (Nat.le_refl _)
  · refine lv_aload_n hx hb dX9_readsAll_27 rfl (lv_at hl 0 rfl) ?_
    refine r_get (v' := .int (nI t)) hx hb hts in_X9_readsAll_X9 hown w 0 0 rfl rfl (ci := 13) rfl 19 (by decide) (hts _ (List.mem_of_getElem? (i := 1) rfl)) rfl rfl rfl dX9_readsAll_28 ?_
    refine lv_aload_n hx hb dX9_readsAll_31 rfl (lv_at hl 0 rfl) ?_
    refine r_get (v' := .int (nI z)) hx hb hts in_X9_readsAll_X9 hown w 0 0 rfl rfl (ci := 13) rfl 18 (by decide) (hts _ (List.mem_of_getElem? (i := 4) rfl)) rfl rfl (congrArg Value.int h18) dX9_readsAll_32 ?_
    refine lv_icmp_ge (tgt := 62) hx hb dX9_readsAll_35 (by decide) (fun c35 => ?_) (fun c35 => ?_)
    · have c35 := (nI_leI (a := z) (b := t) (by omega) (by omega)).mp c35
      exact e_v hx hb hr hlocks (w.cast (by rw [hra, ra_x (fun q => absurd q.2 (by omega))])) dX9_readsAll_62 (Nat.le_refl _) (Nat.le_refl _)
    · have c35 := mt (nI_leI (a := z) (b := t) (by omega) (by omega)).mpr c35
      have c35 : t < z := by omega
      have hr1 := rd_le (ch := ch) (w := w0) (lo := 59) (hi := 59) (by decide) htz
      have hib2 := hib c24
      refine lv_aload_n hx hb dX9_readsAll_38 rfl (lv_at hl 0 rfl) ?_
      refine lv_bipush (v := 59) hx hb dX9_readsAll_39 (by decide) ?_
      refine lv_bipush (v := 59) hx hb dX9_readsAll_41 (by decide) ?_
      refine k_iV (As := [.int 59, .int 59]) (rest := []) (Rs := [arB ty (r 8) 40 K1, arB ty (r 9) 40 U1]) (Bs' := [moB r (upd (upd (upd F 19 (nI ((rd ch z 59 59 t w0).2.1))) 20 ((rd ch z 59 59 t w0).2.2)) 21 (nI k)), arB ty (r 6) 60 ch, arB ty (r 8) 40 K1, arB ty (r 9) 40 U1]) ⟨hx, hb, hml, hown, hts⟩ w (c_X9_reads l D ty r F ch z hz h18 t (by omega) w0 k 59 59 (by decide)) (cwV 2 hts gX9_readsAll_X9_reads rfl rfl rfl ⟨rfl, hdN_X9_reads⟩ ⟨Nat.le_of_ble_eq_true rfl, Nat.le_of_ble_eq_true rfl⟩) [0, 1, 2, 3] (nB := 4) (by decide) rfl rfl rfl rfl 0 rfl rfl (ci := 13) rfl rfl rfl hl.1 rfl (Nat.le_of_ble_eq_true rfl) dX9_readsAll_43 ⟨(Nat.zero_le _), (Nat.zero_le _)⟩ (fun H locs w => ?_)
      refine lv_istore_n (lv' := [(1, .int ((rd ch z 59 59 t w0).1)), (0, .ref (r 0))]) hx hb dX9_readsAll_46 rfl hl (by decide) rfl (fun ls hl => ?_)
      refine lv_aload_n hx hb dX9_readsAll_47 rfl (lv_at hl 1 rfl) ?_
      refine r_get (v' := .int ((rd ch z 59 59 t w0).2.2)) hx hb hts in_X9_readsAll_X9 hown w 0 0 rfl rfl (ci := 13) rfl 20 (by decide) (hts _ (List.mem_of_getElem? (i := 2) rfl)) rfl rfl rfl dX9_readsAll_48 ?_
      refine lv_iconst (v := (-1)) hx hb dX9_readsAll_51 (by decide) ?_
      refine lv_icmp_ne (tgt := 59) hx hb dX9_readsAll_52 (by decide) (fun c52 => ?_) (fun c52 => ?_)
      · refine lv_goto (tgt := 19) hx hb dX9_readsAll_59 (by decide) ?_
        exact ihkk _ _ _ ⟨(rd ch z 59 59 t w0).2.1, (rd ch z 59 59 t w0).2.2, k, K1, U1, w, lv_sub hl [1] rfl, (hra.trans (by rw [show 61 - kk = (61 - (kk + 1)) + 1 by omega, ra_n c24 c35 c52, ra_x (fun q => c52 q.1), rd_no c24 c52])), hr1.1, (fun q => absurd q c52)⟩ (by omega)
      · refine lv_aload_n hx hb dX9_readsAll_55 rfl (lv_at hl 1 rfl) ?_
        have hr3 := rd_ok hz htz c24 c52
        have hr2 := rc_le (ch := ch) hz hr1.1
        have w := w.cast (Bs' := [moB r (upd (upd (upd F 19 (nI ((rd ch z 59 59 t w0).2.1))) 20 (-1)) 21 (nI k)), arB ty (r 6) 60 ch, arB ty (r 8) 40 K1, arB ty (r 9) 40 U1]) (by rw [c52])
        refine k_vV (As := []) (rest := []) (Rs := []) (Bs' := [moB r (upd (upd (upd F 19 (nI ((rcS ch z ((rd ch z 59 59 t w0).2.1)).2.1))) 20 ((rcS ch z ((rd ch z 59 59 t w0).2.1)).2.2)) 21 (nI (k + 1))), arB ty (r 6) 60 ch, arB ty (r 8) 40 (upd K1 k (sg ch z ((rd ch z 59 59 t w0).2.1))), arB ty (r 9) 40 (upd U1 k (rcS ch z ((rd ch z 59 59 t w0).2.1)).1)]) ⟨hx, hb, hml, hown, hts⟩ w (c_X9_readsCommand l D ty r F ch z hz h18 ((rd ch z 59 59 t w0).2.1) (by omega) k (by omega) K1 U1) (cwV 0 hts gX9_readsAll_X9_readsCommand rfl rfl rfl ⟨rfl, hdN_X9_readsCommand⟩ ⟨Nat.le_of_ble_eq_true rfl, Nat.le_of_ble_eq_true rfl⟩) [0, 1, 2, 3] (nB := 4) (by decide) rfl rfl rfl rfl 0 rfl rfl (ci := 13) rfl rfl rfl hl.1 rfl (Nat.le_of_ble_eq_true rfl) dX9_readsAll_56 ⟨(Nat.zero_le _), (Nat.zero_le _)⟩ (fun H locs w => ?_)
        refine lv_goto (tgt := 19) hx hb dX9_readsAll_59 (by decide) ?_
        exact ihkk _ _ _ ⟨(rcS ch z (rd ch z 59 59 t w0).2.1).2.1, (rcS ch z (rd ch z 59 59 t w0).2.1).2.2, k + 1, upd K1 k (sg ch z (rd ch z 59 59 t w0).2.1), upd U1 k (rcS ch z (rd ch z 59 59 t w0).2.1).1, w, lv_sub hl [1] rfl, (hra.trans (by rw [show 61 - kk = (61 - (kk + 1)) + 1 by omega, ra_y c24 c35 c52])), hr2.1, (fun q => by have a1 := hr2.2.1; have a2 := hr2.2.2 q; have a3 := hib c24; omega)⟩ (by omega)

theorem in_X9_append_X9 : ∀ w ∈ wsX90, w ∈ wsX9_append := by decide +kernel
theorem hdN_X9_append : yX9_append.cls ≠ "java/lang/invoke/MethodHandle" ∧ yX9_append.cls ≠ "java/lang/invoke/VarHandle" ∧ (parseMethodDescriptor yX9_append.desc).map (fun d => d.parameters.length) = some 1 := by decide +kernel
set_option maxRecDepth 100000 in
set_option maxHeartbeats 4000000 in
theorem c_X9_append (l : Launch) (D : va_G) (ty : Nat → ClassId) (r : Nat → Nat) (F ch : pS) (y : Nat) (hy : y ≤ 60) (h12 : F 12 = nI y) (v : Int32)  : Mi l yX9_append wsX9_append (kR 0 0 0 0) D (kTY ty) [.ref (r 0), .int v] [moB r F, arB ty (r 6) 60 ch] [moB r (apF F y), arB ty (r 6) 60 (if y = 60 then ch else upd ch y v)] (if y = 60 then 0 else nI (y + 1)) 0 0 := by
  refine m_i (cc := cX9_append) (maxL := 2) (ret := (some .int)) (by decide +kernel) rfl (Nat.le_of_ble_eq_true rfl) ?_
  intro p e s m below meth c A ls hx hb hml hr hlocks hown hts w hl
  have hown : s.vm.findClass RX9 = some m.cls := hown
  have hl : lv_has ls 2 [(0, .ref (r 0)), (1, .int v)] := hl
  refine lv_aload_n hx hb dX9_append_0 rfl (lv_at hl 0 rfl) ?_
  refine lv_aload_n hx hb dX9_append_1 rfl (lv_at hl 0 rfl) ?_
  refine r_get (v' := .int (nI y)) hx hb hts in_X9_append_X9 hown w 0 0 rfl rfl (ci := 13) rfl 12 (by decide) (hts _ (List.mem_of_getElem? (i := 1) rfl)) rfl rfl (congrArg Value.int h12) dX9_append_2 ?_
  refine lv_bipush (v := 60) hx hb dX9_append_5 (by decide) ?_
  refine lv_icmp_ne (tgt := 14) hx hb dX9_append_7 (by decide) (fun c7 => ?_) (fun c7 => ?_)
  · have c7 := mt (nI_eq (a := y) (b := 60) (by omega) (by omega)).mpr c7
    refine lv_iconst (v := 0) hx hb dX9_append_14 (by decide) ?_
    refine r_put hx hb hts in_X9_append_X9 tyX9 tyX9_ok nmX9 hown w 0 0 rfl rfl (ci := 13) rfl 7 (by decide) (hts _ (List.mem_of_getElem? (i := 2) rfl)) rfl rfl (ty := .int) (by decide +kernel) rfl rfl (Nat.le_of_ble_eq_true rfl) (moB r (upd F 7 0)) rfl [moB r (upd F 7 0), arB ty (r 6) 60 ch] rfl dX9_append_15 (fun H locs w => ?_)
    refine lv_aload_n hx hb dX9_append_18 rfl (lv_at hl 0 rfl) ?_
    refine r_get (v' := .int 0) hx hb hts in_X9_append_X9 hown w 0 0 rfl rfl (ci := 13) rfl 7 (by decide) (hts _ (List.mem_of_getElem? (i := 2) rfl)) rfl rfl rfl dX9_append_19 ?_
    refine lv_if_eq (tgt := 27) hx hb dX9_append_22 (by decide) (fun c22 => ?_) (fun c22 => ?_)
    · refine lv_aload_n hx hb dX9_append_27 rfl (lv_at hl 0 rfl) ?_
      refine r_get (v' := .ref (r 6)) hx hb hts in_X9_append_X9 hown w 0 0 rfl rfl (ci := 13) rfl 11 (by decide) (hts _ (List.mem_of_getElem? (i := 3) rfl)) rfl rfl rfl dX9_append_28 ?_
      refine lv_aload_n hx hb dX9_append_31 rfl (lv_at hl 0 rfl) ?_
      refine r_get (v' := .int (nI y)) hx hb hts in_X9_append_X9 hown w 0 0 rfl rfl (ci := 13) rfl 12 (by decide) (hts _ (List.mem_of_getElem? (i := 1) rfl)) rfl rfl (congrArg Value.int h12) dX9_append_32 ?_
      refine lv_iload_n hx hb dX9_append_35 rfl (lv_at hl 1 rfl) ?_
      refine r_iast hx hb w 1 0 rfl rfl 0 rfl y (by omega) (by omega) rfl (arB ty (r 6) 60 (upd ch y v)) rfl [moB r (upd F 7 0), arB ty (r 6) 60 (upd ch y v)] rfl dX9_append_36 (fun H locs w => ?_)
      refine lv_aload_n hx hb dX9_append_37 rfl (lv_at hl 0 rfl) ?_
      refine lv_dup hx hb dX9_append_38 rfl ?_
      refine r_get (v' := .int (nI y)) hx hb hts in_X9_append_X9 hown w 0 0 rfl rfl (ci := 13) rfl 12 (by decide) (hts _ (List.mem_of_getElem? (i := 1) rfl)) rfl rfl (congrArg Value.int h12) dX9_append_39 ?_
      refine lv_iconst (v := 1) hx hb dX9_append_42 (by decide) ?_
      refine lv_iadd hx hb dX9_append_43 ?_
      refine r_eq (y := (nI (y + 1))) (nI_add y 1) ?_
      refine r_put hx hb hts in_X9_append_X9 tyX9 tyX9_ok nmX9 hown w 0 0 rfl rfl (ci := 13) rfl 12 (by decide) (hts _ (List.mem_of_getElem? (i := 1) rfl)) rfl rfl (ty := .int) (by decide +kernel) rfl rfl (Nat.le_of_ble_eq_true rfl) (moB r (upd (upd F 7 0) 12 (nI (y + 1)))) rfl [moB r (upd (upd F 7 0) 12 (nI (y + 1))), arB ty (r 6) 60 (upd ch y v)] rfl dX9_append_44 (fun H locs w => ?_)
      refine lv_aload_n hx hb dX9_append_47 rfl (lv_at hl 0 rfl) ?_
      refine r_get (v' := .int (nI (y + 1))) hx hb hts in_X9_append_X9 hown w 0 0 rfl rfl (ci := 13) rfl 12 (by decide) (hts _ (List.mem_of_getElem? (i := 1) rfl)) rfl rfl rfl dX9_append_48 ?_
      exact e_i hx hb hr hlocks (w.cast (by rw [apF, if_neg c7, if_neg c7])) (by rw [if_neg c7]) dX9_append_51 (Nat.le_refl _) (Nat.le_refl _)
    · exact absurd c22 (by decide)
  · have c7 := (nI_eq (a := y) (b := 60) (by omega) (by omega)).mp c7
    refine lv_iconst (v := 1) hx hb dX9_append_10 (by decide) ?_
    refine lv_goto (tgt := 15) hx hb dX9_append_11 (by decide) ?_
    refine r_put hx hb hts in_X9_append_X9 tyX9 tyX9_ok nmX9 hown w 0 0 rfl rfl (ci := 13) rfl 7 (by decide) (hts _ (List.mem_of_getElem? (i := 2) rfl)) rfl rfl (ty := .int) (by decide +kernel) rfl rfl (Nat.le_of_ble_eq_true rfl) (moB r (upd F 7 1)) rfl [moB r (upd F 7 1), arB ty (r 6) 60 ch] rfl dX9_append_15 (fun H locs w => ?_)
    refine lv_aload_n hx hb dX9_append_18 rfl (lv_at hl 0 rfl) ?_
    refine r_get (v' := .int 1) hx hb hts in_X9_append_X9 hown w 0 0 rfl rfl (ci := 13) rfl 7 (by decide) (hts _ (List.mem_of_getElem? (i := 2) rfl)) rfl rfl rfl dX9_append_19 ?_
    refine lv_if_eq (tgt := 27) hx hb dX9_append_22 (by decide) (fun c22 => ?_) (fun c22 => ?_)
    · exact absurd c22 (by decide)
    · refine lv_iconst (v := 0) hx hb dX9_append_25 (by decide) ?_
      exact e_i hx hb hr hlocks (w.cast (by rw [apF, if_pos c7, if_pos c7])) (by rw [if_pos c7]) dX9_append_26 (Nat.le_refl _) (Nat.le_refl _)

theorem in_X9_faultPosition_X9 : ∀ w ∈ wsX90, w ∈ wsX9_faultPosition := by decide +kernel
theorem hdN_X9_faultPosition : yX9_faultPosition.cls ≠ "java/lang/invoke/MethodHandle" ∧ yX9_faultPosition.cls ≠ "java/lang/invoke/VarHandle" ∧ (parseMethodDescriptor yX9_faultPosition.desc).map (fun d => d.parameters.length) = some 0 := by decide +kernel
set_option maxRecDepth 100000 in
set_option maxHeartbeats 4000000 in
theorem c_X9_faultPosition (l : Launch) (D : va_G) (ty : Nat → ClassId) (r : Nat → Nat) (F : pS)  : Mi l yX9_faultPosition wsX9_faultPosition (kR 0 0 0 0) D (kTY ty) [.ref (r 0)] [moB r F] [moB r (upd F 7 0)] (F 13) 0 0 := by
  refine m_i (cc := cX9_faultPosition) (maxL := 1) (ret := (some .int)) (by decide +kernel) rfl (Nat.le_of_ble_eq_true rfl) ?_
  intro p e s m below meth c A ls hx hb hml hr hlocks hown hts w hl
  have hown : s.vm.findClass RX9 = some m.cls := hown
  have hl : lv_has ls 1 [(0, .ref (r 0))] := hl
  refine lv_aload_n hx hb dX9_faultPosition_0 rfl (lv_at hl 0 rfl) ?_
  refine lv_iconst (v := 0) hx hb dX9_faultPosition_1 (by decide) ?_
  refine r_put hx hb hts in_X9_faultPosition_X9 tyX9 tyX9_ok nmX9 hown w 0 0 rfl rfl (ci := 13) rfl 7 (by decide) (hts _ (List.mem_of_getElem? (i := 1) rfl)) rfl rfl (ty := .int) (by decide +kernel) rfl rfl (Nat.le_of_ble_eq_true rfl) (moB r (upd F 7 0)) rfl [moB r (upd F 7 0)] rfl dX9_faultPosition_2 (fun H locs w => ?_)
  refine lv_aload_n hx hb dX9_faultPosition_5 rfl (lv_at hl 0 rfl) ?_
  refine r_get (v' := .int (F 13)) hx hb hts in_X9_faultPosition_X9 hown w 0 0 rfl rfl (ci := 13) rfl 13 (by decide) (hts _ (List.mem_of_getElem? (i := 2) rfl)) rfl rfl rfl dX9_faultPosition_6 ?_
  exact e_i hx hb hr hlocks w rfl dX9_faultPosition_9 (Nat.le_refl _) (Nat.le_refl _)

theorem in_X9_undo_X9 : ∀ w ∈ wsX90, w ∈ wsX9_undo := by decide +kernel
theorem hdN_X9_undo : yX9_undo.cls ≠ "java/lang/invoke/MethodHandle" ∧ yX9_undo.cls ≠ "java/lang/invoke/VarHandle" ∧ (parseMethodDescriptor yX9_undo.desc).map (fun d => d.parameters.length) = some 0 := by decide +kernel
set_option maxRecDepth 100000 in
set_option maxHeartbeats 4000000 in
theorem c_X9_undo (l : Launch) (D : va_G) (ty : Nat → ClassId) (r : Nat → Nat) (F S : pS) (HA : Nat → Int32) (y : Nat) (hz : y ≤ 8) (h6 : F 6 = nI y)  : Mi l yX9_undo wsX9_undo (kR 1 24 0 0) D (kTY ty) [.ref (r 0)] [moB r F, arB ty (r 1) 215 (sqA 215 S), arB ty (r 5) 1720 HA] [moB r (unF F y), arB ty (r 1) 215 (sqA 215 (unS HA S y)), arB ty (r 5) 1720 HA] (nI (y - 1)) 0 0 := by
  refine m_i (cc := cX9_undo) (maxL := 1) (ret := (some .int)) (by decide +kernel) rfl (Nat.le_of_ble_eq_true rfl) ?_
  intro p e s m below meth c A ls hx hb hml hr hlocks hown hts w hl
  have hown : s.vm.findClass RX9 = some m.cls := hown
  have hl : lv_has ls 1 [(0, .ref (r 0))] := hl
  refine lv_aload_n hx hb dX9_undo_0 rfl (lv_at hl 0 rfl) ?_
  refine lv_aload_n hx hb dX9_undo_1 rfl (lv_at hl 0 rfl) ?_
  refine r_get (v' := .int (nI y)) hx hb hts in_X9_undo_X9 hown w 0 0 rfl rfl (ci := 13) rfl 6 (by decide) (hts _ (List.mem_of_getElem? (i := 1) rfl)) rfl rfl (congrArg Value.int h6) dX9_undo_2 ?_
  refine lv_if_ne (tgt := 12) hx hb dX9_undo_5 (by decide) (fun c5 => ?_) (fun c5 => ?_)
  · have hy0 : ¬ y = 0 := fun q => c5 (by rw [q]; rfl)
    refine lv_iconst (v := 0) hx hb dX9_undo_12 (by decide) ?_
    refine r_put hx hb hts in_X9_undo_X9 tyX9 tyX9_ok nmX9 hown w 0 0 rfl rfl (ci := 13) rfl 7 (by decide) (hts _ (List.mem_of_getElem? (i := 2) rfl)) rfl rfl (ty := .int) (by decide +kernel) rfl rfl (Nat.le_of_ble_eq_true rfl) (moB r (upd F 7 0)) rfl [moB r (upd F 7 0), arB ty (r 1) 215 (sqA 215 S), arB ty (r 5) 1720 HA] rfl dX9_undo_13 (fun H locs w => ?_)
    refine lv_aload_n hx hb dX9_undo_16 rfl (lv_at hl 0 rfl) ?_
    refine r_get (v' := .int 0) hx hb hts in_X9_undo_X9 hown w 0 0 rfl rfl (ci := 13) rfl 7 (by decide) (hts _ (List.mem_of_getElem? (i := 2) rfl)) rfl rfl rfl dX9_undo_17 ?_
    refine lv_if_eq (tgt := 25) hx hb dX9_undo_20 (by decide) (fun c20 => ?_) (fun c20 => ?_)
    · refine lv_aload_n hx hb dX9_undo_25 rfl (lv_at hl 0 rfl) ?_
      refine lv_dup hx hb dX9_undo_26 rfl ?_
      refine r_get (v' := .int (nI y)) hx hb hts in_X9_undo_X9 hown w 0 0 rfl rfl (ci := 13) rfl 6 (by decide) (hts _ (List.mem_of_getElem? (i := 1) rfl)) rfl rfl (congrArg Value.int h6) dX9_undo_27 ?_
      refine lv_iconst (v := 1) hx hb dX9_undo_30 (by decide) ?_
      refine lv_isub hx hb dX9_undo_31 ?_
      refine r_eq (y := (nI (y - 1))) (pk_sub (a := y) (b := 1) (by omega)) ?_
      refine r_put hx hb hts in_X9_undo_X9 tyX9 tyX9_ok nmX9 hown w 0 0 rfl rfl (ci := 13) rfl 6 (by decide) (hts _ (List.mem_of_getElem? (i := 1) rfl)) rfl rfl (ty := .int) (by decide +kernel) rfl rfl (Nat.le_of_ble_eq_true rfl) (moB r (upd (upd F 7 0) 6 (nI (y - 1)))) rfl [moB r (upd (upd F 7 0) 6 (nI (y - 1))), arB ty (r 1) 215 (sqA 215 S), arB ty (r 5) 1720 HA] rfl dX9_undo_32 (fun H locs w => ?_)
      refine lv_aload_n hx hb dX9_undo_35 rfl (lv_at hl 0 rfl) ?_
      refine r_get (v' := .ref (r 5)) hx hb hts in_X9_undo_X9 hown w 0 0 rfl rfl (ci := 13) rfl 4 (by decide) (hts _ (List.mem_of_getElem? (i := 3) rfl)) rfl rfl rfl dX9_undo_36 ?_
      refine lv_aload_n hx hb dX9_undo_39 rfl (lv_at hl 0 rfl) ?_
      refine r_get (v' := .int (nI (y - 1))) hx hb hts in_X9_undo_X9 hown w 0 0 rfl rfl (ci := 13) rfl 6 (by decide) (hts _ (List.mem_of_getElem? (i := 1) rfl)) rfl rfl rfl dX9_undo_40 ?_
      refine lv_sipush (v := 215) hx hb dX9_undo_43 (by decide) ?_
      refine lv_imul hx hb dX9_undo_46 ?_
      refine r_eq (y := (nI ((y - 1) * 215))) (pk_mul (y - 1) 215) ?_
      refine lv_aload_n hx hb dX9_undo_47 rfl (lv_at hl 0 rfl) ?_
      refine r_get (v' := .ref (r 1)) hx hb hts in_X9_undo_X9 hown w 0 0 rfl rfl (ci := 13) rfl 0 (by decide) (hts _ (List.mem_of_getElem? (i := 4) rfl)) rfl rfl rfl dX9_undo_48 ?_
      refine lv_iconst (v := 0) hx hb dX9_undo_51 (by decide) ?_
      refine k_vS (As := [.ref (r 5), .int (nI ((y - 1) * 215)), .ref (r 1), .int 0]) (rest := []) (Rs := [moB r (upd (upd F 7 0) 6 (nI (y - 1)))]) (Bs' := [moB r (upd (upd F 7 0) 6 (nI (y - 1))), arB ty (r 1) 215 (sqA 215 (hAt HA (y - 1))), arB ty (r 5) 1720 HA]) ⟨hx, hb, hml, hown, hts⟩ w (c_cpG l D ty (r 5) (r 1) HA S (y - 1) (by omega)) (va_cwS 4 hts gX9_undo_X9_copies rfl rfl rfl hdN_X9_copies ⟨Nat.le_of_ble_eq_true rfl, Nat.le_of_ble_eq_true rfl⟩) [2, 1, 0] (nB := 3) (by decide) rfl rfl rfl rfl rfl hl.1 rfl (Nat.le_of_ble_eq_true rfl) dX9_undo_52 ⟨(Nat.zero_le _), (Nat.zero_le _)⟩ (fun H locs w => ?_)
      refine lv_aload_n hx hb dX9_undo_55 rfl (lv_at hl 0 rfl) ?_
      refine r_get (v' := .int (nI (y - 1))) hx hb hts in_X9_undo_X9 hown w 0 0 rfl rfl (ci := 13) rfl 6 (by decide) (hts _ (List.mem_of_getElem? (i := 1) rfl)) rfl rfl rfl dX9_undo_56 ?_
      exact e_i hx hb hr hlocks (w.cast (by rw [unF, unS, if_neg hy0, if_neg hy0])) rfl dX9_undo_59 (Nat.le_refl _) (Nat.le_refl _)
    · exact absurd c20 (by decide)
  · have hy0 : y = 0 := by rcases Nat.eq_zero_or_pos y with q | q; exact q; exact absurd c5 (nI_ne0 q (by omega))
    refine lv_iconst (v := 1) hx hb dX9_undo_8 (by decide) ?_
    refine lv_goto (tgt := 13) hx hb dX9_undo_9 (by decide) ?_
    refine r_put hx hb hts in_X9_undo_X9 tyX9 tyX9_ok nmX9 hown w 0 0 rfl rfl (ci := 13) rfl 7 (by decide) (hts _ (List.mem_of_getElem? (i := 2) rfl)) rfl rfl (ty := .int) (by decide +kernel) rfl rfl (Nat.le_of_ble_eq_true rfl) (moB r (upd F 7 1)) rfl [moB r (upd F 7 1), arB ty (r 1) 215 (sqA 215 S), arB ty (r 5) 1720 HA] rfl dX9_undo_13 (fun H locs w => ?_)
    refine lv_aload_n hx hb dX9_undo_16 rfl (lv_at hl 0 rfl) ?_
    refine r_get (v' := .int 1) hx hb hts in_X9_undo_X9 hown w 0 0 rfl rfl (ci := 13) rfl 7 (by decide) (hts _ (List.mem_of_getElem? (i := 2) rfl)) rfl rfl rfl dX9_undo_17 ?_
    refine lv_if_eq (tgt := 25) hx hb dX9_undo_20 (by decide) (fun c20 => ?_) (fun c20 => ?_)
    · exact absurd c20 (by decide)
    · refine lv_iconst (v := 0) hx hb dX9_undo_23 (by decide) ?_
      exact e_i hx hb hr hlocks (w.cast (by rw [unF, unS, if_pos hy0, if_pos hy0])) (by rw [hy0]; rfl) dX9_undo_24 (Nat.le_refl _) (Nat.le_refl _)

theorem in_X9_save_X9 : ∀ w ∈ wsX90, w ∈ wsX9_save := by decide +kernel
theorem hdN_X9_save : yX9_save.cls ≠ "java/lang/invoke/MethodHandle" ∧ yX9_save.cls ≠ "java/lang/invoke/VarHandle" ∧ (parseMethodDescriptor yX9_save.desc).map (fun d => d.parameters.length) = some 0 := by decide +kernel
set_option maxRecDepth 100000 in
set_option maxHeartbeats 4000000 in
theorem c_X9_save (l : Launch) (D : va_G) (ty : Nat → ClassId) (r : Nat → Nat) (F S V : pS)  : Mi l yX9_save wsX9_save (kR 1 24 0 0) D (kTY ty) [.ref (r 0)] [moB r F, arB ty (r 1) 215 (sqA 215 S), arB ty (r 4) 215 (sqA 215 V)] [moB r (upd (upd F 7 0) 5 1), arB ty (r 1) 215 (sqA 215 S), arB ty (r 4) 215 (sqA 215 S)] (S 206) 0 0 := by
  refine m_i (cc := cX9_save) (maxL := 1) (ret := (some .int)) (by decide +kernel) rfl (Nat.le_of_ble_eq_true rfl) ?_
  intro p e s m below meth c A ls hx hb hml hr hlocks hown hts w hl
  have hown : s.vm.findClass RX9 = some m.cls := hown
  have hl : lv_has ls 1 [(0, .ref (r 0))] := hl
  refine lv_aload_n hx hb dX9_save_0 rfl (lv_at hl 0 rfl) ?_
  refine lv_iconst (v := 0) hx hb dX9_save_1 (by decide) ?_
  refine r_put hx hb hts in_X9_save_X9 tyX9 tyX9_ok nmX9 hown w 0 0 rfl rfl (ci := 13) rfl 7 (by decide) (hts _ (List.mem_of_getElem? (i := 1) rfl)) rfl rfl (ty := .int) (by decide +kernel) rfl rfl (Nat.le_of_ble_eq_true rfl) (moB r (upd F 7 0)) rfl [moB r (upd F 7 0), arB ty (r 1) 215 (sqA 215 S), arB ty (r 4) 215 (sqA 215 V)] rfl dX9_save_2 (fun H locs w => ?_)
  refine lv_aload_n hx hb dX9_save_5 rfl (lv_at hl 0 rfl) ?_
  refine r_get (v' := .ref (r 1)) hx hb hts in_X9_save_X9 hown w 0 0 rfl rfl (ci := 13) rfl 0 (by decide) (hts _ (List.mem_of_getElem? (i := 2) rfl)) rfl rfl rfl dX9_save_6 ?_
  refine lv_iconst (v := 0) hx hb dX9_save_9 (by decide) ?_
  refine lv_aload_n hx hb dX9_save_10 rfl (lv_at hl 0 rfl) ?_
  refine r_get (v' := .ref (r 4)) hx hb hts in_X9_save_X9 hown w 0 0 rfl rfl (ci := 13) rfl 3 (by decide) (hts _ (List.mem_of_getElem? (i := 3) rfl)) rfl rfl rfl dX9_save_11 ?_
  refine lv_iconst (v := 0) hx hb dX9_save_14 (by decide) ?_
  refine k_vS (As := [.ref (r 1), .int 0, .ref (r 4), .int 0]) (rest := []) (Rs := [moB r (upd F 7 0)]) (Bs' := [moB r (upd F 7 0), arB ty (r 1) 215 (sqA 215 S), arB ty (r 4) 215 (sqA 215 S)]) ⟨hx, hb, hml, hown, hts⟩ w (c_cpS l D ty (r 1) (r 4) S V) (va_cwS 4 hts gX9_save_X9_copies rfl rfl rfl hdN_X9_copies ⟨Nat.le_of_ble_eq_true rfl, Nat.le_of_ble_eq_true rfl⟩) [1, 2, 0] (nB := 3) (by decide) rfl rfl rfl rfl rfl hl.1 rfl (Nat.le_of_ble_eq_true rfl) dX9_save_15 ⟨(Nat.zero_le _), (Nat.zero_le _)⟩ (fun H locs w => ?_)
  refine lv_aload_n hx hb dX9_save_18 rfl (lv_at hl 0 rfl) ?_
  refine lv_iconst (v := 1) hx hb dX9_save_19 (by decide) ?_
  refine r_put hx hb hts in_X9_save_X9 tyX9 tyX9_ok nmX9 hown w 0 0 rfl rfl (ci := 13) rfl 5 (by decide) (hts _ (List.mem_of_getElem? (i := 4) rfl)) rfl rfl (ty := .boolean) (by decide +kernel) rfl rfl (Nat.le_of_ble_eq_true rfl) (moB r (upd (upd F 7 0) 5 1)) rfl [moB r (upd (upd F 7 0) 5 1), arB ty (r 1) 215 (sqA 215 S), arB ty (r 4) 215 (sqA 215 S)] rfl dX9_save_20 (fun H locs w => ?_)
  refine lv_aload_n hx hb dX9_save_23 rfl (lv_at hl 0 rfl) ?_
  refine r_get (v' := .ref (r 1)) hx hb hts in_X9_save_X9 hown w 0 0 rfl rfl (ci := 13) rfl 0 (by decide) (hts _ (List.mem_of_getElem? (i := 2) rfl)) rfl rfl rfl dX9_save_24 ?_
  refine lv_sipush (v := 206) hx hb dX9_save_27 (by decide) ?_
  refine r_iald (v := (S 206)) hx hb w 1 0 rfl rfl 0 rfl 206 (by omega) (Nat.le_of_ble_eq_true rfl) rfl (sqA_at (by omega)) dX9_save_30 ?_
  exact e_i hx hb hr hlocks w rfl dX9_save_31 (Nat.le_refl _) (Nat.le_refl _)

theorem in_X9_restore_X9 : ∀ w ∈ wsX90, w ∈ wsX9_restore := by decide +kernel
theorem hdN_X9_restore : yX9_restore.cls ≠ "java/lang/invoke/MethodHandle" ∧ yX9_restore.cls ≠ "java/lang/invoke/VarHandle" ∧ (parseMethodDescriptor yX9_restore.desc).map (fun d => d.parameters.length) = some 0 := by decide +kernel
set_option maxRecDepth 100000 in
set_option maxHeartbeats 4000000 in
theorem c_X9_restore (l : Launch) (D : va_G) (ty : Nat → ClassId) (r : Nat → Nat) (F S V : pS) (b : Bool) (h5 : F 5 = bI b)  : Mi l yX9_restore wsX9_restore (kR 1 24 0 0) D (kTY ty) [.ref (r 0)] [moB r F, arB ty (r 1) 215 (sqA 215 S), arB ty (r 4) 215 (sqA 215 V)] [moB r (if b = true then upd (upd F 7 0) 6 0 else upd F 7 1), arB ty (r 1) 215 (sqA 215 (if b = true then V else S)), arB ty (r 4) 215 (sqA 215 V)] (if b = true then V 206 else 0) 0 0 := by
  refine m_i (cc := cX9_restore) (maxL := 1) (ret := (some .int)) (by decide +kernel) rfl (Nat.le_of_ble_eq_true rfl) ?_
  intro p e s m below meth c A ls hx hb hml hr hlocks hown hts w hl
  have hown : s.vm.findClass RX9 = some m.cls := hown
  have hl : lv_has ls 1 [(0, .ref (r 0))] := hl
  refine lv_aload_n hx hb dX9_restore_0 rfl (lv_at hl 0 rfl) ?_
  refine lv_aload_n hx hb dX9_restore_1 rfl (lv_at hl 0 rfl) ?_
  refine r_get (v' := .int (bI b)) hx hb hts in_X9_restore_X9 hown w 0 0 rfl rfl (ci := 13) rfl 5 (by decide) (hts _ (List.mem_of_getElem? (i := 1) rfl)) rfl rfl (congrArg Value.int h5) dX9_restore_2 ?_
  refine lv_if_eq (tgt := 12) hx hb dX9_restore_5 (by decide) (fun c5 => ?_) (fun c5 => ?_)
  · have c5 := bI_0.mp c5
    refine lv_iconst (v := 1) hx hb dX9_restore_12 (by decide) ?_
    refine r_put hx hb hts in_X9_restore_X9 tyX9 tyX9_ok nmX9 hown w 0 0 rfl rfl (ci := 13) rfl 7 (by decide) (hts _ (List.mem_of_getElem? (i := 2) rfl)) rfl rfl (ty := .int) (by decide +kernel) rfl rfl (Nat.le_of_ble_eq_true rfl) (moB r (upd F 7 1)) rfl [moB r (upd F 7 1), arB ty (r 1) 215 (sqA 215 S), arB ty (r 4) 215 (sqA 215 V)] rfl dX9_restore_13 (fun H locs w => ?_)
    refine lv_aload_n hx hb dX9_restore_16 rfl (lv_at hl 0 rfl) ?_
    refine r_get (v' := .int 1) hx hb hts in_X9_restore_X9 hown w 0 0 rfl rfl (ci := 13) rfl 7 (by decide) (hts _ (List.mem_of_getElem? (i := 2) rfl)) rfl rfl rfl dX9_restore_17 ?_
    refine lv_if_eq (tgt := 25) hx hb dX9_restore_20 (by decide) (fun c20 => ?_) (fun c20 => ?_)
    · exact absurd c20 (by decide)
    · refine lv_iconst (v := 0) hx hb dX9_restore_23 (by decide) ?_
      exact e_i hx hb hr hlocks (w.cast (by rw [if_neg (bt_n c5), if_neg (bt_n c5)])) (by rw [if_neg (bt_n c5)]) dX9_restore_24 (Nat.le_refl _) (Nat.le_refl _)
  · have c5 := bI_1.mp c5
    refine lv_iconst (v := 0) hx hb dX9_restore_8 (by decide) ?_
    refine lv_goto (tgt := 13) hx hb dX9_restore_9 (by decide) ?_
    refine r_put hx hb hts in_X9_restore_X9 tyX9 tyX9_ok nmX9 hown w 0 0 rfl rfl (ci := 13) rfl 7 (by decide) (hts _ (List.mem_of_getElem? (i := 2) rfl)) rfl rfl (ty := .int) (by decide +kernel) rfl rfl (Nat.le_of_ble_eq_true rfl) (moB r (upd F 7 0)) rfl [moB r (upd F 7 0), arB ty (r 1) 215 (sqA 215 S), arB ty (r 4) 215 (sqA 215 V)] rfl dX9_restore_13 (fun H locs w => ?_)
    refine lv_aload_n hx hb dX9_restore_16 rfl (lv_at hl 0 rfl) ?_
    refine r_get (v' := .int 0) hx hb hts in_X9_restore_X9 hown w 0 0 rfl rfl (ci := 13) rfl 7 (by decide) (hts _ (List.mem_of_getElem? (i := 2) rfl)) rfl rfl rfl dX9_restore_17 ?_
    refine lv_if_eq (tgt := 25) hx hb dX9_restore_20 (by decide) (fun c20 => ?_) (fun c20 => ?_)
    · refine lv_aload_n hx hb dX9_restore_25 rfl (lv_at hl 0 rfl) ?_
      refine r_get (v' := .ref (r 4)) hx hb hts in_X9_restore_X9 hown w 0 0 rfl rfl (ci := 13) rfl 3 (by decide) (hts _ (List.mem_of_getElem? (i := 3) rfl)) rfl rfl rfl dX9_restore_26 ?_
      refine lv_iconst (v := 0) hx hb dX9_restore_29 (by decide) ?_
      refine lv_aload_n hx hb dX9_restore_30 rfl (lv_at hl 0 rfl) ?_
      refine r_get (v' := .ref (r 1)) hx hb hts in_X9_restore_X9 hown w 0 0 rfl rfl (ci := 13) rfl 0 (by decide) (hts _ (List.mem_of_getElem? (i := 4) rfl)) rfl rfl rfl dX9_restore_31 ?_
      refine lv_iconst (v := 0) hx hb dX9_restore_34 (by decide) ?_
      refine k_vS (As := [.ref (r 4), .int 0, .ref (r 1), .int 0]) (rest := []) (Rs := [moB r (upd F 7 0)]) (Bs' := [moB r (upd F 7 0), arB ty (r 1) 215 (sqA 215 V), arB ty (r 4) 215 (sqA 215 V)]) ⟨hx, hb, hml, hown, hts⟩ w (c_cpS l D ty (r 4) (r 1) V S) (va_cwS 4 hts gX9_restore_X9_copies rfl rfl rfl hdN_X9_copies ⟨Nat.le_of_ble_eq_true rfl, Nat.le_of_ble_eq_true rfl⟩) [2, 1, 0] (nB := 3) (by decide) rfl rfl rfl rfl rfl hl.1 rfl (Nat.le_of_ble_eq_true rfl) dX9_restore_35 ⟨(Nat.zero_le _), (Nat.zero_le _)⟩ (fun H locs w => ?_)
      refine lv_aload_n hx hb dX9_restore_38 rfl (lv_at hl 0 rfl) ?_
      refine lv_iconst (v := 0) hx hb dX9_restore_39 (by decide) ?_
      refine r_put hx hb hts in_X9_restore_X9 tyX9 tyX9_ok nmX9 hown w 0 0 rfl rfl (ci := 13) rfl 6 (by decide) (hts _ (List.mem_of_getElem? (i := 5) rfl)) rfl rfl (ty := .int) (by decide +kernel) rfl rfl (Nat.le_of_ble_eq_true rfl) (moB r (upd (upd F 7 0) 6 0)) rfl [moB r (upd (upd F 7 0) 6 0), arB ty (r 1) 215 (sqA 215 V), arB ty (r 4) 215 (sqA 215 V)] rfl dX9_restore_40 (fun H locs w => ?_)
      refine lv_aload_n hx hb dX9_restore_43 rfl (lv_at hl 0 rfl) ?_
      refine r_get (v' := .ref (r 1)) hx hb hts in_X9_restore_X9 hown w 0 0 rfl rfl (ci := 13) rfl 0 (by decide) (hts _ (List.mem_of_getElem? (i := 4) rfl)) rfl rfl rfl dX9_restore_44 ?_
      refine lv_sipush (v := 206) hx hb dX9_restore_47 (by decide) ?_
      refine r_iald (v := (V 206)) hx hb w 1 0 rfl rfl 0 rfl 206 (by omega) (Nat.le_of_ble_eq_true rfl) rfl (sqA_at (by omega)) dX9_restore_50 ?_
      exact e_i hx hb hr hlocks (w.cast (by rw [if_pos c5, if_pos c5])) (by rw [if_pos c5]) dX9_restore_51 (Nat.le_refl _) (Nat.le_refl _)
    · exact absurd c20 (by decide)

theorem in_X9_put_X9 : ∀ w ∈ wsX90, w ∈ wsX9_put := by decide +kernel
theorem hdN_X9_put : yX9_put.cls ≠ "java/lang/invoke/MethodHandle" ∧ yX9_put.cls ≠ "java/lang/invoke/VarHandle" ∧ (parseMethodDescriptor yX9_put.desc).map (fun d => d.parameters.length) = some 2 := by decide +kernel
set_option maxRecDepth 100000 in
set_option maxHeartbeats 4000000 in
theorem c_X9_put (l : Launch) (D : va_G) (ty : Nat → ClassId) (r : Nat → Nat) (F g : pS) (k : Nat) (hk : k < 60) (v : Int32)  : Mi l yX9_put wsX9_put (kR 0 0 0 0) D (kTY ty) [.ref (r 0), .int (nI k), .int v] [moB r F, arB ty (r 7) 60 g] [moB r F, arB ty (r 7) 60 (putL g k [v])] (nI (k + 1)) 0 0 := by
  refine m_i (cc := cX9_put) (maxL := 3) (ret := (some .int)) (by decide +kernel) rfl (Nat.le_of_ble_eq_true rfl) ?_
  intro p e s m below meth c A ls hx hb hml hr hlocks hown hts w hl
  have hown : s.vm.findClass RX9 = some m.cls := hown
  have hl : lv_has ls 3 [(0, .ref (r 0)), (1, .int (nI k)), (2, .int v)] := hl
  refine lv_aload_n hx hb dX9_put_0 rfl (lv_at hl 0 rfl) ?_
  refine r_get (v' := .ref (r 7)) hx hb hts in_X9_put_X9 hown w 0 0 rfl rfl (ci := 13) rfl 14 (by decide) (hts _ (List.mem_of_getElem? (i := 1) rfl)) rfl rfl rfl dX9_put_1 ?_
  refine lv_iload_n hx hb dX9_put_4 rfl (lv_at hl 1 rfl) ?_
  refine lv_iload_n hx hb dX9_put_5 rfl (lv_at hl 2 rfl) ?_
  refine r_iast hx hb w 1 0 rfl rfl 0 rfl k (by omega) (by omega) rfl (arB ty (r 7) 60 (putL g k [v])) (by rw [← putL_1]; rfl) [moB r F, arB ty (r 7) 60 (putL g k [v])] rfl dX9_put_6 (fun H locs w => ?_)
  refine lv_iload_n hx hb dX9_put_7 rfl (lv_at hl 1 rfl) ?_
  refine lv_iconst (v := 1) hx hb dX9_put_8 (by decide) ?_
  refine lv_iadd hx hb dX9_put_9 ?_
  refine r_eq (y := (nI (k + 1))) (nI_add k 1) ?_
  exact e_i hx hb hr hlocks w rfl dX9_put_10 (Nat.le_refl _) (Nat.le_refl _)

theorem hdN_X9_writes : yX9_writes.cls ≠ "java/lang/invoke/MethodHandle" ∧ yX9_writes.cls ≠ "java/lang/invoke/VarHandle" ∧ (parseMethodDescriptor yX9_writes.desc).map (fun d => d.parameters.length) = some 2 := by decide +kernel
set_option maxRecDepth 100000 in
set_option maxHeartbeats 4000000 in
theorem c_X9_writes (l : Launch) (D : va_G) (ty : Nat → ClassId) (r : Nat → Nat) (F g : pS) (u : Nat) (hu : u + 7 ≤ 60) (d : Nat) (hd : d < 10 ^ 7)  : Mi l yX9_writes wsX9_writes (kR 1 22 0 0) D (kTY ty) [.ref (r 0), .int (nI u), .int (nI d)] [moB r F, arB ty (r 7) 60 g] [moB r F, arB ty (r 7) 60 (putL g u (dig d))] (nI (u + (dgE 9 d + 1))) 0 0 := by
  refine m_i (cc := cX9_writes) (maxL := 5) (ret := (some .int)) (by decide +kernel) rfl (Nat.le_of_ble_eq_true rfl) ?_
  intro p e s m below meth c A ls hx hb hml hr hlocks hown hts w hl
  have hown : s.vm.findClass RX9 = some m.cls := hown
  have hl : lv_has ls 5 [(0, .ref (r 0)), (1, .int (nI u)), (2, .int (nI d))] := hl
  refine lv_iload_n hx hb dX9_writes_0 rfl (lv_at hl 1 rfl) ?_
  refine lv_istore_n (lv' := [(3, .int (nI u)), (0, .ref (r 0)), (1, .int (nI u)), (2, .int (nI d))]) hx hb dX9_writes_1 rfl hl (by decide) rfl (fun ls hl => ?_)
  refine lv_iconst (v := 1) hx hb dX9_writes_2 (by decide) ?_
  refine lv_istore (lv' := [(4, .int 1), (3, .int (nI u)), (0, .ref (r 0)), (1, .int (nI u)), (2, .int (nI d))]) hx hb dX9_writes_3 hl (by decide) rfl (fun ls hl => ?_)
  refine k_loop (fun k H locs ls => kW D (kTY ty) A s.heap s H locs [moB r F, arB ty (r 7) 60 g] ∧ lv_has ls 5 [(0, .ref (r 0)), (1, .int (nI u)), (2, .int (nI d)), (3, .int (nI u)), (4, .int (nI (10 ^ k)))] ∧ (∀ i, i < k → 10 ≤ d / 10 ^ i)) 6 0 (by omega) ⟨w, lv_sub hl [2, 3, 4, 1, 0] rfl, (fun i hi => absurd hi (Nat.not_lt_zero i))⟩ ?_
  intro k hk0 hk ihk H locs ls hI
  obtain ⟨w, hl, hdk⟩ := hI
  refine lv_iload_n hx hb dX9_writes_5 rfl (lv_at hl 2 rfl) ?_
  have hpb := pw_b (k := k) (by omega)
  have hdl := Nat.div_le_self d (10 ^ k)
  have hdd : d < 10000000 := hd
  refine lv_iload hx hb dX9_writes_6 (lv_at hl 4 rfl) ?_
  refine lv_idiv hx hb dX9_writes_8 (nI_ne0 (by omega) (by omega)) ?_
  refine r_eq (y := (nI (d / 10 ^ k))) (pk_div (by omega) (by omega) (by omega)) ?_
  refine lv_bipush (v := 10) hx hb dX9_writes_9 (by decide) ?_
  refine lv_icmp_lt (tgt := 24) hx hb dX9_writes_11 (by decide) (fun c11 => ?_) (fun c11 => ?_)
  · have c11 := (nI_ltI (a := (d / 10 ^ k)) (b := 10) (by omega) (by omega)).mp c11
    have hdg : dgE 9 d = k := dg_e k 9 d (by omega) hdk c11
    refine k_loop (fun kk H locs ls => kW D (kTY ty) A s.heap s H locs [moB r F, arB ty (r 7) 60 (putL g u (digK k d kk))] ∧ lv_has ls 5 [(0, .ref (r 0)), (1, .int (nI u)), (2, .int (nI d)), (3, .int (nI (u + kk))), (4, .int (nI (pwr k kk)))]) (k + 1) 0 (by omega) ⟨(w.cast (by rw [show digK k d 0 = [] from rfl, putL_0])), (by rw [pwr_in (Nat.zero_le k)]; exact lv_sub hl [0, 1, 2, 3, 4] rfl)⟩ ?_
    intro kk hkk0 hkk ihkk H locs ls hI
    obtain ⟨w, hl⟩ := hI
    refine lv_iload hx hb dX9_writes_24 (lv_at hl 4 rfl) ?_
    refine lv_if_le (tgt := 55) hx hb dX9_writes_26 (by decide) (fun c26 => ?_) (fun c26 => ?_)
    · have hkk : kk = k + 1 := by
        rcases Nat.lt_or_ge k kk with q | q
        · omega
        · have hpw := pw_b (k := k - kk) (by omega)
          rw [pwr_in q] at c26
          exact absurd c26 (nI_nle hpw.1 (by omega))
      subst hkk
      refine lv_iload_n hx hb dX9_writes_55 rfl (lv_at hl 3 rfl) ?_
      exact e_i hx hb hr hlocks (w.cast (by rw [dig, hdg]; rfl)) (by rw [hdg]) dX9_writes_56 (Nat.le_refl _) (Nat.le_refl _)
    · have hkk : kk ≤ k := by
        rcases Nat.lt_or_ge k kk with q | q
        · rw [pwr, if_neg (by omega)] at c26
          exact absurd (by decide) c26
        · exact q
      rw [pwr_in hkk] at hl
      have hpw := pw_b (k := k - kk) (by omega)
      have hdl2 := Nat.div_le_self d (10 ^ (k - kk))
      refine lv_aload_n hx hb dX9_writes_29 rfl (lv_at hl 0 rfl) ?_
      refine lv_iload_n hx hb dX9_writes_30 rfl (lv_at hl 3 rfl) ?_
      refine lv_bipush (v := 48) hx hb dX9_writes_31 (by decide) ?_
      refine lv_iload_n hx hb dX9_writes_33 rfl (lv_at hl 2 rfl) ?_
      refine lv_iload hx hb dX9_writes_34 (lv_at hl 4 rfl) ?_
      refine lv_idiv hx hb dX9_writes_36 (nI_ne0 (by omega) (by omega)) ?_
      refine r_eq (y := (nI (d / 10 ^ (k - kk)))) (pk_div (by omega) (by omega) (by omega)) ?_
      refine lv_bipush (v := 10) hx hb dX9_writes_37 (by decide) ?_
      refine lv_irem hx hb dX9_writes_39 (by decide) ?_
      refine r_eq (y := (nI (d / 10 ^ (k - kk) % 10))) (pk_rem (a := d / 10 ^ (k - kk)) (d := 10) (by omega) (by omega) (by omega)) ?_
      refine lv_iadd hx hb dX9_writes_40 ?_
      refine r_eq (y := (nI (48 + (d / 10 ^ (k - kk) % 10)))) (nI_add 48 (d / 10 ^ (k - kk) % 10)) ?_
      refine k_iV (As := [.int (nI (u + kk)), .int (nI (48 + (d / 10 ^ (k - kk) % 10)))]) (rest := []) (Rs := []) (Bs' := [moB r F, arB ty (r 7) 60 (putL (putL g u (digK k d kk)) (u + kk) [(nI (48 + (d / 10 ^ (k - kk) % 10)))])]) ⟨hx, hb, hml, hown, hts⟩ w (c_X9_put l D ty r F (putL g u (digK k d kk)) (u + kk) (by omega) (nI (48 + (d / 10 ^ (k - kk) % 10)))) (cwV 2 hts gX9_writes_X9_put rfl rfl rfl ⟨rfl, hdN_X9_put⟩ ⟨Nat.le_of_ble_eq_true rfl, Nat.le_of_ble_eq_true rfl⟩) [0, 1] (nB := 2) (by decide) rfl rfl rfl rfl 0 rfl rfl (ci := 13) rfl rfl rfl hl.1 rfl (Nat.le_of_ble_eq_true rfl) dX9_writes_41 ⟨(Nat.zero_le _), (Nat.zero_le _)⟩ (fun H locs w => ?_)
      have w := w.cast (Bs' := [moB r F, arB ty (r 7) 60 (putL g u (digK k d (kk + 1)))]) (by rw [digK_s, putL_app (by rw [digK_len])])
      refine lv_istore_n (lv' := [(3, .int (nI ((u + kk) + 1))), (0, .ref (r 0)), (1, .int (nI u)), (2, .int (nI d)), (4, .int (nI (10 ^ (k - kk))))]) hx hb dX9_writes_44 rfl hl (by decide) rfl (fun ls hl => ?_)
      refine lv_iload hx hb dX9_writes_45 (lv_at hl 4 rfl) ?_
      refine lv_bipush (v := 10) hx hb dX9_writes_47 (by decide) ?_
      refine lv_idiv hx hb dX9_writes_49 (by decide) ?_
      refine r_eq (y := (nI (pwr k (kk + 1)))) ((pk_div (a := 10 ^ (k - kk)) (d := 10) (by omega) (by omega) (by omega)).trans (congrArg nI (pwr_s hkk))) ?_
      refine lv_istore (lv' := [(4, .int (nI (pwr k (kk + 1)))), (3, .int (nI ((u + kk) + 1))), (0, .ref (r 0)), (1, .int (nI u)), (2, .int (nI d))]) hx hb dX9_writes_50 hl (by decide) rfl (fun ls hl => ?_)
      refine lv_goto (tgt := 24) hx hb dX9_writes_52 (by decide) ?_
      exact ihkk _ _ _ ⟨w, lv_sub hl [2, 3, 4, 1, 0] rfl⟩ (by omega)
  · have c11 := mt (nI_ltI (a := (d / 10 ^ k)) (b := 10) (by omega) (by omega)).mpr c11
    refine lv_iload hx hb dX9_writes_14 (lv_at hl 4 rfl) ?_
    refine lv_bipush (v := 10) hx hb dX9_writes_16 (by decide) ?_
    refine lv_imul hx hb dX9_writes_18 ?_
    refine r_eq (y := (nI ((10 ^ k) * 10))) (pk_mul (10 ^ k) 10) ?_
    refine lv_istore (lv' := [(4, .int (nI ((10 ^ k) * 10))), (0, .ref (r 0)), (1, .int (nI u)), (2, .int (nI d)), (3, .int (nI u))]) hx hb dX9_writes_19 hl (by decide) rfl (fun ls hl => ?_)
    refine lv_goto (tgt := 5) hx hb dX9_writes_21 (by decide) ?_
    exact ihk _ _ _ ⟨w, (by rw [Nat.pow_succ, Nat.mul_comm]; rw [Nat.mul_comm]; exact lv_sub hl [1, 2, 3, 4, 0] rfl), (fun i hi => by rcases Nat.lt_or_ge i k with q | q; exact hdk i q; rw [show i = k by omega]; omega)⟩ (by have := dg_b hd (show 10 ≤ d / 10 ^ k by omega); omega)
