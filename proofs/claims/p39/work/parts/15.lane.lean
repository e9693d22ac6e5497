theorem in_X2_has_X2 : ∀ w ∈ wsX20, w ∈ wsX2_has := by decide +kernel
theorem hdN_X2_has : yX2_has.cls ≠ "java/lang/invoke/MethodHandle" ∧ yX2_has.cls ≠ "java/lang/invoke/VarHandle" ∧ (parseMethodDescriptor yX2_has.desc).map (fun d => d.parameters.length) = some 1 := by decide +kernel
set_option maxRecDepth 100000 in
set_option maxHeartbeats 4000000 in
theorem c_X2_has (l : Launch) (D : va_G) (ty : Nat → ClassId) (a : Nat → Nat) (S : pS) (n : Nat) (h0 : S 0 = nI n) (hn : n ≤ 8) (h : Int32)  : Mi l yX2_has wsX2_has (kR 0 0 0 0) D (kTY ty) [.ref (a 1), .int h] [lnB ty a S] [lnB ty a S] (bI (pHas h n)) 0 0 := by
  refine m_i (cc := cX2_has) (maxL := 2) (ret := (some .boolean)) (by decide +kernel) rfl (Nat.le_of_ble_eq_true rfl) ?_
  intro p e s m below meth c A ls hx hb hml hr hlocks hown hts w hl
  have hown : s.vm.findClass RX2 = some m.cls := hown
  have hl : lv_has ls 2 [(0, .ref (a 1)), (1, .int h)] := hl
  refine lv_iload_n hx hb dX2_has_0 rfl (lv_at hl 1 rfl) ?_
  refine lv_if_lt (tgt := 16) hx hb dX2_has_1 (by decide) (fun c1 => ?_) (fun c1 => ?_)
  · refine lv_iconst (v := 0) hx hb dX2_has_16 (by decide) ?_
    exact e_z (ty := .boolean) hx hb hr rfl hlocks w (by first | exact pHas_t c1 c9 | exact pHas_f1 c1 | exact pHas_f2 c9) dX2_has_17 (Nat.le_refl _) (Nat.le_refl _)
  · refine lv_iload_n hx hb dX2_has_4 rfl (lv_at hl 1 rfl) ?_
    refine lv_aload_n hx hb dX2_has_5 rfl (lv_at hl 0 rfl) ?_
    refine r_get (v' := .int (nI n)) hx hb hts in_X2_has_X2 hown w 0 0 rfl rfl (ci := 6) rfl 0 (by decide) (hts _ (List.mem_of_getElem? (i := 1) rfl)) rfl rfl (congrArg Value.int h0) dX2_has_6 ?_
    refine lv_icmp_ge (tgt := 16) hx hb dX2_has_9 (by decide) (fun c9 => ?_) (fun c9 => ?_)
    · refine lv_iconst (v := 0) hx hb dX2_has_16 (by decide) ?_
      exact e_z (ty := .boolean) hx hb hr rfl hlocks w (by first | exact pHas_t c1 c9 | exact pHas_f1 c1 | exact pHas_f2 c9) dX2_has_17 (Nat.le_refl _) (Nat.le_refl _)
    · refine lv_iconst (v := 1) hx hb dX2_has_12 (by decide) ?_
      refine lv_goto (tgt := 17) hx hb dX2_has_13 (by decide) ?_
      exact e_z (ty := .boolean) hx hb hr rfl hlocks w (by first | exact pHas_t c1 c9 | exact pHas_f1 c1 | exact pHas_f2 c9) dX2_has_17 (Nat.le_refl _) (Nat.le_refl _)

theorem in_X2_settle_X2 : ∀ w ∈ wsX20, w ∈ wsX2_settle := by decide +kernel
theorem hdN_X2_settle : yX2_settle.cls ≠ "java/lang/invoke/MethodHandle" ∧ yX2_settle.cls ≠ "java/lang/invoke/VarHandle" ∧ (parseMethodDescriptor yX2_settle.desc).map (fun d => d.parameters.length) = some 3 := by decide +kernel
set_option maxRecDepth 100000 in
set_option maxHeartbeats 4000000 in
theorem c_X2_settle (l : Launch) (D : va_G) (ty : Nat → ClassId) (a : Nat → Nat) (S : pS) (n : Nat) (h0 : S 0 = nI n) (hn : n < 8) (x y z : Int32)  : Mi l yX2_settle wsX2_settle (kR 0 0 0 0) D (kTY ty) [.ref (a 1), .int x, .int y, .int z] [lnB ty a S] [lnB ty a (sHouse S n x y z)] (nI n) 0 0 := by
  refine m_i (cc := cX2_settle) (maxL := 4) (ret := (some .int)) (by decide +kernel) rfl (Nat.le_of_ble_eq_true rfl) ?_
  intro p e s m below meth c A ls hx hb hml hr hlocks hown hts w hl
  have hown : s.vm.findClass RX2 = some m.cls := hown
  have hl : lv_has ls 4 [(0, .ref (a 1)), (1, .int x), (2, .int y), (3, .int z)] := hl
  refine lv_aload_n hx hb dX2_settle_0 rfl (lv_at hl 0 rfl) ?_
  refine r_get (v' := .int (nI n)) hx hb hts in_X2_settle_X2 hown w 0 0 rfl rfl (ci := 6) rfl 0 (by decide) (hts _ (List.mem_of_getElem? (i := 1) rfl)) rfl rfl (congrArg Value.int h0) dX2_settle_1 ?_
  refine lv_bipush (v := 8) hx hb dX2_settle_4 (by decide) ?_
  refine lv_icmp_lt (tgt := 11) hx hb dX2_settle_6 (by decide) (fun c6 => ?_) (fun c6 => ?_)
  · have c6 := (nI_ltI (a := n) (b := 8) (by omega) (by omega)).mp c6
    refine lv_aload_n hx hb dX2_settle_11 rfl (lv_at hl 0 rfl) ?_
    refine r_get (v' := .ref (a 2)) hx hb hts in_X2_settle_X2 hown w 0 0 rfl rfl (ci := 6) rfl 2 (by decide) (hts _ (List.mem_of_getElem? (i := 2) rfl)) rfl rfl rfl dX2_settle_12 ?_
    refine lv_aload_n hx hb dX2_settle_15 rfl (lv_at hl 0 rfl) ?_
    refine r_get (v' := .int (nI n)) hx hb hts in_X2_settle_X2 hown w 0 0 rfl rfl (ci := 6) rfl 0 (by decide) (hts _ (List.mem_of_getElem? (i := 1) rfl)) rfl rfl (congrArg Value.int h0) dX2_settle_16 ?_
    refine lv_iload_n hx hb dX2_settle_19 rfl (lv_at hl 1 rfl) ?_
    refine r_iast hx hb w 0 1 rfl rfl 0 rfl n (by omega) (Nat.le_of_ble_eq_true rfl) rfl (lnB ty a (upd S (1 + 6 * n + 0) x)) (lnB_st0 (by omega)) [lnB ty a (upd S (1 + 6 * n + 0) x)] rfl dX2_settle_20 (fun H locs w => ?_)
    refine lv_aload_n hx hb dX2_settle_21 rfl (lv_at hl 0 rfl) ?_
    refine r_get (v' := .ref (a 3)) hx hb hts in_X2_settle_X2 hown w 0 0 rfl rfl (ci := 6) rfl 3 (by decide) (hts _ (List.mem_of_getElem? (i := 3) rfl)) rfl rfl rfl dX2_settle_22 ?_
    refine lv_aload_n hx hb dX2_settle_25 rfl (lv_at hl 0 rfl) ?_
    refine r_get (v' := .int ((upd S (1 + 6 * n + 0) x) 0)) hx hb hts in_X2_settle_X2 hown w 0 0 rfl rfl (ci := 6) rfl 0 (by decide) (hts _ (List.mem_of_getElem? (i := 1) rfl)) rfl rfl rfl dX2_settle_26 ?_
    refine r_eq (y := (nI n)) (by rw [updn (by omega)]; exact h0) ?_
    refine lv_iload_n hx hb dX2_settle_29 rfl (lv_at hl 2 rfl) ?_
    refine r_iast hx hb w 0 2 rfl rfl 0 rfl n (by omega) (Nat.le_of_ble_eq_true rfl) rfl (lnB ty a (upd (upd S (1 + 6 * n + 0) x) (1 + 6 * n + 1) y)) (lnB_st1 (by omega)) [lnB ty a (upd (upd S (1 + 6 * n + 0) x) (1 + 6 * n + 1) y)] rfl dX2_settle_30 (fun H locs w => ?_)
    refine lv_aload_n hx hb dX2_settle_31 rfl (lv_at hl 0 rfl) ?_
    refine r_get (v' := .ref (a 4)) hx hb hts in_X2_settle_X2 hown w 0 0 rfl rfl (ci := 6) rfl 4 (by decide) (hts _ (List.mem_of_getElem? (i := 4) rfl)) rfl rfl rfl dX2_settle_32 ?_
    refine lv_aload_n hx hb dX2_settle_35 rfl (lv_at hl 0 rfl) ?_
    refine r_get (v' := .int ((upd (upd S (1 + 6 * n + 0) x) (1 + 6 * n + 1) y) 0)) hx hb hts in_X2_settle_X2 hown w 0 0 rfl rfl (ci := 6) rfl 0 (by decide) (hts _ (List.mem_of_getElem? (i := 1) rfl)) rfl rfl rfl dX2_settle_36 ?_
    refine r_eq (y := (nI n)) (by rw [updn (by omega), updn (by omega)]; exact h0) ?_
    refine lv_iload_n hx hb dX2_settle_39 rfl (lv_at hl 3 rfl) ?_
    refine r_iast hx hb w 0 3 rfl rfl 0 rfl n (by omega) (Nat.le_of_ble_eq_true rfl) rfl (lnB ty a (upd (upd (upd S (1 + 6 * n + 0) x) (1 + 6 * n + 1) y) (1 + 6 * n + 2) z)) (lnB_st2 (by omega)) [lnB ty a (upd (upd (upd S (1 + 6 * n + 0) x) (1 + 6 * n + 1) y) (1 + 6 * n + 2) z)] rfl dX2_settle_40 (fun H locs w => ?_)
    refine lv_aload_n hx hb dX2_settle_41 rfl (lv_at hl 0 rfl) ?_
    refine lv_dup hx hb dX2_settle_42 rfl ?_
    refine r_get (v' := .int ((upd (upd (upd S (1 + 6 * n + 0) x) (1 + 6 * n + 1) y) (1 + 6 * n + 2) z) 0)) hx hb hts in_X2_settle_X2 hown w 0 0 rfl rfl (ci := 6) rfl 0 (by decide) (hts _ (List.mem_of_getElem? (i := 1) rfl)) rfl rfl rfl dX2_settle_43 ?_
    refine r_eq (y := (nI n)) (by rw [updn (by omega), updn (by omega), updn (by omega)]; exact h0) ?_
    refine lv_iconst (v := 1) hx hb dX2_settle_46 (by decide) ?_
    refine lv_iadd hx hb dX2_settle_47 ?_
    refine r_eq (y := (nI (n + 1))) (nI_add n 1) ?_
    refine r_put hx hb hts in_X2_settle_X2 tyX2 tyX2_ok nmX2 hown w 0 0 rfl rfl (ci := 6) rfl 0 (by decide) (hts _ (List.mem_of_getElem? (i := 1) rfl)) rfl rfl (ty := .int) (by decide +kernel) rfl rfl (Nat.le_of_ble_eq_true rfl) (lnB ty a (upd (upd (upd (upd S (1 + 6 * n + 0) x) (1 + 6 * n + 1) y) (1 + 6 * n + 2) z) 0 (nI (n + 1)))) lnB_size [lnB ty a (upd (upd (upd (upd S (1 + 6 * n + 0) x) (1 + 6 * n + 1) y) (1 + 6 * n + 2) z) 0 (nI (n + 1)))] rfl dX2_settle_48 (fun H locs w => ?_)
    refine lv_aload_n hx hb dX2_settle_51 rfl (lv_at hl 0 rfl) ?_
    refine r_get (v' := .int ((upd (upd (upd (upd S (1 + 6 * n + 0) x) (1 + 6 * n + 1) y) (1 + 6 * n + 2) z) 0 (nI (n + 1))) 0)) hx hb hts in_X2_settle_X2 hown w 0 0 rfl rfl (ci := 6) rfl 0 (by decide) (hts _ (List.mem_of_getElem? (i := 1) rfl)) rfl rfl rfl dX2_settle_52 ?_
    refine r_eq (y := (nI (n + 1))) rfl ?_
    refine lv_iconst (v := 1) hx hb dX2_settle_55 (by decide) ?_
    refine lv_isub hx hb dX2_settle_56 ?_
    refine r_eq (y := (nI n)) (nI_pred n) ?_
    exact e_i hx hb hr hlocks w rfl dX2_settle_57 (Nat.le_refl _) (Nat.le_refl _)
  · have c6 := mt (nI_ltI (a := n) (b := 8) (by omega) (by omega)).mpr c6
    exact absurd hn c6

theorem in_X2_distance_X2 : ∀ w ∈ wsX20, w ∈ wsX2_distance := by decide +kernel
theorem hdN_X2_distance : yX2_distance.cls ≠ "java/lang/invoke/MethodHandle" ∧ yX2_distance.cls ≠ "java/lang/invoke/VarHandle" ∧ (parseMethodDescriptor yX2_distance.desc).map (fun d => d.parameters.length) = some 2 := by decide +kernel
set_option maxRecDepth 100000 in
set_option maxHeartbeats 4000000 in
theorem c_X2_distance (l : Launch) (D : va_G) (ty : Nat → ClassId) (a : Nat → Nat) (S : pS) (i j : Nat) (hi : i < 8) (hj : j < 8)  : Mi l yX2_distance wsX2_distance (kR 1 13 0 0) D (kTY ty) [.ref (a 1), .int (nI i), .int (nI j)] [lnB ty a S] [lnB ty a S] (pFar S i j) 0 0 := by
  refine m_i (cc := cX2_distance) (maxL := 3) (ret := (some .int)) (by decide +kernel) rfl (Nat.le_of_ble_eq_true rfl) ?_
  intro p e s m below meth c A ls hx hb hml hr hlocks hown hts w hl
  have hown : s.vm.findClass RX2 = some m.cls := hown
  have hl : lv_has ls 3 [(0, .ref (a 1)), (1, .int (nI i)), (2, .int (nI j))] := hl
  refine lv_aload_n hx hb dX2_distance_0 rfl (lv_at hl 0 rfl) ?_
  refine r_get (v' := .ref (a 3)) hx hb hts in_X2_distance_X2 hown w 0 0 rfl rfl (ci := 6) rfl 3 (by decide) (hts _ (List.mem_of_getElem? (i := 1) rfl)) rfl rfl rfl dX2_distance_1 ?_
  refine lv_iload_n hx hb dX2_distance_4 rfl (lv_at hl 1 rfl) ?_
  refine r_iald (v := (S (1 + 6 * i + 1))) hx hb w 0 2 rfl rfl 0 rfl i (by omega) (Nat.le_of_ble_eq_true rfl) rfl (lnA_at (by omega)) dX2_distance_5 ?_
  refine lv_aload_n hx hb dX2_distance_6 rfl (lv_at hl 0 rfl) ?_
  refine r_get (v' := .ref (a 3)) hx hb hts in_X2_distance_X2 hown w 0 0 rfl rfl (ci := 6) rfl 3 (by decide) (hts _ (List.mem_of_getElem? (i := 1) rfl)) rfl rfl rfl dX2_distance_7 ?_
  refine lv_iload_n hx hb dX2_distance_10 rfl (lv_at hl 2 rfl) ?_
  refine r_iald (v := (S (1 + 6 * j + 1))) hx hb w 0 2 rfl rfl 0 rfl j (by omega) (Nat.le_of_ble_eq_true rfl) rfl (lnA_at (by omega)) dX2_distance_11 ?_
  refine lv_isub hx hb dX2_distance_12 ?_
  refine va_mabs hx hb (hml.trans hl.1.symm) hown (hts _ (List.mem_of_getElem? (i := 2) rfl)) (hts _ (List.mem_of_getElem? (i := 3) rfl)) (hts _ (List.mem_of_getElem? (i := 4) rfl)) (hts _ (List.mem_of_getElem? (i := 5) rfl)) (Nat.le_of_ble_eq_true rfl) (Nat.le_of_ble_eq_true rfl) (Nat.zero_le _) (Nat.zero_le _) dX2_distance_13 ?_
  refine r_eq (y := (jabs ((S (1 + 6 * i + 1)) - (S (1 + 6 * j + 1))))) rfl ?_
  exact e_i hx hb hr hlocks w rfl dX2_distance_16 (Nat.le_refl _) (Nat.le_refl _)

theorem in_X2_neighbourSet_X2 : ∀ w ∈ wsX20, w ∈ wsX2_neighbourSet := by decide +kernel
theorem hdN_X2_neighbourSet : yX2_neighbourSet.cls ≠ "java/lang/invoke/MethodHandle" ∧ yX2_neighbourSet.cls ≠ "java/lang/invoke/VarHandle" ∧ (parseMethodDescriptor yX2_neighbourSet.desc).map (fun d => d.parameters.length) = some 1 := by decide +kernel
set_option maxRecDepth 100000 in
set_option maxHeartbeats 4000000 in
theorem c_X2_neighbourSet (l : Launch) (D : va_G) (ty : Nat → ClassId) (a : Nat → Nat) (S : pS) (n : Nat) (h0 : S 0 = nI n) (hn : n ≤ 8) (i : Nat) (hi : i < 8)  : Mi l yX2_neighbourSet wsX2_neighbourSet (kR 2 35 0 0) D (kTY ty) [.ref (a 1), .int (nI i)] [lnB ty a S] [lnB ty a S] (pNbs S i n) 0 0 := by
  refine m_i (cc := cX2_neighbourSet) (maxL := 4) (ret := (some .int)) (by decide +kernel) rfl (Nat.le_of_ble_eq_true rfl) ?_
  intro p e s m below meth c A ls hx hb hml hr hlocks hown hts w hl
  have hown : s.vm.findClass RX2 = some m.cls := hown
  have hl : lv_has ls 4 [(0, .ref (a 1)), (1, .int (nI i))] := hl
  refine lv_iconst (v := 0) hx hb dX2_neighbourSet_0 (by decide) ?_
  refine lv_istore_n (lv' := [(2, .int 0), (0, .ref (a 1)), (1, .int (nI i))]) hx hb dX2_neighbourSet_1 rfl hl (by decide) rfl (fun ls hl => ?_)
  refine lv_iconst (v := 0) hx hb dX2_neighbourSet_2 (by decide) ?_
  refine lv_istore_n (lv' := [(3, .int 0), (2, .int 0), (0, .ref (a 1)), (1, .int (nI i))]) hx hb dX2_neighbourSet_3 rfl hl (by decide) rfl (fun ls hl => ?_)
  refine k_loop (fun k H locs ls => kW D (kTY ty) A s.heap s H locs [lnB ty a S] ∧ lv_has ls 4 [(0, .ref (a 1)), (1, .int (nI i)), (2, .int (pNbs S i k)), (3, .int (nI k))]) n 0 (by omega) ⟨w, lv_sub hl [2, 3, 1, 0] rfl⟩ ?_
  intro k hk0 hk ihk H locs ls hI
  obtain ⟨w, hl⟩ := hI
  refine lv_iload_n hx hb dX2_neighbourSet_4 rfl (lv_at hl 3 rfl) ?_
  refine lv_aload_n hx hb dX2_neighbourSet_5 rfl (lv_at hl 0 rfl) ?_
  refine r_get (v' := .int (nI n)) hx hb hts in_X2_neighbourSet_X2 hown w 0 0 rfl rfl (ci := 6) rfl 0 (by decide) (hts _ (List.mem_of_getElem? (i := 1) rfl)) rfl rfl (congrArg Value.int h0) dX2_neighbourSet_6 ?_
  refine lv_icmp_ge (tgt := 39) hx hb dX2_neighbourSet_9 (by decide) (fun c9 => ?_) (fun c9 => ?_)
  · have c9 := (nI_leI (a := n) (b := k) (by omega) (by omega)).mp c9
    obtain rfl : n = k := by omega
    refine lv_iload_n hx hb dX2_neighbourSet_39 rfl (lv_at hl 2 rfl) ?_
    exact e_i hx hb hr hlocks w rfl dX2_neighbourSet_40 (Nat.le_refl _) (Nat.le_refl _)
  · have c9 := mt (nI_leI (a := n) (b := k) (by omega) (by omega)).mpr c9
    refine lv_iload_n hx hb dX2_neighbourSet_12 rfl (lv_at hl 3 rfl) ?_
    refine lv_iload_n hx hb dX2_neighbourSet_13 rfl (lv_at hl 1 rfl) ?_
    refine lv_icmp_eq (tgt := 33) hx hb dX2_neighbourSet_14 (by decide) (fun c14 => ?_) (fun c14 => ?_)
    · have c14 := (nI_eq (a := k) (b := i) (by omega) (by omega)).mp c14
      rw [pNb_skip1 (S := S) (h := i) (k := k) c14] at hl
      refine lv_iinc (v := (nI (k + 1))) (lv' := [(3, .int (nI (k + 1))), (0, .ref (a 1)), (1, .int (nI i)), (2, .int (pNbs S i (k + 1)))]) hx hb dX2_neighbourSet_33 hl (k := 3) rfl (inc1 k) (by decide) rfl (fun ls hl => ?_)
      refine lv_goto (tgt := 4) hx hb dX2_neighbourSet_36 (by decide) ?_
      exact ihk _ _ _ ⟨w, lv_sub hl [1, 2, 3, 0] rfl⟩ (by omega)
    · have c14 := mt (nI_eq (a := k) (b := i) (by omega) (by omega)).mpr c14
      refine lv_aload_n hx hb dX2_neighbourSet_17 rfl (lv_at hl 0 rfl) ?_
      refine lv_iload_n hx hb dX2_neighbourSet_18 rfl (lv_at hl 1 rfl) ?_
      refine lv_iload_n hx hb dX2_neighbourSet_19 rfl (lv_at hl 3 rfl) ?_
      refine k_iV (As := [.int (nI i), .int (nI k)]) (rest := []) (Rs := []) (Bs' := [lnB ty a S]) ⟨hx, hb, hml, hown, hts⟩ w (c_X2_distance l D ty a S i k (by omega) (by omega)) (cwV 2 hts gX2_neighbourSet_X2_distance rfl rfl rfl ⟨rfl, hdN_X2_distance⟩ ⟨Nat.le_of_ble_eq_true rfl, Nat.le_of_ble_eq_true rfl⟩) [0] (nB := 1) (by decide) rfl rfl rfl rfl 0 rfl rfl (ci := 6) rfl rfl rfl hl.1 rfl (Nat.le_of_ble_eq_true rfl) dX2_neighbourSet_20 ⟨(Nat.zero_le _), (Nat.zero_le _)⟩ (fun H locs w => ?_)
      refine lv_iconst (v := 2) hx hb dX2_neighbourSet_23 (by decide) ?_
      refine lv_icmp_gt (tgt := 33) hx hb dX2_neighbourSet_24 (by decide) (fun c24 => ?_) (fun c24 => ?_)
      · rw [pNb_skip2 (S := S) (h := i) (k := k) c24] at hl
        refine lv_iinc (v := (nI (k + 1))) (lv' := [(3, .int (nI (k + 1))), (0, .ref (a 1)), (1, .int (nI i)), (2, .int (pNbs S i (k + 1)))]) hx hb dX2_neighbourSet_33 hl (k := 3) rfl (inc1 k) (by decide) rfl (fun ls hl => ?_)
        refine lv_goto (tgt := 4) hx hb dX2_neighbourSet_36 (by decide) ?_
        exact ihk _ _ _ ⟨w, lv_sub hl [1, 2, 3, 0] rfl⟩ (by omega)
      · refine lv_iload_n hx hb dX2_neighbourSet_27 rfl (lv_at hl 2 rfl) ?_
        refine lv_iconst (v := 1) hx hb dX2_neighbourSet_28 (by decide) ?_
        refine lv_iload_n hx hb dX2_neighbourSet_29 rfl (lv_at hl 3 rfl) ?_
        refine lv_ishl hx hb dX2_neighbourSet_30 ?_
        refine lv_ior hx hb dX2_neighbourSet_31 ?_
        refine r_eq (y := (pNbs S i (k + 1))) (pNb_put c14 c24) ?_
        refine lv_istore_n (lv' := [(2, .int (pNbs S i (k + 1))), (0, .ref (a 1)), (1, .int (nI i)), (3, .int (nI k))]) hx hb dX2_neighbourSet_32 rfl hl (by decide) rfl (fun ls hl => ?_)
        refine lv_iinc (v := (nI (k + 1))) (lv' := [(3, .int (nI (k + 1))), (2, .int (pNbs S i (k + 1))), (0, .ref (a 1)), (1, .int (nI i))]) hx hb dX2_neighbourSet_33 hl (k := 3) rfl (inc1 k) (by decide) rfl (fun ls hl => ?_)
        refine lv_goto (tgt := 4) hx hb dX2_neighbourSet_36 (by decide) ?_
        exact ihk _ _ _ ⟨w, lv_sub hl [2, 3, 1, 0] rfl⟩ (by omega)

theorem in_X2_wouldQuarrel_X2 : ∀ w ∈ wsX20, w ∈ wsX2_wouldQuarrel := by decide +kernel
theorem hdN_X2_wouldQuarrel : yX2_wouldQuarrel.cls ≠ "java/lang/invoke/MethodHandle" ∧ yX2_wouldQuarrel.cls ≠ "java/lang/invoke/VarHandle" ∧ (parseMethodDescriptor yX2_wouldQuarrel.desc).map (fun d => d.parameters.length) = some 2 := by decide +kernel
set_option maxRecDepth 100000 in
set_option maxHeartbeats 4000000 in
theorem c_X2_wouldQuarrel (l : Launch) (D : va_G) (ty : Nat → ClassId) (a : Nat → Nat) (S : pS) (i j : Nat) (hi : i < 8) (hj : j < 8)  : Mi l yX2_wouldQuarrel wsX2_wouldQuarrel (kR 2 35 0 0) D (kTY ty) [.ref (a 1), .int (nI i), .int (nI j)] [lnB ty a S] [lnB ty a S] (bI (decide (pFar S i j ≤ 2) && decide (10 ≤ S (1 + 6 * i + 2) + S (1 + 6 * j + 2)))) 0 0 := by
  refine m_i (cc := cX2_wouldQuarrel) (maxL := 3) (ret := (some .boolean)) (by decide +kernel) rfl (Nat.le_of_ble_eq_true rfl) ?_
  intro p e s m below meth c A ls hx hb hml hr hlocks hown hts w hl
  have hown : s.vm.findClass RX2 = some m.cls := hown
  have hl : lv_has ls 3 [(0, .ref (a 1)), (1, .int (nI i)), (2, .int (nI j))] := hl
  refine lv_aload_n hx hb dX2_wouldQuarrel_0 rfl (lv_at hl 0 rfl) ?_
  refine lv_iload_n hx hb dX2_wouldQuarrel_1 rfl (lv_at hl 1 rfl) ?_
  refine lv_iload_n hx hb dX2_wouldQuarrel_2 rfl (lv_at hl 2 rfl) ?_
  refine k_iV (As := [.int (nI i), .int (nI j)]) (rest := []) (Rs := []) (Bs' := [lnB ty a S]) ⟨hx, hb, hml, hown, hts⟩ w (c_X2_distance l D ty a S i j (by omega) (by omega)) (cwV 2 hts gX2_wouldQuarrel_X2_distance rfl rfl rfl ⟨rfl, hdN_X2_distance⟩ ⟨Nat.le_of_ble_eq_true rfl, Nat.le_of_ble_eq_true rfl⟩) [0] (nB := 1) (by decide) rfl rfl rfl rfl 0 rfl rfl (ci := 6) rfl rfl rfl hl.1 rfl (Nat.le_of_ble_eq_true rfl) dX2_wouldQuarrel_3 ⟨(Nat.zero_le _), (Nat.zero_le _)⟩ (fun H locs w => ?_)
  refine lv_iconst (v := 2) hx hb dX2_wouldQuarrel_6 (by decide) ?_
  refine lv_icmp_gt (tgt := 32) hx hb dX2_wouldQuarrel_7 (by decide) (fun c7 => ?_) (fun c7 => ?_)
  · refine lv_iconst (v := 0) hx hb dX2_wouldQuarrel_32 (by decide) ?_
    exact e_z (ty := .boolean) hx hb hr rfl hlocks w (by first | exact wq_t c7 c25 | exact wq_f1 c7 | exact wq_f2 c25) dX2_wouldQuarrel_33 (Nat.le_refl _) (Nat.le_refl _)
  · refine lv_aload_n hx hb dX2_wouldQuarrel_10 rfl (lv_at hl 0 rfl) ?_
    refine r_get (v' := .ref (a 4)) hx hb hts in_X2_wouldQuarrel_X2 hown w 0 0 rfl rfl (ci := 6) rfl 4 (by decide) (hts _ (List.mem_of_getElem? (i := 1) rfl)) rfl rfl rfl dX2_wouldQuarrel_11 ?_
    refine lv_iload_n hx hb dX2_wouldQuarrel_14 rfl (lv_at hl 1 rfl) ?_
    refine r_iald (v := (S (1 + 6 * i + 2))) hx hb w 0 3 rfl rfl 0 rfl i (by omega) (Nat.le_of_ble_eq_true rfl) rfl (lnA_at (by omega)) dX2_wouldQuarrel_15 ?_
    refine lv_aload_n hx hb dX2_wouldQuarrel_16 rfl (lv_at hl 0 rfl) ?_
    refine r_get (v' := .ref (a 4)) hx hb hts in_X2_wouldQuarrel_X2 hown w 0 0 rfl rfl (ci := 6) rfl 4 (by decide) (hts _ (List.mem_of_getElem? (i := 1) rfl)) rfl rfl rfl dX2_wouldQuarrel_17 ?_
    refine lv_iload_n hx hb dX2_wouldQuarrel_20 rfl (lv_at hl 2 rfl) ?_
    refine r_iald (v := (S (1 + 6 * j + 2))) hx hb w 0 3 rfl rfl 0 rfl j (by omega) (Nat.le_of_ble_eq_true rfl) rfl (lnA_at (by omega)) dX2_wouldQuarrel_21 ?_
    refine lv_iadd hx hb dX2_wouldQuarrel_22 ?_
    refine lv_bipush (v := 10) hx hb dX2_wouldQuarrel_23 (by decide) ?_
    refine lv_icmp_lt (tgt := 32) hx hb dX2_wouldQuarrel_25 (by decide) (fun c25 => ?_) (fun c25 => ?_)
    · refine lv_iconst (v := 0) hx hb dX2_wouldQuarrel_32 (by decide) ?_
      exact e_z (ty := .boolean) hx hb hr rfl hlocks w (by first | exact wq_t c7 c25 | exact wq_f1 c7 | exact wq_f2 c25) dX2_wouldQuarrel_33 (Nat.le_refl _) (Nat.le_refl _)
    · refine lv_iconst (v := 1) hx hb dX2_wouldQuarrel_28 (by decide) ?_
      refine lv_goto (tgt := 33) hx hb dX2_wouldQuarrel_29 (by decide) ?_
      exact e_z (ty := .boolean) hx hb hr rfl hlocks w (by first | exact wq_t c7 c25 | exact wq_f1 c7 | exact wq_f2 c25) dX2_wouldQuarrel_33 (Nat.le_refl _) (Nat.le_refl _)

theorem in_X2_winnerOf_X2 : ∀ w ∈ wsX20, w ∈ wsX2_winnerOf := by decide +kernel
theorem hdN_X2_winnerOf : yX2_winnerOf.cls ≠ "java/lang/invoke/MethodHandle" ∧ yX2_winnerOf.cls ≠ "java/lang/invoke/VarHandle" ∧ (parseMethodDescriptor yX2_winnerOf.desc).map (fun d => d.parameters.length) = some 2 := by decide +kernel
set_option maxRecDepth 100000 in
set_option maxHeartbeats 4000000 in
theorem c_X2_winnerOf (l : Launch) (D : va_G) (ty : Nat → ClassId) (a : Nat → Nat) (S : pS) (n : Nat) (h0 : S 0 = nI n) (hn : n ≤ 8) (i j : Nat) (hi : i < 8) (hj : j < 8)  : Mi l yX2_winnerOf wsX2_winnerOf (kR 2 35 0 0) D (kTY ty) [.ref (a 1), .int (nI i), .int (nI j)] [lnB ty a S] [lnB ty a S] (nI (pWin S n i j)) 0 0 := by
  refine m_i (cc := cX2_winnerOf) (maxL := 5) (ret := (some .int)) (by decide +kernel) rfl (Nat.le_of_ble_eq_true rfl) ?_
  intro p e s m below meth c A ls hx hb hml hr hlocks hown hts w hl
  have hown : s.vm.findClass RX2 = some m.cls := hown
  have hl : lv_has ls 5 [(0, .ref (a 1)), (1, .int (nI i)), (2, .int (nI j))] := hl
  refine lv_iconst (v := 0) hx hb dX2_winnerOf_0 (by decide) ?_
  refine lv_istore_n (lv' := [(3, .int 0), (0, .ref (a 1)), (1, .int (nI i)), (2, .int (nI j))]) hx hb dX2_winnerOf_1 rfl hl (by decide) rfl (fun ls hl => ?_)
  refine lv_iconst (v := 0) hx hb dX2_winnerOf_2 (by decide) ?_
  refine lv_istore (lv' := [(4, .int 0), (3, .int 0), (0, .ref (a 1)), (1, .int (nI i)), (2, .int (nI j))]) hx hb dX2_winnerOf_3 hl (by decide) rfl (fun ls hl => ?_)
  refine k_loop (fun k H locs ls => kW D (kTY ty) A s.heap s H locs [lnB ty a S] ∧ lv_has ls 5 [(0, .ref (a 1)), (1, .int (nI i)), (2, .int (nI j)), (3, .int (zI (-(pVotes S i j k)))), (4, .int (nI k))]) n 0 (by omega) ⟨w, lv_sub hl [2, 3, 4, 1, 0] rfl⟩ ?_
  intro k hk0 hk ihk H locs ls hI
  obtain ⟨w, hl⟩ := hI
  refine lv_iload hx hb dX2_winnerOf_5 (lv_at hl 4 rfl) ?_
  refine lv_aload_n hx hb dX2_winnerOf_7 rfl (lv_at hl 0 rfl) ?_
  refine r_get (v' := .int (nI n)) hx hb hts in_X2_winnerOf_X2 hown w 0 0 rfl rfl (ci := 6) rfl 0 (by decide) (hts _ (List.mem_of_getElem? (i := 1) rfl)) rfl rfl (congrArg Value.int h0) dX2_winnerOf_8 ?_
  refine lv_icmp_ge (tgt := 57) hx hb dX2_winnerOf_11 (by decide) (fun c11 => ?_) (fun c11 => ?_)
  · have c11 := (nI_leI (a := n) (b := k) (by omega) (by omega)).mp c11
    obtain rfl : n = k := by omega
    refine lv_iload_n hx hb dX2_winnerOf_57 rfl (lv_at hl 3 rfl) ?_
    refine lv_if_lt (tgt := 65) hx hb dX2_winnerOf_58 (by decide) (fun c58 => ?_) (fun c58 => ?_)
    · refine lv_iload_n hx hb dX2_winnerOf_65 rfl (lv_at hl 2 rfl) ?_
      exact e_i hx hb hr hlocks w (by first | exact pWin_t hn c58 | exact pWin_f hn c58) dX2_winnerOf_66 (Nat.le_refl _) (Nat.le_refl _)
    · refine lv_iload_n hx hb dX2_winnerOf_61 rfl (lv_at hl 1 rfl) ?_
      refine lv_goto (tgt := 66) hx hb dX2_winnerOf_62 (by decide) ?_
      exact e_i hx hb hr hlocks w (by first | exact pWin_t hn c58 | exact pWin_f hn c58) dX2_winnerOf_66 (Nat.le_refl _) (Nat.le_refl _)
  · have c11 := mt (nI_leI (a := n) (b := k) (by omega) (by omega)).mpr c11
    refine lv_iload hx hb dX2_winnerOf_14 (lv_at hl 4 rfl) ?_
    refine lv_iload_n hx hb dX2_winnerOf_16 rfl (lv_at hl 1 rfl) ?_
    refine lv_icmp_eq (tgt := 51) hx hb dX2_winnerOf_17 (by decide) (fun c17 => ?_) (fun c17 => ?_)
    · have c17 := (nI_eq (a := k) (b := i) (by omega) (by omega)).mp c17
      rw [pV_skip (S := S) (a := i) (j := j) (Or.inl c17)] at hl
      refine lv_iinc (v := (nI (k + 1))) (lv' := [(4, .int (nI (k + 1))), (0, .ref (a 1)), (1, .int (nI i)), (2, .int (nI j)), (3, .int (zI (-(pVotes S i j (k + 1)))))]) hx hb dX2_winnerOf_51 hl (k := 4) rfl (inc1 k) (by decide) rfl (fun ls hl => ?_)
      refine lv_goto (tgt := 5) hx hb dX2_winnerOf_54 (by decide) ?_
      exact ihk _ _ _ ⟨w, lv_sub hl [1, 2, 3, 4, 0] rfl⟩ (by omega)
    · have c17 := mt (nI_eq (a := k) (b := i) (by omega) (by omega)).mpr c17
      refine lv_iload hx hb dX2_winnerOf_20 (lv_at hl 4 rfl) ?_
      refine lv_iload_n hx hb dX2_winnerOf_22 rfl (lv_at hl 2 rfl) ?_
      refine lv_icmp_eq (tgt := 51) hx hb dX2_winnerOf_23 (by decide) (fun c23 => ?_) (fun c23 => ?_)
      · have c23 := (nI_eq (a := k) (b := j) (by omega) (by omega)).mp c23
        rw [pV_skip (S := S) (a := i) (j := j) (Or.inr c23)] at hl
        refine lv_iinc (v := (nI (k + 1))) (lv' := [(4, .int (nI (k + 1))), (0, .ref (a 1)), (1, .int (nI i)), (2, .int (nI j)), (3, .int (zI (-(pVotes S i j (k + 1)))))]) hx hb dX2_winnerOf_51 hl (k := 4) rfl (inc1 k) (by decide) rfl (fun ls hl => ?_)
        refine lv_goto (tgt := 5) hx hb dX2_winnerOf_54 (by decide) ?_
        exact ihk _ _ _ ⟨w, lv_sub hl [1, 2, 3, 4, 0] rfl⟩ (by omega)
      · have c23 := mt (nI_eq (a := k) (b := j) (by omega) (by omega)).mpr c23
        refine lv_iload_n hx hb dX2_winnerOf_26 rfl (lv_at hl 3 rfl) ?_
        refine lv_aload_n hx hb dX2_winnerOf_27 rfl (lv_at hl 0 rfl) ?_
        refine lv_iload hx hb dX2_winnerOf_28 (lv_at hl 4 rfl) ?_
        refine lv_iload_n hx hb dX2_winnerOf_30 rfl (lv_at hl 1 rfl) ?_
        refine k_iV (As := [.int (nI k), .int (nI i)]) (rest := [.int (zI (-(pVotes S i j k)))]) (Rs := []) (Bs' := [lnB ty a S]) ⟨hx, hb, hml, hown, hts⟩ w (c_X2_distance l D ty a S k i (by omega) (by omega)) (cwV 2 hts gX2_winnerOf_X2_distance rfl rfl rfl ⟨rfl, hdN_X2_distance⟩ ⟨Nat.le_of_ble_eq_true rfl, Nat.le_of_ble_eq_true rfl⟩) [0] (nB := 1) (by decide) rfl rfl rfl rfl 0 rfl rfl (ci := 6) rfl rfl rfl hl.1 rfl (Nat.le_of_ble_eq_true rfl) dX2_winnerOf_31 ⟨(Nat.zero_le _), (Nat.zero_le _)⟩ (fun H locs w => ?_)
        refine lv_aload_n hx hb dX2_winnerOf_34 rfl (lv_at hl 0 rfl) ?_
        refine lv_iload hx hb dX2_winnerOf_35 (lv_at hl 4 rfl) ?_
        refine lv_iload_n hx hb dX2_winnerOf_37 rfl (lv_at hl 2 rfl) ?_
        refine k_iV (As := [.int (nI k), .int (nI j)]) (rest := [.int (pFar S k i), .int (zI (-(pVotes S i j k)))]) (Rs := []) (Bs' := [lnB ty a S]) ⟨hx, hb, hml, hown, hts⟩ w (c_X2_distance l D ty a S k j (by omega) (by omega)) (cwV 2 hts gX2_winnerOf_X2_distance rfl rfl rfl ⟨rfl, hdN_X2_distance⟩ ⟨Nat.le_of_ble_eq_true rfl, Nat.le_of_ble_eq_true rfl⟩) [0] (nB := 1) (by decide) rfl rfl rfl rfl 0 rfl rfl (ci := 6) rfl rfl rfl hl.1 rfl (Nat.le_of_ble_eq_true rfl) dX2_winnerOf_38 ⟨(Nat.zero_le _), (Nat.zero_le _)⟩ (fun H locs w => ?_)
        refine lv_icmp_gt (tgt := 48) hx hb dX2_winnerOf_41 (by decide) (fun c41 => ?_) (fun c41 => ?_)
        · refine lv_iconst (v := (-1)) hx hb dX2_winnerOf_48 (by decide) ?_
          refine lv_iadd hx hb dX2_winnerOf_49 ?_
          refine r_eq (y := (zI (-(pVotes S i j (k + 1))))) (pV_gt c17 c23 c41) ?_
          refine lv_istore_n (lv' := [(3, .int (zI (-(pVotes S i j (k + 1))))), (0, .ref (a 1)), (1, .int (nI i)), (2, .int (nI j)), (4, .int (nI k))]) hx hb dX2_winnerOf_50 rfl hl (by decide) rfl (fun ls hl => ?_)
          refine lv_iinc (v := (nI (k + 1))) (lv' := [(4, .int (nI (k + 1))), (3, .int (zI (-(pVotes S i j (k + 1))))), (0, .ref (a 1)), (1, .int (nI i)), (2, .int (nI j))]) hx hb dX2_winnerOf_51 hl (k := 4) rfl (inc1 k) (by decide) rfl (fun ls hl => ?_)
          refine lv_goto (tgt := 5) hx hb dX2_winnerOf_54 (by decide) ?_
          exact ihk _ _ _ ⟨w, lv_sub hl [2, 3, 4, 1, 0] rfl⟩ (by omega)
        · refine lv_iconst (v := 1) hx hb dX2_winnerOf_44 (by decide) ?_
          refine lv_goto (tgt := 49) hx hb dX2_winnerOf_45 (by decide) ?_
          refine lv_iadd hx hb dX2_winnerOf_49 ?_
          refine r_eq (y := (zI (-(pVotes S i j (k + 1))))) (pV_le c17 c23 c41) ?_
          refine lv_istore_n (lv' := [(3, .int (zI (-(pVotes S i j (k + 1))))), (0, .ref (a 1)), (1, .int (nI i)), (2, .int (nI j)), (4, .int (nI k))]) hx hb dX2_winnerOf_50 rfl hl (by decide) rfl (fun ls hl => ?_)
          refine lv_iinc (v := (nI (k + 1))) (lv' := [(4, .int (nI (k + 1))), (3, .int (zI (-(pVotes S i j (k + 1))))), (0, .ref (a 1)), (1, .int (nI i)), (2, .int (nI j))]) hx hb dX2_winnerOf_51 hl (k := 4) rfl (inc1 k) (by decide) rfl (fun ls hl => ?_)
          refine lv_goto (tgt := 5) hx hb dX2_winnerOf_54 (by decide) ?_
          exact ihk _ _ _ ⟨w, lv_sub hl [2, 3, 4, 1, 0] rfl⟩ (by omega)

theorem in_X2_settleQuarrel_X2 : ∀ w ∈ wsX20, w ∈ wsX2_settleQuarrel := by decide +kernel
theorem hdN_X2_settleQuarrel : yX2_settleQuarrel.cls ≠ "java/lang/invoke/MethodHandle" ∧ yX2_settleQuarrel.cls ≠ "java/lang/invoke/VarHandle" ∧ (parseMethodDescriptor yX2_settleQuarrel.desc).map (fun d => d.parameters.length) = some 2 := by decide +kernel
set_option maxRecDepth 100000 in
set_option maxHeartbeats 4000000 in
theorem c_X2_settleQuarrel (l : Launch) (D : va_G) (ty : Nat → ClassId) (a : Nat → Nat) (S : pS) (i j : Nat) (hi : i < 8) (hj : j < 8)  : Mv l yX2_settleQuarrel wsX2_settleQuarrel (kR 1 15 0 0) D (kTY ty) [.ref (a 1), .int (nI i), .int (nI j)] [lnB ty a S] [lnB ty a (sSq S i j)] 0 0 := by
  refine m_v (cc := cX2_settleQuarrel) (maxL := 3) (ret := none) (by decide +kernel) rfl (Nat.le_of_ble_eq_true rfl) ?_
  intro p e s m below meth c A ls hx hb hml hr hlocks hown hts w hl
  have hown : s.vm.findClass RX2 = some m.cls := hown
  have hl : lv_has ls 3 [(0, .ref (a 1)), (1, .int (nI i)), (2, .int (nI j))] := hl
  refine lv_aload_n hx hb dX2_settleQuarrel_0 rfl (lv_at hl 0 rfl) ?_
  refine r_get (v' := .ref (a 6)) hx hb hts in_X2_settleQuarrel_X2 hown w 0 0 rfl rfl (ci := 6) rfl 6 (by decide) (hts _ (List.mem_of_getElem? (i := 1) rfl)) rfl rfl rfl dX2_settleQuarrel_1 ?_
  refine lv_iload_n hx hb dX2_settleQuarrel_4 rfl (lv_at hl 2 rfl) ?_
  refine lv_dup2_11 hx hb dX2_settleQuarrel_5 rfl rfl ?_
  refine r_iald (v := (S (1 + 6 * j + 4))) hx hb w 0 5 rfl rfl 0 rfl j (by omega) (Nat.le_of_ble_eq_true rfl) rfl (lnA_at (by omega)) dX2_settleQuarrel_6 ?_
  refine lv_iconst (v := 1) hx hb dX2_settleQuarrel_7 (by decide) ?_
  refine lv_iadd hx hb dX2_settleQuarrel_8 ?_
  refine r_iast hx hb w 0 5 rfl rfl 0 rfl j (by omega) (Nat.le_of_ble_eq_true rfl) rfl (lnB ty a (sSq1 S j)) (lnB_st4 (by omega)) [lnB ty a (sSq1 S j)] rfl dX2_settleQuarrel_9 (fun H locs w => ?_)
  refine lv_aload_n hx hb dX2_settleQuarrel_10 rfl (lv_at hl 0 rfl) ?_
  refine r_get (v' := .ref (a 4)) hx hb hts in_X2_settleQuarrel_X2 hown w 0 0 rfl rfl (ci := 6) rfl 4 (by decide) (hts _ (List.mem_of_getElem? (i := 2) rfl)) rfl rfl rfl dX2_settleQuarrel_11 ?_
  refine lv_iload_n hx hb dX2_settleQuarrel_14 rfl (lv_at hl 2 rfl) ?_
  refine lv_bipush (v := 9) hx hb dX2_settleQuarrel_15 (by decide) ?_
  refine lv_aload_n hx hb dX2_settleQuarrel_17 rfl (lv_at hl 0 rfl) ?_
  refine r_get (v' := .ref (a 4)) hx hb hts in_X2_settleQuarrel_X2 hown w 0 0 rfl rfl (ci := 6) rfl 4 (by decide) (hts _ (List.mem_of_getElem? (i := 2) rfl)) rfl rfl rfl dX2_settleQuarrel_18 ?_
  refine lv_iload_n hx hb dX2_settleQuarrel_21 rfl (lv_at hl 2 rfl) ?_
  refine r_iald (v := ((sSq1 S j) (1 + 6 * j + 2))) hx hb w 0 3 rfl rfl 0 rfl j (by omega) (Nat.le_of_ble_eq_true rfl) rfl (lnA_at (by omega)) dX2_settleQuarrel_22 ?_
  refine lv_iconst (v := 1) hx hb dX2_settleQuarrel_23 (by decide) ?_
  refine lv_iadd hx hb dX2_settleQuarrel_24 ?_
  refine va_mmin hx hb (hml.trans hl.1.symm) hown (hts _ (List.mem_of_getElem? (i := 3) rfl)) (hts _ (List.mem_of_getElem? (i := 4) rfl)) (hts _ (List.mem_of_getElem? (i := 5) rfl)) (hts _ (List.mem_of_getElem? (i := 6) rfl)) (Nat.le_of_ble_eq_true rfl) (Nat.le_of_ble_eq_true rfl) (Nat.zero_le _) (Nat.zero_le _) dX2_settleQuarrel_25 ?_
  refine r_eq (y := (jmin 9 (((sSq1 S j) (1 + 6 * j + 2)) + 1))) rfl ?_
  refine r_iast hx hb w 0 3 rfl rfl 0 rfl j (by omega) (Nat.le_of_ble_eq_true rfl) rfl (lnB ty a (sSq2 (sSq1 S j) j)) (lnB_st2 (by omega)) [lnB ty a (sSq2 (sSq1 S j) j)] rfl dX2_settleQuarrel_28 (fun H locs w => ?_)
  refine lv_aload_n hx hb dX2_settleQuarrel_29 rfl (lv_at hl 0 rfl) ?_
  refine r_get (v' := .ref (a 4)) hx hb hts in_X2_settleQuarrel_X2 hown w 0 0 rfl rfl (ci := 6) rfl 4 (by decide) (hts _ (List.mem_of_getElem? (i := 2) rfl)) rfl rfl rfl dX2_settleQuarrel_30 ?_
  refine lv_iload_n hx hb dX2_settleQuarrel_33 rfl (lv_at hl 1 rfl) ?_
  refine lv_iconst (v := 0) hx hb dX2_settleQuarrel_34 (by decide) ?_
  refine lv_aload_n hx hb dX2_settleQuarrel_35 rfl (lv_at hl 0 rfl) ?_
  refine r_get (v' := .ref (a 4)) hx hb hts in_X2_settleQuarrel_X2 hown w 0 0 rfl rfl (ci := 6) rfl 4 (by decide) (hts _ (List.mem_of_getElem? (i := 2) rfl)) rfl rfl rfl dX2_settleQuarrel_36 ?_
  refine lv_iload_n hx hb dX2_settleQuarrel_39 rfl (lv_at hl 1 rfl) ?_
  refine r_iald (v := ((sSq2 (sSq1 S j) j) (1 + 6 * i + 2))) hx hb w 0 3 rfl rfl 0 rfl i (by omega) (Nat.le_of_ble_eq_true rfl) rfl (lnA_at (by omega)) dX2_settleQuarrel_40 ?_
  refine lv_iconst (v := 1) hx hb dX2_settleQuarrel_41 (by decide) ?_
  refine lv_isub hx hb dX2_settleQuarrel_42 ?_
  refine va_mmax hx hb (hml.trans hl.1.symm) hown (hts _ (List.mem_of_getElem? (i := 7) rfl)) (hts _ (List.mem_of_getElem? (i := 8) rfl)) (hts _ (List.mem_of_getElem? (i := 5) rfl)) (hts _ (List.mem_of_getElem? (i := 9) rfl)) (Nat.le_of_ble_eq_true rfl) (Nat.le_of_ble_eq_true rfl) (Nat.zero_le _) (Nat.zero_le _) dX2_settleQuarrel_43 ?_
  refine r_eq (y := (jmax 0 (((sSq2 (sSq1 S j) j) (1 + 6 * i + 2)) - 1))) rfl ?_
  refine r_iast hx hb w 0 3 rfl rfl 0 rfl i (by omega) (Nat.le_of_ble_eq_true rfl) rfl (lnB ty a (sSq3 (sSq2 (sSq1 S j) j) i)) (lnB_st2 (by omega)) [lnB ty a (sSq3 (sSq2 (sSq1 S j) j) i)] rfl dX2_settleQuarrel_46 (fun H locs w => ?_)
  refine lv_aload_n hx hb dX2_settleQuarrel_47 rfl (lv_at hl 0 rfl) ?_
  refine r_get (v' := .ref (a 8)) hx hb hts in_X2_settleQuarrel_X2 hown w 0 0 rfl rfl (ci := 6) rfl 8 (by decide) (hts _ (List.mem_of_getElem? (i := 10) rfl)) rfl rfl rfl dX2_settleQuarrel_48 ?_
  refine lv_iload_n hx hb dX2_settleQuarrel_51 rfl (lv_at hl 1 rfl) ?_
  refine r_aald (y := (a (9 + i))) hx hb w 0 7 rfl (ty := .array .int) rfl rfl 3 rfl i (by omega) (Nat.le_of_ble_eq_true rfl) rfl (if_pos (by omega)) dX2_settleQuarrel_52 ?_
  refine lv_iload_n hx hb dX2_settleQuarrel_53 rfl (lv_at hl 2 rfl) ?_
  refine lv_dup2_11 hx hb dX2_settleQuarrel_54 rfl rfl ?_
  refine r_iald (v := ((sSq3 (sSq2 (sSq1 S j) j) i) (58 + 8 * i + j))) hx hb w 0 (8 + i) rfl (lnB_row (by omega)) 0 rfl j (by omega) (Nat.le_of_ble_eq_true rfl) rfl (wnA_at (by omega)) dX2_settleQuarrel_55 ?_
  refine lv_iconst (v := 1) hx hb dX2_settleQuarrel_56 (by decide) ?_
  refine lv_iadd hx hb dX2_settleQuarrel_57 ?_
  refine r_iast hx hb w 0 (8 + i) rfl (lnB_row (by omega)) 0 rfl j (by omega) (Nat.le_of_ble_eq_true rfl) rfl (lnB ty a (sSq4 (sSq3 (sSq2 (sSq1 S j) j) i) i j)) (lnB_wins (by omega) (by omega)) [lnB ty a (sSq4 (sSq3 (sSq2 (sSq1 S j) j) i) i j)] rfl dX2_settleQuarrel_58 (fun H locs w => ?_)
  refine lv_aload_n hx hb dX2_settleQuarrel_59 rfl (lv_at hl 0 rfl) ?_
  refine lv_dup hx hb dX2_settleQuarrel_60 rfl ?_
  refine r_get (v' := .int ((sSq4 (sSq3 (sSq2 (sSq1 S j) j) i) i j) 213)) hx hb hts in_X2_settleQuarrel_X2 hown w 0 0 rfl rfl (ci := 6) rfl 1 (by decide) (hts _ (List.mem_of_getElem? (i := 11) rfl)) rfl rfl rfl dX2_settleQuarrel_61 ?_
  refine lv_iconst (v := 1) hx hb dX2_settleQuarrel_64 (by decide) ?_
  refine lv_iadd hx hb dX2_settleQuarrel_65 ?_
  refine r_put hx hb hts in_X2_settleQuarrel_X2 tyX2 tyX2_ok nmX2 hown w 0 0 rfl rfl (ci := 6) rfl 1 (by decide) (hts _ (List.mem_of_getElem? (i := 11) rfl)) rfl rfl (ty := .int) (by decide +kernel) rfl rfl (Nat.le_of_ble_eq_true rfl) (lnB ty a (sSq5 (sSq4 (sSq3 (sSq2 (sSq1 S j) j) i) i j))) lnB_fights [lnB ty a (sSq5 (sSq4 (sSq3 (sSq2 (sSq1 S j) j) i) i j))] rfl dX2_settleQuarrel_66 (fun H locs w => ?_)
  exact e_v hx hb hr hlocks w dX2_settleQuarrel_69 (Nat.le_refl _) (Nat.le_refl _)

theorem in_X2_lawfulTurns_X2 : ∀ w ∈ wsX20, w ∈ wsX2_lawfulTurns := by decide +kernel
theorem hdN_X2_lawfulTurns : yX2_lawfulTurns.cls ≠ "java/lang/invoke/MethodHandle" ∧ yX2_lawfulTurns.cls ≠ "java/lang/invoke/VarHandle" ∧ (parseMethodDescriptor yX2_lawfulTurns.desc).map (fun d => d.parameters.length) = some 2 := by decide +kernel
set_option maxRecDepth 100000 in
set_option maxHeartbeats 4000000 in
theorem c_X2_lawfulTurns (l : Launch) (D : va_G) (ty : Nat → ClassId) (a : Nat → Nat) (S : pS) (i : Nat) (hi : i < 8) (v : Int32)  : Mi l yX2_lawfulTurns wsX2_lawfulTurns (kR 0 0 0 0) D (kTY ty) [.ref (a 1), .int (nI i), .int v] [lnB ty a S] [lnB ty a S] (pTbl S i v) 0 0 := by
  refine m_i (cc := cX2_lawfulTurns) (maxL := 3) (ret := (some .int)) (by decide +kernel) rfl (Nat.le_of_ble_eq_true rfl) ?_
  intro p e s m below meth c A ls hx hb hml hr hlocks hown hts w hl
  have hown : s.vm.findClass RX2 = some m.cls := hown
  have hl : lv_has ls 3 [(0, .ref (a 1)), (1, .int (nI i)), (2, .int v)] := hl
  refine lv_iload_n hx hb dX2_lawfulTurns_0 rfl (lv_at hl 2 rfl) ?_
  by_cases e1_0 : v = 0
  · refine r_eq (y := 0) e1_0 ?_
    refine lv_tableIn (tgt := 28) hx hb dX2_lawfulTurns_1 (by decide) (by decide) rfl (by decide) ?_
    refine lv_aload_n hx hb dX2_lawfulTurns_28 rfl (lv_at hl 0 rfl) ?_
    refine r_get (v' := .ref (a 2)) hx hb hts in_X2_lawfulTurns_X2 hown w 0 0 rfl rfl (ci := 6) rfl 2 (by decide) (hts _ (List.mem_of_getElem? (i := 1) rfl)) rfl rfl rfl dX2_lawfulTurns_29 ?_
    refine lv_iload_n hx hb dX2_lawfulTurns_32 rfl (lv_at hl 1 rfl) ?_
    refine r_iald (v := (S (1 + 6 * i + 0))) hx hb w 0 1 rfl rfl 0 rfl i (by omega) (Nat.le_of_ble_eq_true rfl) rfl (lnA_at (by omega)) dX2_lawfulTurns_33 ?_
    refine lv_iconst (v := 1) hx hb dX2_lawfulTurns_34 (by decide) ?_
    refine lv_iadd hx hb dX2_lawfulTurns_35 ?_
    refine lv_iconst (v := 2) hx hb dX2_lawfulTurns_36 (by decide) ?_
    refine lv_idiv hx hb dX2_lawfulTurns_37 (by decide) ?_
    exact e_i hx hb hr hlocks w (by first | exact pTbl_0 e1_0 | exact pTbl_1 e1_0 e1_1 | exact pTbl_2 e1_0 e1_1 e1_2 | exact pTbl_3 e1_0 e1_1 e1_2) dX2_lawfulTurns_38 (Nat.le_refl _) (Nat.le_refl _)
  by_cases e1_1 : v = 1
  · refine r_eq (y := 1) e1_1 ?_
    refine lv_tableIn (tgt := 39) hx hb dX2_lawfulTurns_1 (by decide) (by decide) rfl (by decide) ?_
    refine lv_iconst (v := 3) hx hb dX2_lawfulTurns_39 (by decide) ?_
    exact e_i hx hb hr hlocks w (by first | exact pTbl_0 e1_0 | exact pTbl_1 e1_0 e1_1 | exact pTbl_2 e1_0 e1_1 e1_2 | exact pTbl_3 e1_0 e1_1 e1_2) dX2_lawfulTurns_40 (Nat.le_refl _) (Nat.le_refl _)
  by_cases e1_2 : v = 2
  · refine r_eq (y := 2) e1_2 ?_
    refine lv_tableIn (tgt := 41) hx hb dX2_lawfulTurns_1 (by decide) (by decide) rfl (by decide) ?_
    refine lv_iconst (v := 4) hx hb dX2_lawfulTurns_41 (by decide) ?_
    refine lv_aload_n hx hb dX2_lawfulTurns_42 rfl (lv_at hl 0 rfl) ?_
    refine r_get (v' := .ref (a 4)) hx hb hts in_X2_lawfulTurns_X2 hown w 0 0 rfl rfl (ci := 6) rfl 4 (by decide) (hts _ (List.mem_of_getElem? (i := 2) rfl)) rfl rfl rfl dX2_lawfulTurns_43 ?_
    refine lv_iload_n hx hb dX2_lawfulTurns_46 rfl (lv_at hl 1 rfl) ?_
    refine r_iald (v := (S (1 + 6 * i + 2))) hx hb w 0 3 rfl rfl 0 rfl i (by omega) (Nat.le_of_ble_eq_true rfl) rfl (lnA_at (by omega)) dX2_lawfulTurns_47 ?_
    refine lv_iconst (v := 3) hx hb dX2_lawfulTurns_48 (by decide) ?_
    refine lv_idiv hx hb dX2_lawfulTurns_49 (by decide) ?_
    refine lv_isub hx hb dX2_lawfulTurns_50 ?_
    exact e_i hx hb hr hlocks w (by first | exact pTbl_0 e1_0 | exact pTbl_1 e1_0 e1_1 | exact pTbl_2 e1_0 e1_1 e1_2 | exact pTbl_3 e1_0 e1_1 e1_2) dX2_lawfulTurns_51 (Nat.le_refl _) (Nat.le_refl _)
  refine lv_tableOut (tgt := 52) hx hb dX2_lawfulTurns_1 (sw_out 0 2 (fun v h1 h2 e => by
    have h3 : v = 0 ∨ v = 1 ∨ v = 2 := by omega
    rcases h3 with rfl | rfl | rfl
    · exact e1_0 (Int32.toInt_inj.mp e)
    · exact e1_1 (Int32.toInt_inj.mp e)
    · exact e1_2 (Int32.toInt_inj.mp e)
    )) (by decide) ?_
  refine lv_iconst (v := 1) hx hb dX2_lawfulTurns_52 (by decide) ?_
  exact e_i hx hb hr hlocks w (by first | exact pTbl_0 e1_0 | exact pTbl_1 e1_0 e1_1 | exact pTbl_2 e1_0 e1_1 e1_2 | exact pTbl_3 e1_0 e1_1 e1_2) dX2_lawfulTurns_53 (Nat.le_refl _) (Nat.le_refl _)

theorem hdN_X2_favouriteLaw : yX2_favouriteLaw.cls ≠ "java/lang/invoke/MethodHandle" ∧ yX2_favouriteLaw.cls ≠ "java/lang/invoke/VarHandle" ∧ (parseMethodDescriptor yX2_favouriteLaw.desc).map (fun d => d.parameters.length) = some 1 := by decide +kernel
set_option maxRecDepth 100000 in
set_option maxHeartbeats 4000000 in
theorem c_X2_favouriteLaw (l : Launch) (D : va_G) (ty : Nat → ClassId) (a : Nat → Nat) (S : pS) (i : Nat) (hi : i < 8)  : Mi l yX2_favouriteLaw wsX2_favouriteLaw (kR 1 22 0 0) D (kTY ty) [.ref (a 1), .int (nI i)] [lnB ty a S] [lnB ty a S] (nI (pWant S i 3)) 0 0 := by
  refine m_i (cc := cX2_favouriteLaw) (maxL := 4) (ret := (some .int)) (by decide +kernel) rfl (Nat.le_of_ble_eq_true rfl) ?_
  intro p e s m below meth c A ls hx hb hml hr hlocks hown hts w hl
  have hown : s.vm.findClass RX2 = some m.cls := hown
  have hl : lv_has ls 4 [(0, .ref (a 1)), (1, .int (nI i))] := hl
  refine lv_iconst (v := 0) hx hb dX2_favouriteLaw_0 (by decide) ?_
  refine lv_istore_n (lv' := [(2, .int 0), (0, .ref (a 1)), (1, .int (nI i))]) hx hb dX2_favouriteLaw_1 rfl hl (by decide) rfl (fun ls hl => ?_)
  refine lv_iconst (v := 1) hx hb dX2_favouriteLaw_2 (by decide) ?_
  refine lv_istore_n (lv' := [(3, .int 1), (2, .int 0), (0, .ref (a 1)), (1, .int (nI i))]) hx hb dX2_favouriteLaw_3 rfl hl (by decide) rfl (fun ls hl => ?_)
  refine k_loop (fun k H locs ls => kW D (kTY ty) A s.heap s H locs [lnB ty a S] ∧ lv_has ls 4 [(0, .ref (a 1)), (1, .int (nI i)), (2, .int (nI (pWant S i k))), (3, .int (nI (k + 1)))]) 3 0 (by omega) ⟨w, lv_sub hl [2, 3, 1, 0] rfl⟩ ?_
  intro k hk0 hk ihk H locs ls hI
  obtain ⟨w, hl⟩ := hI
  refine lv_iload_n hx hb dX2_favouriteLaw_4 rfl (lv_at hl 3 rfl) ?_
  refine lv_iconst (v := 4) hx hb dX2_favouriteLaw_5 (by decide) ?_
  refine lv_icmp_ge (tgt := 32) hx hb dX2_favouriteLaw_6 (by decide) (fun c6 => ?_) (fun c6 => ?_)
  · have c6 := (nI_leI (a := 4) (b := (k + 1)) (by omega) (by omega)).mp c6
    obtain rfl : 3 = k := by omega
    refine lv_iload_n hx hb dX2_favouriteLaw_32 rfl (lv_at hl 2 rfl) ?_
    exact e_i hx hb hr hlocks w rfl dX2_favouriteLaw_33 (Nat.le_refl _) (Nat.le_refl _)
  · have c6 := mt (nI_leI (a := 4) (b := (k + 1)) (by omega) (by omega)).mpr c6
    refine lv_aload_n hx hb dX2_favouriteLaw_9 rfl (lv_at hl 0 rfl) ?_
    refine lv_iload_n hx hb dX2_favouriteLaw_10 rfl (lv_at hl 1 rfl) ?_
    refine lv_iload_n hx hb dX2_favouriteLaw_11 rfl (lv_at hl 3 rfl) ?_
    refine k_iV (As := [.int (nI i), .int (nI (k + 1))]) (rest := []) (Rs := []) (Bs' := [lnB ty a S]) ⟨hx, hb, hml, hown, hts⟩ w (c_X2_lawfulTurns l D ty a S i (by omega) (nI (k + 1))) (cwV 2 hts gX2_favouriteLaw_X2_lawfulTurns rfl rfl rfl ⟨rfl, hdN_X2_lawfulTurns⟩ ⟨Nat.le_of_ble_eq_true rfl, Nat.le_of_ble_eq_true rfl⟩) [0] (nB := 1) (by decide) rfl rfl rfl rfl 0 rfl rfl (ci := 6) rfl rfl rfl hl.1 rfl (Nat.le_of_ble_eq_true rfl) dX2_favouriteLaw_12 ⟨(Nat.zero_le _), (Nat.zero_le _)⟩ (fun H locs w => ?_)
    refine lv_aload_n hx hb dX2_favouriteLaw_15 rfl (lv_at hl 0 rfl) ?_
    refine lv_iload_n hx hb dX2_favouriteLaw_16 rfl (lv_at hl 1 rfl) ?_
    refine lv_iload_n hx hb dX2_favouriteLaw_17 rfl (lv_at hl 2 rfl) ?_
    refine k_iV (As := [.int (nI i), .int (nI (pWant S i k))]) (rest := [.int (pTbl S i (nI (k + 1)))]) (Rs := []) (Bs' := [lnB ty a S]) ⟨hx, hb, hml, hown, hts⟩ w (c_X2_lawfulTurns l D ty a S i (by omega) (nI (pWant S i k))) (cwV 2 hts gX2_favouriteLaw_X2_lawfulTurns rfl rfl rfl ⟨rfl, hdN_X2_lawfulTurns⟩ ⟨Nat.le_of_ble_eq_true rfl, Nat.le_of_ble_eq_true rfl⟩) [0] (nB := 1) (by decide) rfl rfl rfl rfl 0 rfl rfl (ci := 6) rfl rfl rfl hl.1 rfl (Nat.le_of_ble_eq_true rfl) dX2_favouriteLaw_18 ⟨(Nat.zero_le _), (Nat.zero_le _)⟩ (fun H locs w => ?_)
    refine lv_icmp_le (tgt := 26) hx hb dX2_favouriteLaw_21 (by decide) (fun c21 => ?_) (fun c21 => ?_)
    · have ey := pWant_no (S := S) (h := i) c21
      refine lv_iinc (v := (nI ((k + 1) + 1))) (lv' := [(3, .int (nI ((k + 1) + 1))), (0, .ref (a 1)), (1, .int (nI i)), (2, .int (nI (pWant S i k)))]) hx hb dX2_favouriteLaw_26 hl (k := 3) rfl (inc1 (k + 1)) (by decide) rfl (fun ls hl => ?_)
      refine lv_goto (tgt := 4) hx hb dX2_favouriteLaw_29 (by decide) ?_
      exact ihk _ _ _ ⟨w, (by rw [← ey]; exact lv_sub hl [1, 2, 3, 0] rfl)⟩ (by omega)
    · refine lv_iload_n hx hb dX2_favouriteLaw_24 rfl (lv_at hl 3 rfl) ?_
      refine lv_istore_n (lv' := [(2, .int (nI (k + 1))), (0, .ref (a 1)), (1, .int (nI i)), (3, .int (nI (k + 1)))]) hx hb dX2_favouriteLaw_25 rfl hl (by decide) rfl (fun ls hl => ?_)
      have ey := pWant_yes (S := S) (h := i) c21
      refine lv_iinc (v := (nI ((k + 1) + 1))) (lv' := [(3, .int (nI ((k + 1) + 1))), (2, .int (nI (k + 1))), (0, .ref (a 1)), (1, .int (nI i))]) hx hb dX2_favouriteLaw_26 hl (k := 3) rfl (inc1 (k + 1)) (by decide) rfl (fun ls hl => ?_)
      refine lv_goto (tgt := 4) hx hb dX2_favouriteLaw_29 (by decide) ?_
      exact ihk _ _ _ ⟨w, (by rw [← ey]; exact lv_sub hl [2, 3, 1, 0] rfl)⟩ (by omega)

theorem in_X2_membersBehind_X2 : ∀ w ∈ wsX20, w ∈ wsX2_membersBehind := by decide +kernel
theorem hdN_X2_membersBehind : yX2_membersBehind.cls ≠ "java/lang/invoke/MethodHandle" ∧ yX2_membersBehind.cls ≠ "java/lang/invoke/VarHandle" ∧ (parseMethodDescriptor yX2_membersBehind.desc).map (fun d => d.parameters.length) = some 1 := by decide +kernel
set_option maxRecDepth 100000 in
set_option maxHeartbeats 4000000 in
theorem c_X2_membersBehind (l : Launch) (D : va_G) (ty : Nat → ClassId) (a : Nat → Nat) (S : pS) (n : Nat) (h0 : S 0 = nI n) (hn : n ≤ 8) (v : Int32)  : Mi l yX2_membersBehind wsX2_membersBehind (kR 2 45 0 0) D (kTY ty) [.ref (a 1), .int v] [lnB ty a S] [lnB ty a S] (pMem S v n) 0 0 := by
  refine m_i (cc := cX2_membersBehind) (maxL := 4) (ret := (some .int)) (by decide +kernel) rfl (Nat.le_of_ble_eq_true rfl) ?_
  intro p e s m below meth c A ls hx hb hml hr hlocks hown hts w hl
  have hown : s.vm.findClass RX2 = some m.cls := hown
  have hl : lv_has ls 4 [(0, .ref (a 1)), (1, .int v)] := hl
  refine lv_iconst (v := 0) hx hb dX2_membersBehind_0 (by decide) ?_
  refine lv_istore_n (lv' := [(2, .int 0), (0, .ref (a 1)), (1, .int v)]) hx hb dX2_membersBehind_1 rfl hl (by decide) rfl (fun ls hl => ?_)
  refine lv_iconst (v := 0) hx hb dX2_membersBehind_2 (by decide) ?_
  refine lv_istore_n (lv' := [(3, .int 0), (2, .int 0), (0, .ref (a 1)), (1, .int v)]) hx hb dX2_membersBehind_3 rfl hl (by decide) rfl (fun ls hl => ?_)
  refine k_loop (fun k H locs ls => kW D (kTY ty) A s.heap s H locs [lnB ty a S] ∧ lv_has ls 4 [(0, .ref (a 1)), (1, .int v), (2, .int (pMem S v k)), (3, .int (nI k))]) n 0 (by omega) ⟨w, lv_sub hl [2, 3, 1, 0] rfl⟩ ?_
  intro k hk0 hk ihk H locs ls hI
  obtain ⟨w, hl⟩ := hI
  refine lv_iload_n hx hb dX2_membersBehind_4 rfl (lv_at hl 3 rfl) ?_
  refine lv_aload_n hx hb dX2_membersBehind_5 rfl (lv_at hl 0 rfl) ?_
  refine r_get (v' := .int (nI n)) hx hb hts in_X2_membersBehind_X2 hown w 0 0 rfl rfl (ci := 6) rfl 0 (by decide) (hts _ (List.mem_of_getElem? (i := 1) rfl)) rfl rfl (congrArg Value.int h0) dX2_membersBehind_6 ?_
  refine lv_icmp_ge (tgt := 36) hx hb dX2_membersBehind_9 (by decide) (fun c9 => ?_) (fun c9 => ?_)
  · have c9 := (nI_leI (a := n) (b := k) (by omega) (by omega)).mp c9
    obtain rfl : n = k := by omega
    refine lv_iload_n hx hb dX2_membersBehind_36 rfl (lv_at hl 2 rfl) ?_
    exact e_i hx hb hr hlocks w rfl dX2_membersBehind_37 (Nat.le_refl _) (Nat.le_refl _)
  · have c9 := mt (nI_leI (a := n) (b := k) (by omega) (by omega)).mpr c9
    refine lv_aload_n hx hb dX2_membersBehind_12 rfl (lv_at hl 0 rfl) ?_
    refine lv_iload_n hx hb dX2_membersBehind_13 rfl (lv_at hl 3 rfl) ?_
    refine k_iV (As := [.int (nI k)]) (rest := []) (Rs := []) (Bs' := [lnB ty a S]) ⟨hx, hb, hml, hown, hts⟩ w (c_X2_favouriteLaw l D ty a S k (by omega)) (cwV 1 hts gX2_membersBehind_X2_favouriteLaw rfl rfl rfl ⟨rfl, hdN_X2_favouriteLaw⟩ ⟨Nat.le_of_ble_eq_true rfl, Nat.le_of_ble_eq_true rfl⟩) [0] (nB := 1) (by decide) rfl rfl rfl rfl 0 rfl rfl (ci := 6) rfl rfl rfl hl.1 rfl (Nat.le_of_ble_eq_true rfl) dX2_membersBehind_14 ⟨(Nat.zero_le _), (Nat.zero_le _)⟩ (fun H locs w => ?_)
    refine lv_iload_n hx hb dX2_membersBehind_17 rfl (lv_at hl 1 rfl) ?_
    refine lv_icmp_ne (tgt := 30) hx hb dX2_membersBehind_18 (by decide) (fun c18 => ?_) (fun c18 => ?_)
    · rw [pMem_no (S := S) (v := v) c18] at hl
      refine lv_iinc (v := (nI (k + 1))) (lv' := [(3, .int (nI (k + 1))), (0, .ref (a 1)), (1, .int v), (2, .int (pMem S v (k + 1)))]) hx hb dX2_membersBehind_30 hl (k := 3) rfl (inc1 k) (by decide) rfl (fun ls hl => ?_)
      refine lv_goto (tgt := 4) hx hb dX2_membersBehind_33 (by decide) ?_
      exact ihk _ _ _ ⟨w, lv_sub hl [1, 2, 3, 0] rfl⟩ (by omega)
    · refine lv_iload_n hx hb dX2_membersBehind_21 rfl (lv_at hl 2 rfl) ?_
      refine lv_aload_n hx hb dX2_membersBehind_22 rfl (lv_at hl 0 rfl) ?_
      refine r_get (v' := .ref (a 2)) hx hb hts in_X2_membersBehind_X2 hown w 0 0 rfl rfl (ci := 6) rfl 2 (by decide) (hts _ (List.mem_of_getElem? (i := 2) rfl)) rfl rfl rfl dX2_membersBehind_23 ?_
      refine lv_iload_n hx hb dX2_membersBehind_26 rfl (lv_at hl 3 rfl) ?_
      refine r_iald (v := (S (1 + 6 * k + 0))) hx hb w 0 1 rfl rfl 0 rfl k (by omega) (Nat.le_of_ble_eq_true rfl) rfl (lnA_at (by omega)) dX2_membersBehind_27 ?_
      refine lv_iadd hx hb dX2_membersBehind_28 ?_
      refine r_eq (y := (pMem S v (k + 1))) (pMem_yes c18) ?_
      refine lv_istore_n (lv' := [(2, .int (pMem S v (k + 1))), (0, .ref (a 1)), (1, .int v), (3, .int (nI k))]) hx hb dX2_membersBehind_29 rfl hl (by decide) rfl (fun ls hl => ?_)
      refine lv_iinc (v := (nI (k + 1))) (lv' := [(3, .int (nI (k + 1))), (2, .int (pMem S v (k + 1))), (0, .ref (a 1)), (1, .int v)]) hx hb dX2_membersBehind_30 hl (k := 3) rfl (inc1 k) (by decide) rfl (fun ls hl => ?_)
      refine lv_goto (tgt := 4) hx hb dX2_membersBehind_33 (by decide) ?_
      exact ihk _ _ _ ⟨w, lv_sub hl [2, 3, 1, 0] rfl⟩ (by omega)

theorem hdN_X2_lawOfMost : yX2_lawOfMost.cls ≠ "java/lang/invoke/MethodHandle" ∧ yX2_lawOfMost.cls ≠ "java/lang/invoke/VarHandle" ∧ (parseMethodDescriptor yX2_lawOfMost.desc).map (fun d => d.parameters.length) = some 0 := by decide +kernel
set_option maxRecDepth 100000 in
set_option maxHeartbeats 4000000 in
theorem c_X2_lawOfMost (l : Launch) (D : va_G) (ty : Nat → ClassId) (a : Nat → Nat) (S : pS) (n : Nat) (h0 : S 0 = nI n) (hn : n ≤ 8)  : Mi l yX2_lawOfMost wsX2_lawOfMost (kR 3 68 0 0) D (kTY ty) [.ref (a 1)] [lnB ty a S] [lnB ty a S] (nI (pMost S n 3)) 0 0 := by
  refine m_i (cc := cX2_lawOfMost) (maxL := 5) (ret := (some .int)) (by decide +kernel) rfl (Nat.le_of_ble_eq_true rfl) ?_
  intro p e s m below meth c A ls hx hb hml hr hlocks hown hts w hl
  have hown : s.vm.findClass RX2 = some m.cls := hown
  have hl : lv_has ls 5 [(0, .ref (a 1))] := hl
  refine lv_iconst (v := 0) hx hb dX2_lawOfMost_0 (by decide) ?_
  refine lv_istore_n (lv' := [(1, .int 0), (0, .ref (a 1))]) hx hb dX2_lawOfMost_1 rfl hl (by decide) rfl (fun ls hl => ?_)
  refine lv_aload_n hx hb dX2_lawOfMost_2 rfl (lv_at hl 1 rfl) ?_
  refine lv_iload_n hx hb dX2_lawOfMost_3 rfl (lv_at hl 0 rfl) ?_
  refine k_iV (As := [.int 0]) (rest := []) (Rs := []) (Bs' := [lnB ty a S]) ⟨hx, hb, hml, hown, hts⟩ w (c_X2_membersBehind l D ty a S n h0 hn 0) (cwV 1 hts gX2_lawOfMost_X2_membersBehind rfl rfl rfl ⟨rfl, hdN_X2_membersBehind⟩ ⟨Nat.le_of_ble_eq_true rfl, Nat.le_of_ble_eq_true rfl⟩) [0] (nB := 1) (by decide) rfl rfl rfl rfl 0 rfl rfl (ci := 6) rfl rfl rfl hl.1 rfl (Nat.le_of_ble_eq_true rfl) dX2_lawOfMost_4 ⟨(Nat.zero_le _), (Nat.zero_le _)⟩ (fun H locs w => ?_)
  refine lv_istore_n (lv' := [(2, .int (pMem S 0 n)), (1, .int 0), (0, .ref (a 1))]) hx hb dX2_lawOfMost_7 rfl hl (by decide) rfl (fun ls hl => ?_)
  refine lv_iconst (v := 1) hx hb dX2_lawOfMost_8 (by decide) ?_
  refine lv_istore_n (lv' := [(3, .int 1), (2, .int (pMem S 0 n)), (1, .int 0), (0, .ref (a 1))]) hx hb dX2_lawOfMost_9 rfl hl (by decide) rfl (fun ls hl => ?_)
  refine k_loop (fun k H locs ls => kW D (kTY ty) A s.heap s H locs [lnB ty a S] ∧ lv_has ls 5 [(0, .ref (a 1)), (1, .int (nI (pMost S n k))), (2, .int (pMem S (nI (pMost S n k)) n)), (3, .int (nI (k + 1)))]) 3 0 (by omega) ⟨w, lv_sub hl [3, 2, 1, 0] rfl⟩ ?_
  intro k hk0 hk ihk H locs ls hI
  obtain ⟨w, hl⟩ := hI
  refine lv_iload_n hx hb dX2_lawOfMost_10 rfl (lv_at hl 3 rfl) ?_
  refine lv_iconst (v := 4) hx hb dX2_lawOfMost_11 (by decide) ?_
  refine lv_icmp_ge (tgt := 39) hx hb dX2_lawOfMost_12 (by decide) (fun c12 => ?_) (fun c12 => ?_)
  · have c12 := (nI_leI (a := 4) (b := (k + 1)) (by omega) (by omega)).mp c12
    obtain rfl : 3 = k := by omega
    refine lv_iload_n hx hb dX2_lawOfMost_39 rfl (lv_at hl 1 rfl) ?_
    exact e_i hx hb hr hlocks w rfl dX2_lawOfMost_40 (Nat.le_refl _) (Nat.le_refl _)
  · have c12 := mt (nI_leI (a := 4) (b := (k + 1)) (by omega) (by omega)).mpr c12
    refine lv_aload_n hx hb dX2_lawOfMost_15 rfl (lv_at hl 0 rfl) ?_
    refine lv_iload_n hx hb dX2_lawOfMost_16 rfl (lv_at hl 3 rfl) ?_
    refine k_iV (As := [.int (nI (k + 1))]) (rest := []) (Rs := []) (Bs' := [lnB ty a S]) ⟨hx, hb, hml, hown, hts⟩ w (c_X2_membersBehind l D ty a S n h0 hn (nI (k + 1))) (cwV 1 hts gX2_lawOfMost_X2_membersBehind rfl rfl rfl ⟨rfl, hdN_X2_membersBehind⟩ ⟨Nat.le_of_ble_eq_true rfl, Nat.le_of_ble_eq_true rfl⟩) [0] (nB := 1) (by decide) rfl rfl rfl rfl 0 rfl rfl (ci := 6) rfl rfl rfl hl.1 rfl (Nat.le_of_ble_eq_true rfl) dX2_lawOfMost_17 ⟨(Nat.zero_le _), (Nat.zero_le _)⟩ (fun H locs w => ?_)
    refine lv_istore (lv' := [(4, .int (pMem S (nI (k + 1)) n)), (0, .ref (a 1)), (1, .int (nI (pMost S n k))), (2, .int (pMem S (nI (pMost S n k)) n)), (3, .int (nI (k + 1)))]) hx hb dX2_lawOfMost_20 hl (by decide) rfl (fun ls hl => ?_)
    refine lv_iload hx hb dX2_lawOfMost_22 (lv_at hl 0 rfl) ?_
    refine lv_iload_n hx hb dX2_lawOfMost_24 rfl (lv_at hl 3 rfl) ?_
    refine lv_icmp_le (tgt := 33) hx hb dX2_lawOfMost_25 (by decide) (fun c25 => ?_) (fun c25 => ?_)
    · have ey := pMost_no (S := S) (n := n) c25
      refine lv_iinc (v := (nI ((k + 1) + 1))) (lv' := [(3, .int (nI ((k + 1) + 1))), (4, .int (pMem S (nI (k + 1)) n)), (0, .ref (a 1)), (1, .int (nI (pMost S n k))), (2, .int (pMem S (nI (pMost S n k)) n))]) hx hb dX2_lawOfMost_33 hl (k := 4) rfl (inc1 (k + 1)) (by decide) rfl (fun ls hl => ?_)
      refine lv_goto (tgt := 10) hx hb dX2_lawOfMost_36 (by decide) ?_
      exact ihk _ _ _ ⟨w, (by rw [← ey]; exact lv_sub hl [2, 3, 4, 0] rfl)⟩ (by omega)
    · refine lv_iload_n hx hb dX2_lawOfMost_28 rfl (lv_at hl 4 rfl) ?_
      refine lv_istore_n (lv' := [(1, .int (nI (k + 1))), (4, .int (pMem S (nI (k + 1)) n)), (0, .ref (a 1)), (2, .int (pMem S (nI (pMost S n k)) n)), (3, .int (nI (k + 1)))]) hx hb dX2_lawOfMost_29 rfl hl (by decide) rfl (fun ls hl => ?_)
      refine lv_iload hx hb dX2_lawOfMost_30 (lv_at hl 1 rfl) ?_
      refine lv_istore_n (lv' := [(2, .int (pMem S (nI (k + 1)) n)), (1, .int (nI (k + 1))), (4, .int (pMem S (nI (k + 1)) n)), (0, .ref (a 1)), (3, .int (nI (k + 1)))]) hx hb dX2_lawOfMost_32 rfl hl (by decide) rfl (fun ls hl => ?_)
      have ey := pMost_yes (S := S) (n := n) c25
      refine lv_iinc (v := (nI ((k + 1) + 1))) (lv' := [(3, .int (nI ((k + 1) + 1))), (2, .int (pMem S (nI (k + 1)) n)), (1, .int (nI (k + 1))), (4, .int (pMem S (nI (k + 1)) n)), (0, .ref (a 1))]) hx hb dX2_lawOfMost_33 hl (k := 4) rfl (inc1 (k + 1)) (by decide) rfl (fun ls hl => ?_)
      refine lv_goto (tgt := 10) hx hb dX2_lawOfMost_36 (by decide) ?_
      exact ihk _ _ _ ⟨w, (by rw [← ey]; exact lv_sub hl [4, 2, 1, 0] rfl)⟩ (by omega)

theorem in_X2_forgetDay_X2 : ∀ w ∈ wsX20, w ∈ wsX2_forgetDay := by decide +kernel
theorem hdN_X2_forgetDay : yX2_forgetDay.cls ≠ "java/lang/invoke/MethodHandle" ∧ yX2_forgetDay.cls ≠ "java/lang/invoke/VarHandle" ∧ (parseMethodDescriptor yX2_forgetDay.desc).map (fun d => d.parameters.length) = some 0 := by decide +kernel
set_option maxRecDepth 100000 in
set_option maxHeartbeats 4000000 in
theorem c_X2_forgetDay (l : Launch) (D : va_G) (ty : Nat → ClassId) (a : Nat → Nat) (S : pS) (n : Nat) (h0 : S 0 = nI n) (hn : n ≤ 8)  : Mv l yX2_forgetDay wsX2_forgetDay (kR 0 0 0 0) D (kTY ty) [.ref (a 1)] [lnB ty a S] [lnB ty a (sClear n S)] 0 0 := by
  refine m_v (cc := cX2_forgetDay) (maxL := 2) (ret := none) (by decide +kernel) rfl (Nat.le_of_ble_eq_true rfl) ?_
  intro p e s m below meth c A ls hx hb hml hr hlocks hown hts w hl
  have hown : s.vm.findClass RX2 = some m.cls := hown
  have hl : lv_has ls 2 [(0, .ref (a 1))] := hl
  refine lv_iconst (v := 0) hx hb dX2_forgetDay_0 (by decide) ?_
  refine lv_istore_n (lv' := [(1, .int 0), (0, .ref (a 1))]) hx hb dX2_forgetDay_1 rfl hl (by decide) rfl (fun ls hl => ?_)
  refine k_loop (fun k H locs ls => kW D (kTY ty) A s.heap s H locs [lnB ty a (sClear k S)] ∧ lv_has ls 2 [(0, .ref (a 1)), (1, .int (nI k))]) n 0 (by omega) ⟨(w.cast (by rw [sClear_0])), lv_sub hl [1, 0] rfl⟩ ?_
  intro k hk0 hk ihk H locs ls hI
  obtain ⟨w, hl⟩ := hI
  refine lv_iload_n hx hb dX2_forgetDay_2 rfl (lv_at hl 1 rfl) ?_
  refine lv_aload_n hx hb dX2_forgetDay_3 rfl (lv_at hl 0 rfl) ?_
  refine r_get (v' := .int ((sClear k S) 0)) hx hb hts in_X2_forgetDay_X2 hown w 0 0 rfl rfl (ci := 6) rfl 0 (by decide) (hts _ (List.mem_of_getElem? (i := 1) rfl)) rfl rfl rfl dX2_forgetDay_4 ?_
  refine r_eq (y := (nI n)) h0 ?_
  refine lv_icmp_ge (tgt := 30) hx hb dX2_forgetDay_7 (by decide) (fun c7 => ?_) (fun c7 => ?_)
  · have c7 := (nI_leI (a := n) (b := k) (by omega) (by omega)).mp c7
    obtain rfl : n = k := by omega
    exact e_v hx hb hr hlocks w dX2_forgetDay_30 (Nat.le_refl _) (Nat.le_refl _)
  · have c7 := mt (nI_leI (a := n) (b := k) (by omega) (by omega)).mpr c7
    refine lv_aload_n hx hb dX2_forgetDay_10 rfl (lv_at hl 0 rfl) ?_
    refine r_get (v' := .ref (a 5)) hx hb hts in_X2_forgetDay_X2 hown w 0 0 rfl rfl (ci := 6) rfl 5 (by decide) (hts _ (List.mem_of_getElem? (i := 2) rfl)) rfl rfl rfl dX2_forgetDay_11 ?_
    refine lv_iload_n hx hb dX2_forgetDay_14 rfl (lv_at hl 1 rfl) ?_
    refine lv_iconst (v := 0) hx hb dX2_forgetDay_15 (by decide) ?_
    refine r_iast hx hb w 0 4 rfl rfl 0 rfl k (by omega) (Nat.le_of_ble_eq_true rfl) rfl (lnB ty a (upd (sClear k S) (1 + 6 * k + 3) 0)) (lnB_st3 (by omega)) [lnB ty a (upd (sClear k S) (1 + 6 * k + 3) 0)] rfl dX2_forgetDay_16 (fun H locs w => ?_)
    refine lv_aload_n hx hb dX2_forgetDay_17 rfl (lv_at hl 0 rfl) ?_
    refine r_get (v' := .ref (a 6)) hx hb hts in_X2_forgetDay_X2 hown w 0 0 rfl rfl (ci := 6) rfl 6 (by decide) (hts _ (List.mem_of_getElem? (i := 3) rfl)) rfl rfl rfl dX2_forgetDay_18 ?_
    refine lv_iload_n hx hb dX2_forgetDay_21 rfl (lv_at hl 1 rfl) ?_
    refine lv_iconst (v := 0) hx hb dX2_forgetDay_22 (by decide) ?_
    refine r_iast hx hb w 0 5 rfl rfl 0 rfl k (by omega) (Nat.le_of_ble_eq_true rfl) rfl (lnB ty a (sClear (k + 1) S)) (by rw [sClear_s]; exact lnB_st4 (by omega)) [lnB ty a (sClear (k + 1) S)] rfl dX2_forgetDay_23 (fun H locs w => ?_)
    refine lv_iinc (v := (nI (k + 1))) (lv' := [(1, .int (nI (k + 1))), (0, .ref (a 1))]) hx hb dX2_forgetDay_24 hl (k := 1) rfl (inc1 k) (by decide) rfl (fun ls hl => ?_)
    refine lv_goto (tgt := 2) hx hb dX2_forgetDay_27 (by decide) ?_
    exact ihk _ _ _ ⟨w, lv_sub hl [1, 0] rfl⟩ (by omega)
