theorem hdN_J3_checkIndex_8e157 : yJ3_checkIndex_8e157.cls ≠ "java/lang/invoke/MethodHandle" ∧ yJ3_checkIndex_8e157.cls ≠ "java/lang/invoke/VarHandle" ∧ (parseMethodDescriptor yJ3_checkIndex_8e157.desc).map (fun d => d.parameters.length) = some 3 := by decide +kernel
theorem hdS_J3_checkIndex_8e157 : yJ3_checkIndex_8e157.name ≠ "<init>" ∧ (parseMethodDescriptor yJ3_checkIndex_8e157.desc).map (fun d => d.parameters.length) = some 3 := by decide +kernel
set_option maxRecDepth 100000 in
set_option maxHeartbeats 4000000 in
theorem c_J3_checkIndex_8e157 (l : Launch) (J : Nat → Nat) (D : va_G) (ty : Nat → ClassId) (i n : Nat) (hi : i < n) (hn : n ≤ 1000) : Ji J l yJ3_checkIndex_8e157 wsJ3_checkIndex_8e157 (kR 0 0 0 0) D (kTY ty) [.int (nI i), .int (nI n), .null] [] [] (nI i) 0 0 := by
  refine m_ji (cc := cJ3_checkIndex_8e157) (maxL := 3) (ret := (some .int)) (by decide +kernel) rfl (Nat.le_of_ble_eq_true rfl) ?_
  intro p e s m below meth c A ls hx hb hml hr hlocks hown hts hj w hl
  have hown : s.vm.findClass RJ3 = some m.cls := hown
  have hl : lv_has ls 3 [(0, .int (nI i)), (1, .int (nI n)), (2, .null)] := hl
  refine lv_iload_n hx hb dJ3_checkIndex_8e157_0 rfl (lv_at hl 0 rfl) ?_
  refine lv_if_lt (tgt := 9) hx hb dJ3_checkIndex_8e157_1 (by decide) (fun c1 => ?_) (fun c1 => ?_)
  · exact absurd c1 (nI_pos (by omega))
  · refine lv_iload_n hx hb dJ3_checkIndex_8e157_4 rfl (lv_at hl 0 rfl) ?_
    refine lv_iload_n hx hb dJ3_checkIndex_8e157_5 rfl (lv_at hl 1 rfl) ?_
    refine lv_icmp_lt (tgt := 16) hx hb dJ3_checkIndex_8e157_6 (by decide) (fun c6 => ?_) (fun c6 => ?_)
    · have c6 := (nI_ltI (a := i) (b := n) (by omega) (by omega)).mp c6
      refine lv_iload_n hx hb dJ3_checkIndex_8e157_16 rfl (lv_at hl 0 rfl) ?_
      exact e_i hx hb hr hlocks w rfl dJ3_checkIndex_8e157_17 (Nat.le_refl _) (Nat.le_refl _)
    · have c6 := mt (nI_ltI (a := i) (b := n) (by omega) (by omega)).mpr c6
      exact absurd hi (by omega)

set_option maxRecDepth 100000 in
set_option maxHeartbeats 4000000 in
theorem c_J3_checkIndex_8e157r (l : Launch) (J : Nat → Nat) (D : va_G) (ty : Nat → ClassId) (i n : Nat) (hi : i < n) (hn : n ≤ 1000) (t0 : Nat) : Ji J l yJ3_checkIndex_8e157 wsJ3_checkIndex_8e157 (kR 0 0 0 0) D (kTY ty) [.int (nI i), .int (nI n), .ref t0] [] [] (nI i) 0 0 := by
  refine m_ji (cc := cJ3_checkIndex_8e157) (maxL := 3) (ret := (some .int)) (by decide +kernel) rfl (Nat.le_of_ble_eq_true rfl) ?_
  intro p e s m below meth c A ls hx hb hml hr hlocks hown hts hj w hl
  have hown : s.vm.findClass RJ3 = some m.cls := hown
  have hl : lv_has ls 3 [(0, .int (nI i)), (1, .int (nI n)), (2, .ref t0)] := hl
  refine lv_iload_n hx hb dJ3_checkIndex_8e157_0 rfl (lv_at hl 0 rfl) ?_
  refine lv_if_lt (tgt := 9) hx hb dJ3_checkIndex_8e157_1 (by decide) (fun c1 => ?_) (fun c1 => ?_)
  · exact absurd c1 (nI_pos (by omega))
  · refine lv_iload_n hx hb dJ3_checkIndex_8e157_4 rfl (lv_at hl 0 rfl) ?_
    refine lv_iload_n hx hb dJ3_checkIndex_8e157_5 rfl (lv_at hl 1 rfl) ?_
    refine lv_icmp_lt (tgt := 16) hx hb dJ3_checkIndex_8e157_6 (by decide) (fun c6 => ?_) (fun c6 => ?_)
    · have c6 := (nI_ltI (a := i) (b := n) (by omega) (by omega)).mp c6
      refine lv_iload_n hx hb dJ3_checkIndex_8e157_16 rfl (lv_at hl 0 rfl) ?_
      exact e_i hx hb hr hlocks w rfl dJ3_checkIndex_8e157_17 (Nat.le_refl _) (Nat.le_refl _)
    · have c6 := mt (nI_ltI (a := i) (b := n) (by omega) (by omega)).mpr c6
      exact absurd hi (by omega)

theorem hdN_J0_checkIndex_df160 : yJ0_checkIndex_df160.cls ≠ "java/lang/invoke/MethodHandle" ∧ yJ0_checkIndex_df160.cls ≠ "java/lang/invoke/VarHandle" ∧ (parseMethodDescriptor yJ0_checkIndex_df160.desc).map (fun d => d.parameters.length) = some 2 := by decide +kernel
theorem hdS_J0_checkIndex_df160 : yJ0_checkIndex_df160.name ≠ "<init>" ∧ (parseMethodDescriptor yJ0_checkIndex_df160.desc).map (fun d => d.parameters.length) = some 2 := by decide +kernel
set_option maxRecDepth 100000 in
set_option maxHeartbeats 4000000 in
theorem c_J0_checkIndex_df160 (l : Launch) (J : Nat → Nat) (D : va_G) (ty : Nat → ClassId) (i n : Nat) (hi : i < n) (hn : n ≤ 1000) : Jv J l yJ0_checkIndex_df160 wsJ0_checkIndex_df160 (kR 1 22 0 0) D (kTY ty) [.int (nI i), .int (nI n)] [] [] 0 0 := by
  refine m_jv (cc := cJ0_checkIndex_df160) (maxL := 2) (ret := none) (by decide +kernel) rfl (Nat.le_of_ble_eq_true rfl) ?_
  intro p e s m below meth c A ls hx hb hml hr hlocks hown hts hj w hl
  have hown : s.vm.findClass RJ0 = some m.cls := hown
  have hl : lv_has ls 2 [(0, .int (nI i)), (1, .int (nI n))] := hl
  by_cases cz : va_Z "jdk/internal/util/Preconditions" "SIOOBE_FORMATTER" "Ljava/util/function/BiFunction;" .null A s s.heap
  · refine lv_iload_n hx hb dJ0_checkIndex_df160_0 rfl (lv_at hl 0 rfl) ?_
    refine lv_iload_n hx hb dJ0_checkIndex_df160_1 rfl (lv_at hl 1 rfl) ?_
    refine va_gets hx hb cz w.2.2.2.1 hown (hts _ (List.mem_of_getElem? (i := 1) rfl)) (fun _ h => h) dJ0_checkIndex_df160_2 ?_
    refine j_iS (As := [.int (nI i), .int (nI n), .null]) (rest := []) (Rs := []) (Bs' := []) ⟨hx, hb, hml, hown, hts⟩ hj w (c_J3_checkIndex_8e157 l J D ty i n hi hn) (va_cwS 3 hts gJ0_checkIndex_df160_J3_checkIndex_8e157 rfl rfl rfl hdN_J3_checkIndex_8e157 ⟨Nat.le_of_ble_eq_true rfl, Nat.le_of_ble_eq_true rfl⟩) [] (nB := 0) (by decide) rfl rfl rfl rfl rfl hl.1 rfl (Nat.le_of_ble_eq_true rfl) dJ0_checkIndex_df160_5 ⟨(Nat.zero_le _), (Nat.zero_le _)⟩ (fun H locs w => ?_)
    refine lv_pop hx hb dJ0_checkIndex_df160_8 rfl ?_
    exact e_v hx hb hr hlocks w dJ0_checkIndex_df160_9 (Nat.le_refl _) (Nat.le_refl _)
  · obtain ⟨t0, cr⟩ := hj.2.2.2.2.2.resolve_left cz
    refine lv_iload_n hx hb dJ0_checkIndex_df160_0 rfl (lv_at hl 0 rfl) ?_
    refine lv_iload_n hx hb dJ0_checkIndex_df160_1 rfl (lv_at hl 1 rfl) ?_
    refine va_gets hx hb cr w.2.2.2.1 hown (hts _ (List.mem_of_getElem? (i := 1) rfl)) (fun _ h => h) dJ0_checkIndex_df160_2 ?_
    refine j_iS (As := [.int (nI i), .int (nI n), .ref t0]) (rest := []) (Rs := []) (Bs' := []) ⟨hx, hb, hml, hown, hts⟩ hj w (c_J3_checkIndex_8e157r l J D ty i n hi hn t0) (va_cwS 3 hts gJ0_checkIndex_df160_J3_checkIndex_8e157 rfl rfl rfl hdN_J3_checkIndex_8e157 ⟨Nat.le_of_ble_eq_true rfl, Nat.le_of_ble_eq_true rfl⟩) [] (nB := 0) (by decide) rfl rfl rfl rfl rfl hl.1 rfl (Nat.le_of_ble_eq_true rfl) dJ0_checkIndex_df160_5 ⟨(Nat.zero_le _), (Nat.zero_le _)⟩ (fun H locs w => ?_)
    refine lv_pop hx hb dJ0_checkIndex_df160_8 rfl ?_
    exact e_v hx hb hr hlocks w dJ0_checkIndex_df160_9 (Nat.le_refl _) (Nat.le_refl _)

theorem in_J5_charAt_5068e_J4 : ∀ w ∈ wsJ40, w ∈ wsJ5_charAt_5068e := by decide +kernel
theorem hdN_J5_charAt_5068e : yJ5_charAt_5068e.cls ≠ "java/lang/invoke/MethodHandle" ∧ yJ5_charAt_5068e.cls ≠ "java/lang/invoke/VarHandle" ∧ (parseMethodDescriptor yJ5_charAt_5068e.desc).map (fun d => d.parameters.length) = some 1 := by decide +kernel
theorem hdS_J5_charAt_5068e : yJ5_charAt_5068e.name ≠ "<init>" ∧ (parseMethodDescriptor yJ5_charAt_5068e.desc).map (fun d => d.parameters.length) = some 1 := by decide +kernel
set_option maxRecDepth 100000 in
set_option maxHeartbeats 4000000 in
theorem c_J5_charAt_5068e (l : Launch) (J : Nat → Nat) (D : va_G) (ty : Nat → ClassId) (sb va : Nat) (ml : Int32) (n : Nat) (f : pS) (i : Nat) (hi : i < n) (hn : n ≤ 16) (hf : ∃ q : Nat, q < 128 ∧ f i = nI q) : Ji J l yJ5_charAt_5068e wsJ5_charAt_5068e (kR 2 43 0 0) D (kTY ty) [.ref sb, .int (nI i)] [soB sb va ml n, baB ty va f] [soB sb va ml n, baB ty va f] (f i) 0 0 := by
  refine m_ji (cc := cJ5_charAt_5068e) (maxL := 5) (ret := (some .char)) (by decide +kernel) rfl (Nat.le_of_ble_eq_true rfl) ?_
  intro p e s m below meth c A ls hx hb hml hr hlocks hown hts hj w hl
  have hown : s.vm.findClass RJ5 = some m.cls := hown
  have hl : lv_has ls 5 [(0, .ref sb), (1, .int (nI i))] := hl
  obtain ⟨q, hq, hfq⟩ := id hf
  refine lv_aload_n hx hb dJ5_charAt_5068e_0 rfl (lv_at hl 0 rfl) ?_
  refine r_get (v' := .int 0) hx hb hts in_J5_charAt_5068e_J4 hown w 0 0 rfl rfl (ci := 1) rfl 1 (by decide) (hts _ (List.mem_of_getElem? (i := 1) rfl)) rfl rfl rfl dJ5_charAt_5068e_1 ?_
  refine lv_istore_n (lv' := [(2, .int 0), (0, .ref sb), (1, .int (nI i))]) hx hb dJ5_charAt_5068e_4 rfl hl (by decide) rfl (fun ls hl => ?_)
  refine lv_aload_n hx hb dJ5_charAt_5068e_5 rfl (lv_at hl 1 rfl) ?_
  refine r_get (v' := .ref va) hx hb hts in_J5_charAt_5068e_J4 hown w 0 0 rfl rfl (ci := 1) rfl 0 (by decide) (hts _ (List.mem_of_getElem? (i := 2) rfl)) rfl rfl rfl dJ5_charAt_5068e_6 ?_
  refine lv_astore_n (lv' := [(3, .ref va), (2, .int 0), (0, .ref sb), (1, .int (nI i))]) hx hb dJ5_charAt_5068e_9 rfl hl (by decide) rfl (fun ls hl => ?_)
  refine lv_aload_n hx hb dJ5_charAt_5068e_10 rfl (lv_at hl 2 rfl) ?_
  refine r_get (v' := .int (nI n)) hx hb hts in_J5_charAt_5068e_J4 hown w 0 0 rfl rfl (ci := 1) rfl 3 (by decide) (hts _ (List.mem_of_getElem? (i := 3) rfl)) rfl rfl rfl dJ5_charAt_5068e_11 ?_
  refine lv_aload_n hx hb dJ5_charAt_5068e_14 rfl (lv_at hl 0 rfl) ?_
  refine r_alen (v := 16) hx hb w 1 0 rfl rfl 4 rfl rfl dJ5_charAt_5068e_15 ?_
  refine lv_iload_n hx hb dJ5_charAt_5068e_16 rfl (lv_at hl 1 rfl) ?_
  refine lv_ishr hx hb dJ5_charAt_5068e_17 ?_
  refine r_eq (y := 16) (by decide) ?_
  refine va_mmin hx hb (hml.trans hl.1.symm) hown (hts _ (List.mem_of_getElem? (i := 4) rfl)) (hts _ (List.mem_of_getElem? (i := 5) rfl)) (hts _ (List.mem_of_getElem? (i := 6) rfl)) (hts _ (List.mem_of_getElem? (i := 7) rfl)) (Nat.le_of_ble_eq_true rfl) (Nat.le_of_ble_eq_true rfl) (Nat.zero_le _) (Nat.zero_le _) dJ5_charAt_5068e_18 ?_
  refine r_eq (y := (jmin (nI n) 16)) rfl ?_
  refine r_eq (y := (nI n)) (jb_min n hn) ?_
  refine lv_istore (lv' := [(4, .int (nI n)), (3, .ref va), (2, .int 0), (0, .ref sb), (1, .int (nI i))]) hx hb dJ5_charAt_5068e_21 hl (by decide) rfl (fun ls hl => ?_)
  refine lv_iload_n hx hb dJ5_charAt_5068e_23 rfl (lv_at hl 4 rfl) ?_
  refine lv_iload hx hb dJ5_charAt_5068e_24 (lv_at hl 0 rfl) ?_
  refine j_vS (As := [.int (nI i), .int (nI n)]) (rest := []) (Rs := [soB sb va ml n, baB ty va f]) (Bs' := [soB sb va ml n, baB ty va f]) ⟨hx, hb, hml, hown, hts⟩ hj w (c_J0_checkIndex_df160 l J D ty i n hi (by omega)) (va_cwS 2 hts gJ5_charAt_5068e_J0_checkIndex_df160 rfl rfl rfl hdN_J0_checkIndex_df160 ⟨Nat.le_of_ble_eq_true rfl, Nat.le_of_ble_eq_true rfl⟩) [0, 1] (nB := 2) (by decide) rfl rfl rfl rfl rfl hl.1 rfl (Nat.le_of_ble_eq_true rfl) dJ5_charAt_5068e_26 ⟨(Nat.zero_le _), (Nat.zero_le _)⟩ (fun H locs w => ?_)
  refine lv_iload_n hx hb dJ5_charAt_5068e_29 rfl (lv_at hl 2 rfl) ?_
  refine lv_if_ne (tgt := 42) hx hb dJ5_charAt_5068e_30 (by decide) (fun c30 => ?_) (fun c30 => ?_)
  · exact absurd c30 (by decide)
  · refine lv_aload_n hx hb dJ5_charAt_5068e_33 rfl (lv_at hl 1 rfl) ?_
    refine lv_iload_n hx hb dJ5_charAt_5068e_34 rfl (lv_at hl 4 rfl) ?_
    refine r_bald (v := (f i)) hx hb w 1 0 rfl rfl 4 rfl i (by omega) (Nat.le_of_ble_eq_true rfl) rfl rfl dJ5_charAt_5068e_35 ?_
    refine lv_sipush (v := 255) hx hb dJ5_charAt_5068e_36 (by decide) ?_
    refine lv_iand hx hb dJ5_charAt_5068e_39 ?_
    refine r_eq (y := (nI q)) (by rw [hfq]; exact jb_and q hq) ?_
    refine lv_i2c (v := (nI q)) hx hb dJ5_charAt_5068e_40 (jb_i2c q hq) ?_
    exact e_z (ty := .char) hx hb hr (jb_cnar q hq) hlocks w hfq.symm dJ5_charAt_5068e_41 (Nat.le_refl _) (Nat.le_refl _)

theorem hdN_J4_charAt_5068e : yJ4_charAt_5068e.cls ≠ "java/lang/invoke/MethodHandle" ∧ yJ4_charAt_5068e.cls ≠ "java/lang/invoke/VarHandle" ∧ (parseMethodDescriptor yJ4_charAt_5068e.desc).map (fun d => d.parameters.length) = some 1 := by decide +kernel
theorem hdS_J4_charAt_5068e : yJ4_charAt_5068e.name ≠ "<init>" ∧ (parseMethodDescriptor yJ4_charAt_5068e.desc).map (fun d => d.parameters.length) = some 1 := by decide +kernel
set_option maxRecDepth 100000 in
set_option maxHeartbeats 4000000 in
theorem c_J4_charAt_5068e (l : Launch) (J : Nat → Nat) (D : va_G) (ty : Nat → ClassId) (sb va : Nat) (ml : Int32) (n : Nat) (f : pS) (i : Nat) (hi : i < n) (hn : n ≤ 16) (hf : ∃ q : Nat, q < 128 ∧ f i = nI q) : Ji J l yJ4_charAt_5068e wsJ4_charAt_5068e (kR 3 67 0 0) D (kTY ty) [.ref sb, .int (nI i)] [soB sb va ml n, baB ty va f] [soB sb va ml n, baB ty va f] (f i) 0 0 := by
  refine m_ji (cc := cJ4_charAt_5068e) (maxL := 2) (ret := (some .char)) (by decide +kernel) rfl (Nat.le_of_ble_eq_true rfl) ?_
  intro p e s m below meth c A ls hx hb hml hr hlocks hown hts hj w hl
  have hown : s.vm.findClass RJ4 = some m.cls := hown
  have hl : lv_has ls 2 [(0, .ref sb), (1, .int (nI i))] := hl
  obtain ⟨q, hq, hfq⟩ := id hf
  refine lv_aload_n hx hb dJ4_charAt_5068e_0 rfl (lv_at hl 0 rfl) ?_
  refine lv_iload_n hx hb dJ4_charAt_5068e_1 rfl (lv_at hl 1 rfl) ?_
  refine j_iSU (As := [.int (nI i)]) (rest := []) (Rs := []) (Bs' := [soB sb va ml n, baB ty va f]) ⟨hx, hb, hml, hown, hts⟩ hj w (c_J5_charAt_5068e l J D ty sb va ml n f i hi hn hf) (va_cwSU 1 hts gJ4_charAt_5068e_J5_charAt_5068e_s329 rfl rfl rfl hdS_J5_charAt_5068e ⟨Nat.le_of_ble_eq_true rfl, Nat.le_of_ble_eq_true rfl⟩) [0, 1] (nB := 2) (by decide) rfl rfl rfl rfl 0 rfl rfl (ci := 1) rfl rfl rfl hl.1 rfl (Nat.le_of_ble_eq_true rfl) dJ4_charAt_5068e_2 ⟨(Nat.zero_le _), (Nat.zero_le _)⟩ (fun H locs w => ?_)
  exact e_z (ty := .char) hx hb hr (by rw [hfq]; exact jb_cnar q hq) hlocks w rfl dJ4_charAt_5068e_5 (Nat.le_refl _) (Nat.le_refl _)

theorem in_X3_write_X3 : ∀ w ∈ wsX30, w ∈ wsX3_write := by decide +kernel
theorem hdN_X3_write : yX3_write.cls ≠ "java/lang/invoke/MethodHandle" ∧ yX3_write.cls ≠ "java/lang/invoke/VarHandle" ∧ (parseMethodDescriptor yX3_write.desc).map (fun d => d.parameters.length) = some 2 := by decide +kernel
theorem hdS_X3_write : yX3_write.name ≠ "<init>" ∧ (parseMethodDescriptor yX3_write.desc).map (fun d => d.parameters.length) = some 2 := by decide +kernel
set_option maxRecDepth 100000 in
set_option maxHeartbeats 4000000 in
theorem c_X3_write (l : Launch) (J : Nat → Nat) (D : va_G) (ty : Nat → ClassId) (a : Nat → Nat) (M : pS) (mm x : Nat) (hm0 : M 0 = nI mm) (hm1 : M 1 = nI x) (hxx : x < 20) (hmm : mm ≤ 20) (j r : Nat) (hj2 : j < mm) (hr2 : r = (x + 20 - mm + j) % 20) (kd dd da db : Nat) (hE : mEn M r kd dd da db) (sb va : Nat) (ml : Int32) (n : Nat) (hn31 : n < 2 ^ 31) (f : pS) : Jv J l yX3_write wsX3_write (kR 5 108 0 0) D (kTY ty) [.ref (a 20), .int (nI j), .ref sb] [miB ty a M, soB sb va ml n, baB ty va f] [miB ty a M, soB sb va (if n = 0 then ml else 1) ((lnT kd dd da db).length), baB ty va (putL f 0 (lnT kd dd da db))] 0 0 := by
  refine m_jv (cc := cX3_write) (maxL := 4) (ret := none) (by decide +kernel) rfl (Nat.le_of_ble_eq_true rfl) ?_
  intro p e s m below meth c A ls hx hb hml hr hlocks hown hts hj w hl
  have hown : s.vm.findClass RX3 = some m.cls := hown
  have hl : lv_has ls 4 [(0, .ref (a 20)), (1, .int (nI j)), (2, .ref sb)] := hl
  obtain ⟨hk0, hd0, ha0, hb0, hkd, hd, ha, hdb⟩ := id hE
  have hr20 : r < 20 := by omega
  have hl0 : jLen.getD 0 0 = 3 := rfl
  have hl1 : jLen.getD 1 0 = 7 := rfl
  have e2 := (dg_in hd).2.2
  have e3 := dg_hi (j := 1) (v := da) (by omega) ha
  have e4 := dg_hi (j := 1) (v := db) (by omega) hdb
  refine lv_aload_n hx hb dX3_write_0 rfl (lv_at hl 0 rfl) ?_
  refine r_get (v' := .int (nI x)) hx hb hts in_X3_write_X3 hown w 0 0 rfl rfl (ci := 7) rfl 1 (by decide) (hts _ (List.mem_of_getElem? (i := 1) rfl)) rfl rfl (congrArg Value.int hm1) dX3_write_1 ?_
  refine lv_bipush (v := 20) hx hb dX3_write_4 (by decide) ?_
  refine lv_iadd hx hb dX3_write_6 ?_
  refine r_eq (y := (nI (x + 20))) (nI_add x 20) ?_
  refine lv_aload_n hx hb dX3_write_7 rfl (lv_at hl 0 rfl) ?_
  refine r_get (v' := .int (nI mm)) hx hb hts in_X3_write_X3 hown w 0 0 rfl rfl (ci := 7) rfl 0 (by decide) (hts _ (List.mem_of_getElem? (i := 2) rfl)) rfl rfl (congrArg Value.int hm0) dX3_write_8 ?_
  refine lv_isub hx hb dX3_write_11 ?_
  refine r_eq (y := (nI ((x + 20) - mm))) (pk_sub (a := (x + 20)) (b := mm) (by omega)) ?_
  refine lv_iload_n hx hb dX3_write_12 rfl (lv_at hl 1 rfl) ?_
  refine lv_iadd hx hb dX3_write_13 ?_
  refine r_eq (y := (nI (((x + 20) - mm) + j))) (nI_add ((x + 20) - mm) j) ?_
  refine lv_bipush (v := 20) hx hb dX3_write_14 (by decide) ?_
  refine lv_irem hx hb dX3_write_16 (by decide) ?_
  refine r_eq (y := (nI r)) (by rw [hr2]; exact pk_rem (a := x + 20 - mm + j) (d := 20) (by omega) (by omega) (by omega)) ?_
  refine lv_istore_n (lv' := [(3, .int (nI r)), (0, .ref (a 20)), (1, .int (nI j)), (2, .ref sb)]) hx hb dX3_write_17 rfl hl (by decide) rfl (fun ls hl => ?_)
  clear hr2
  refine lv_aload_n hx hb dX3_write_18 rfl (lv_at hl 3 rfl) ?_
  refine lv_iconst (v := 0) hx hb dX3_write_19 (by decide) ?_
  refine j_vV (As := [.int 0]) (rest := []) (Rs := [miB ty a M]) (Bs' := [miB ty a M, soB sb va (if n = 0 then ml else 1) 0, baB ty va f]) ⟨hx, hb, hml, hown, hts⟩ hj w (c_J4_setLength_d00df l J D ty sb va ml n f (by omega)) (cwV 1 hts gX3_write_J4_setLength_d00df rfl rfl rfl ⟨rfl, hdN_J4_setLength_d00df⟩ ⟨Nat.le_of_ble_eq_true rfl, Nat.le_of_ble_eq_true rfl⟩) [1, 2, 0] (nB := 3) (by decide) rfl rfl rfl rfl 1 rfl rfl (ci := 1) rfl rfl rfl hl.1 rfl (Nat.le_of_ble_eq_true rfl) dX3_write_20 ⟨(Nat.zero_le _), (Nat.zero_le _)⟩ (fun H locs w => ?_)
  refine lv_aload_n hx hb dX3_write_23 rfl (lv_at hl 3 rfl) ?_
  refine lv_bipush (v := 100) hx hb dX3_write_24 (by decide) ?_
  refine j_rV (As := [.int 100]) (rest := []) (Rs := [miB ty a M]) (Bs' := [miB ty a M, soB sb va (if n = 0 then ml else 1) (0 + 1), baB ty va (putL f 0 [nI 100])]) ⟨hx, hb, hml, hown, hts⟩ hj w (c_J4_append_cf468 l J D ty sb va (if n = 0 then ml else 1) 0 f 100 (by decide) (by omega)) (cwV 1 hts gX3_write_J4_append_cf468 rfl rfl rfl ⟨rfl, hdN_J4_append_cf468⟩ ⟨Nat.le_of_ble_eq_true rfl, Nat.le_of_ble_eq_true rfl⟩) [1, 2, 0] (nB := 3) (by decide) rfl rfl rfl rfl 1 rfl rfl (ci := 1) rfl rfl rfl hl.1 rfl (Nat.le_of_ble_eq_true rfl) dX3_write_26 ⟨(Nat.zero_le _), (Nat.zero_le _)⟩ (fun H locs w => ?_)
  refine lv_aload_n hx hb dX3_write_29 rfl (lv_at hl 1 rfl) ?_
  refine r_get (v' := .ref (a 22)) hx hb hts in_X3_write_X3 hown w 0 0 rfl rfl (ci := 7) rfl 3 (by decide) (hts _ (List.mem_of_getElem? (i := 3) rfl)) rfl rfl rfl dX3_write_30 ?_
  refine lv_iload_n hx hb dX3_write_33 rfl (lv_at hl 0 rfl) ?_
  refine r_iald (v := (M (22 + r))) hx hb w 0 2 rfl rfl 0 rfl r (by omega) (Nat.le_of_ble_eq_true rfl) rfl (miA_at (by omega)) dX3_write_34 ?_
  refine r_eq (y := (nI dd)) hd0 ?_
  refine j_rV (As := [.int (nI dd)]) (rest := []) (Rs := [miB ty a M]) (Bs' := [miB ty a M, soB sb va (if n = 0 then ml else 1) ((0 + 1) + (dgE 9 dd + 1)), baB ty va (putL (putL f 0 [nI 100]) (0 + 1) (dig dd))]) ⟨hx, hb, hml, hown, hts⟩ hj w (c_J4_append_bf812 l J D ty sb va (if n = 0 then ml else 1) (0 + 1) (putL f 0 [nI 100]) dd hd (by omega)) (cwV 1 hts gX3_write_J4_append_bf812 rfl rfl rfl ⟨rfl, hdN_J4_append_bf812⟩ ⟨Nat.le_of_ble_eq_true rfl, Nat.le_of_ble_eq_true rfl⟩) [1, 2, 0] (nB := 3) (by decide) rfl rfl rfl rfl 1 rfl rfl (ci := 1) rfl rfl rfl hl.1 rfl (Nat.le_of_ble_eq_true rfl) dX3_write_35 ⟨(Nat.zero_le _), (Nat.zero_le _)⟩ (fun H locs w => ?_)
  refine lv_bipush (v := 32) hx hb dX3_write_38 (by decide) ?_
  refine j_rV (As := [.int 32]) (rest := []) (Rs := [miB ty a M]) (Bs' := [miB ty a M, soB sb va (if n = 0 then ml else 1) (((0 + 1) + (dgE 9 dd + 1)) + 1), baB ty va (putL (putL (putL f 0 [nI 100]) (0 + 1) (dig dd)) ((0 + 1) + (dgE 9 dd + 1)) [nI 32])]) ⟨hx, hb, hml, hown, hts⟩ hj w (c_J4_append_cf468 l J D ty sb va (if n = 0 then ml else 1) ((0 + 1) + (dgE 9 dd + 1)) (putL (putL f 0 [nI 100]) (0 + 1) (dig dd)) 32 (by decide) (by omega)) (cwV 1 hts gX3_write_J4_append_cf468 rfl rfl rfl ⟨rfl, hdN_J4_append_cf468⟩ ⟨Nat.le_of_ble_eq_true rfl, Nat.le_of_ble_eq_true rfl⟩) [1, 2, 0] (nB := 3) (by decide) rfl rfl rfl rfl 1 rfl rfl (ci := 1) rfl rfl rfl hl.1 rfl (Nat.le_of_ble_eq_true rfl) dX3_write_40 ⟨(Nat.zero_le _), (Nat.zero_le _)⟩ (fun H locs w => ?_)
  refine lv_pop hx hb dX3_write_43 rfl ?_
  refine lv_aload_n hx hb dX3_write_44 rfl (lv_at hl 1 rfl) ?_
  refine r_get (v' := .ref (a 21)) hx hb hts in_X3_write_X3 hown w 0 0 rfl rfl (ci := 7) rfl 2 (by decide) (hts _ (List.mem_of_getElem? (i := 4) rfl)) rfl rfl rfl dX3_write_45 ?_
  refine lv_iload_n hx hb dX3_write_48 rfl (lv_at hl 0 rfl) ?_
  refine r_iald (v := (M (2 + r))) hx hb w 0 1 rfl rfl 0 rfl r (by omega) (Nat.le_of_ble_eq_true rfl) rfl (miA_at (by omega)) dX3_write_49 ?_
  refine r_eq (y := (nI kd)) hk0 ?_
  rcases (show kd = 0 ∨ kd = 1 ∨ kd = 2 ∨ kd = 3 by omega) with rfl | rfl | rfl | rfl
  · refine r_eq (y := 0) rfl ?_
    refine lv_tableIn (tgt := 76) hx hb dX3_write_50 (by decide) (by decide) rfl (by decide) ?_
    refine lv_aload_n hx hb dX3_write_76 rfl (lv_at hl 3 rfl) ?_
    refine lv_bipush (v := 104) hx hb dX3_write_77 (by decide) ?_
    refine j_rV (As := [.int 104]) (rest := []) (Rs := [miB ty a M]) (Bs' := [miB ty a M, soB sb va (if n = 0 then ml else 1) ((((0 + 1) + (dgE 9 dd + 1)) + 1) + 1), baB ty va (putL (putL (putL (putL f 0 [nI 100]) (0 + 1) (dig dd)) ((0 + 1) + (dgE 9 dd + 1)) [nI 32]) (((0 + 1) + (dgE 9 dd + 1)) + 1) [nI 104])]) ⟨hx, hb, hml, hown, hts⟩ hj w (c_J4_append_cf468 l J D ty sb va (if n = 0 then ml else 1) (((0 + 1) + (dgE 9 dd + 1)) + 1) (putL (putL (putL f 0 [nI 100]) (0 + 1) (dig dd)) ((0 + 1) + (dgE 9 dd + 1)) [nI 32]) 104 (by decide) (by omega)) (cwV 1 hts gX3_write_J4_append_cf468 rfl rfl rfl ⟨rfl, hdN_J4_append_cf468⟩ ⟨Nat.le_of_ble_eq_true rfl, Nat.le_of_ble_eq_true rfl⟩) [1, 2, 0] (nB := 3) (by decide) rfl rfl rfl rfl 1 rfl rfl (ci := 1) rfl rfl rfl hl.1 rfl (Nat.le_of_ble_eq_true rfl) dX3_write_79 ⟨(Nat.zero_le _), (Nat.zero_le _)⟩ (fun H locs w => ?_)
    refine lv_aload_n hx hb dX3_write_82 rfl (lv_at hl 1 rfl) ?_
    refine r_get (v' := .ref (a 23)) hx hb hts in_X3_write_X3 hown w 0 0 rfl rfl (ci := 7) rfl 4 (by decide) (hts _ (List.mem_of_getElem? (i := 5) rfl)) rfl rfl rfl dX3_write_83 ?_
    refine lv_iload_n hx hb dX3_write_86 rfl (lv_at hl 0 rfl) ?_
    refine r_iald (v := (M (42 + r))) hx hb w 0 3 rfl rfl 0 rfl r (by omega) (Nat.le_of_ble_eq_true rfl) rfl (miA_at (by omega)) dX3_write_87 ?_
    refine r_eq (y := (nI da)) ha0 ?_
    refine j_rV (As := [.int (nI da)]) (rest := []) (Rs := [miB ty a M]) (Bs' := [miB ty a M, soB sb va (if n = 0 then ml else 1) (((((0 + 1) + (dgE 9 dd + 1)) + 1) + 1) + (dgE 9 da + 1)), baB ty va (putL (putL (putL (putL (putL f 0 [nI 100]) (0 + 1) (dig dd)) ((0 + 1) + (dgE 9 dd + 1)) [nI 32]) (((0 + 1) + (dgE 9 dd + 1)) + 1) [nI 104]) ((((0 + 1) + (dgE 9 dd + 1)) + 1) + 1) (dig da))]) ⟨hx, hb, hml, hown, hts⟩ hj w (c_J4_append_bf812 l J D ty sb va (if n = 0 then ml else 1) ((((0 + 1) + (dgE 9 dd + 1)) + 1) + 1) (putL (putL (putL (putL f 0 [nI 100]) (0 + 1) (dig dd)) ((0 + 1) + (dgE 9 dd + 1)) [nI 32]) (((0 + 1) + (dgE 9 dd + 1)) + 1) [nI 104]) da (by omega) (by omega)) (cwV 1 hts gX3_write_J4_append_bf812 rfl rfl rfl ⟨rfl, hdN_J4_append_bf812⟩ ⟨Nat.le_of_ble_eq_true rfl, Nat.le_of_ble_eq_true rfl⟩) [1, 2, 0] (nB := 3) (by decide) rfl rfl rfl rfl 1 rfl rfl (ci := 1) rfl rfl rfl hl.1 rfl (Nat.le_of_ble_eq_true rfl) dX3_write_88 ⟨(Nat.zero_le _), (Nat.zero_le _)⟩ (fun H locs w => ?_)
    refine lv_bipush (v := 98) hx hb dX3_write_91 (by decide) ?_
    refine j_rV (As := [.int 98]) (rest := []) (Rs := [miB ty a M]) (Bs' := [miB ty a M, soB sb va (if n = 0 then ml else 1) ((((((0 + 1) + (dgE 9 dd + 1)) + 1) + 1) + (dgE 9 da + 1)) + 1), baB ty va (putL (putL (putL (putL (putL (putL f 0 [nI 100]) (0 + 1) (dig dd)) ((0 + 1) + (dgE 9 dd + 1)) [nI 32]) (((0 + 1) + (dgE 9 dd + 1)) + 1) [nI 104]) ((((0 + 1) + (dgE 9 dd + 1)) + 1) + 1) (dig da)) (((((0 + 1) + (dgE 9 dd + 1)) + 1) + 1) + (dgE 9 da + 1)) [nI 98])]) ⟨hx, hb, hml, hown, hts⟩ hj w (c_J4_append_cf468 l J D ty sb va (if n = 0 then ml else 1) (((((0 + 1) + (dgE 9 dd + 1)) + 1) + 1) + (dgE 9 da + 1)) (putL (putL (putL (putL (putL f 0 [nI 100]) (0 + 1) (dig dd)) ((0 + 1) + (dgE 9 dd + 1)) [nI 32]) (((0 + 1) + (dgE 9 dd + 1)) + 1) [nI 104]) ((((0 + 1) + (dgE 9 dd + 1)) + 1) + 1) (dig da)) 98 (by decide) (by omega)) (cwV 1 hts gX3_write_J4_append_cf468 rfl rfl rfl ⟨rfl, hdN_J4_append_cf468⟩ ⟨Nat.le_of_ble_eq_true rfl, Nat.le_of_ble_eq_true rfl⟩) [1, 2, 0] (nB := 3) (by decide) rfl rfl rfl rfl 1 rfl rfl (ci := 1) rfl rfl rfl hl.1 rfl (Nat.le_of_ble_eq_true rfl) dX3_write_93 ⟨(Nat.zero_le _), (Nat.zero_le _)⟩ (fun H locs w => ?_)
    refine lv_aload_n hx hb dX3_write_96 rfl (lv_at hl 1 rfl) ?_
    refine r_get (v' := .ref (a 24)) hx hb hts in_X3_write_X3 hown w 0 0 rfl rfl (ci := 7) rfl 5 (by decide) (hts _ (List.mem_of_getElem? (i := 6) rfl)) rfl rfl rfl dX3_write_97 ?_
    refine lv_iload_n hx hb dX3_write_100 rfl (lv_at hl 0 rfl) ?_
    refine r_iald (v := (M (62 + r))) hx hb w 0 4 rfl rfl 0 rfl r (by omega) (Nat.le_of_ble_eq_true rfl) rfl (miA_at (by omega)) dX3_write_101 ?_
    refine r_eq (y := (nI db)) hb0 ?_
    refine j_rV (As := [.int (nI db)]) (rest := []) (Rs := [miB ty a M]) (Bs' := [miB ty a M, soB sb va (if n = 0 then ml else 1) (((((((0 + 1) + (dgE 9 dd + 1)) + 1) + 1) + (dgE 9 da + 1)) + 1) + (dgE 9 db + 1)), baB ty va (putL (putL (putL (putL (putL (putL (putL f 0 [nI 100]) (0 + 1) (dig dd)) ((0 + 1) + (dgE 9 dd + 1)) [nI 32]) (((0 + 1) + (dgE 9 dd + 1)) + 1) [nI 104]) ((((0 + 1) + (dgE 9 dd + 1)) + 1) + 1) (dig da)) (((((0 + 1) + (dgE 9 dd + 1)) + 1) + 1) + (dgE 9 da + 1)) [nI 98]) ((((((0 + 1) + (dgE 9 dd + 1)) + 1) + 1) + (dgE 9 da + 1)) + 1) (dig db))]) ⟨hx, hb, hml, hown, hts⟩ hj w (c_J4_append_bf812 l J D ty sb va (if n = 0 then ml else 1) ((((((0 + 1) + (dgE 9 dd + 1)) + 1) + 1) + (dgE 9 da + 1)) + 1) (putL (putL (putL (putL (putL (putL f 0 [nI 100]) (0 + 1) (dig dd)) ((0 + 1) + (dgE 9 dd + 1)) [nI 32]) (((0 + 1) + (dgE 9 dd + 1)) + 1) [nI 104]) ((((0 + 1) + (dgE 9 dd + 1)) + 1) + 1) (dig da)) (((((0 + 1) + (dgE 9 dd + 1)) + 1) + 1) + (dgE 9 da + 1)) [nI 98]) db (by omega) (by omega)) (cwV 1 hts gX3_write_J4_append_bf812 rfl rfl rfl ⟨rfl, hdN_J4_append_bf812⟩ ⟨Nat.le_of_ble_eq_true rfl, Nat.le_of_ble_eq_true rfl⟩) [1, 2, 0] (nB := 3) (by decide) rfl rfl rfl rfl 1 rfl rfl (ci := 1) rfl rfl rfl hl.1 rfl (Nat.le_of_ble_eq_true rfl) dX3_write_102 ⟨(Nat.zero_le _), (Nat.zero_le _)⟩ (fun H locs w => ?_)
    refine lv_pop hx hb dX3_write_105 rfl ?_
    refine lv_goto (tgt := 168) hx hb dX3_write_106 (by decide) ?_
    exact e_v hx hb hr hlocks (w.cast (by rw [wf_0, wn_01 (kd := 0) (da := da) (db := db) (dd := dd) (by omega)])) dX3_write_168 (Nat.le_refl _) (Nat.le_refl _)
  · refine r_eq (y := 1) rfl ?_
    refine lv_tableIn (tgt := 109) hx hb dX3_write_50 (by decide) (by decide) rfl (by decide) ?_
    refine lv_aload_n hx hb dX3_write_109 rfl (lv_at hl 3 rfl) ?_
    refine lv_bipush (v := 104) hx hb dX3_write_110 (by decide) ?_
    refine j_rV (As := [.int 104]) (rest := []) (Rs := [miB ty a M]) (Bs' := [miB ty a M, soB sb va (if n = 0 then ml else 1) ((((0 + 1) + (dgE 9 dd + 1)) + 1) + 1), baB ty va (putL (putL (putL (putL f 0 [nI 100]) (0 + 1) (dig dd)) ((0 + 1) + (dgE 9 dd + 1)) [nI 32]) (((0 + 1) + (dgE 9 dd + 1)) + 1) [nI 104])]) ⟨hx, hb, hml, hown, hts⟩ hj w (c_J4_append_cf468 l J D ty sb va (if n = 0 then ml else 1) (((0 + 1) + (dgE 9 dd + 1)) + 1) (putL (putL (putL f 0 [nI 100]) (0 + 1) (dig dd)) ((0 + 1) + (dgE 9 dd + 1)) [nI 32]) 104 (by decide) (by omega)) (cwV 1 hts gX3_write_J4_append_cf468 rfl rfl rfl ⟨rfl, hdN_J4_append_cf468⟩ ⟨Nat.le_of_ble_eq_true rfl, Nat.le_of_ble_eq_true rfl⟩) [1, 2, 0] (nB := 3) (by decide) rfl rfl rfl rfl 1 rfl rfl (ci := 1) rfl rfl rfl hl.1 rfl (Nat.le_of_ble_eq_true rfl) dX3_write_112 ⟨(Nat.zero_le _), (Nat.zero_le _)⟩ (fun H locs w => ?_)
    refine lv_aload_n hx hb dX3_write_115 rfl (lv_at hl 1 rfl) ?_
    refine r_get (v' := .ref (a 23)) hx hb hts in_X3_write_X3 hown w 0 0 rfl rfl (ci := 7) rfl 4 (by decide) (hts _ (List.mem_of_getElem? (i := 5) rfl)) rfl rfl rfl dX3_write_116 ?_
    refine lv_iload_n hx hb dX3_write_119 rfl (lv_at hl 0 rfl) ?_
    refine r_iald (v := (M (42 + r))) hx hb w 0 3 rfl rfl 0 rfl r (by omega) (Nat.le_of_ble_eq_true rfl) rfl (miA_at (by omega)) dX3_write_120 ?_
    refine r_eq (y := (nI da)) ha0 ?_
    refine j_rV (As := [.int (nI da)]) (rest := []) (Rs := [miB ty a M]) (Bs' := [miB ty a M, soB sb va (if n = 0 then ml else 1) (((((0 + 1) + (dgE 9 dd + 1)) + 1) + 1) + (dgE 9 da + 1)), baB ty va (putL (putL (putL (putL (putL f 0 [nI 100]) (0 + 1) (dig dd)) ((0 + 1) + (dgE 9 dd + 1)) [nI 32]) (((0 + 1) + (dgE 9 dd + 1)) + 1) [nI 104]) ((((0 + 1) + (dgE 9 dd + 1)) + 1) + 1) (dig da))]) ⟨hx, hb, hml, hown, hts⟩ hj w (c_J4_append_bf812 l J D ty sb va (if n = 0 then ml else 1) ((((0 + 1) + (dgE 9 dd + 1)) + 1) + 1) (putL (putL (putL (putL f 0 [nI 100]) (0 + 1) (dig dd)) ((0 + 1) + (dgE 9 dd + 1)) [nI 32]) (((0 + 1) + (dgE 9 dd + 1)) + 1) [nI 104]) da (by omega) (by omega)) (cwV 1 hts gX3_write_J4_append_bf812 rfl rfl rfl ⟨rfl, hdN_J4_append_bf812⟩ ⟨Nat.le_of_ble_eq_true rfl, Nat.le_of_ble_eq_true rfl⟩) [1, 2, 0] (nB := 3) (by decide) rfl rfl rfl rfl 1 rfl rfl (ci := 1) rfl rfl rfl hl.1 rfl (Nat.le_of_ble_eq_true rfl) dX3_write_121 ⟨(Nat.zero_le _), (Nat.zero_le _)⟩ (fun H locs w => ?_)
    refine lv_bipush (v := 120) hx hb dX3_write_124 (by decide) ?_
    refine j_rV (As := [.int 120]) (rest := []) (Rs := [miB ty a M]) (Bs' := [miB ty a M, soB sb va (if n = 0 then ml else 1) ((((((0 + 1) + (dgE 9 dd + 1)) + 1) + 1) + (dgE 9 da + 1)) + 1), baB ty va (putL (putL (putL (putL (putL (putL f 0 [nI 100]) (0 + 1) (dig dd)) ((0 + 1) + (dgE 9 dd + 1)) [nI 32]) (((0 + 1) + (dgE 9 dd + 1)) + 1) [nI 104]) ((((0 + 1) + (dgE 9 dd + 1)) + 1) + 1) (dig da)) (((((0 + 1) + (dgE 9 dd + 1)) + 1) + 1) + (dgE 9 da + 1)) [nI 120])]) ⟨hx, hb, hml, hown, hts⟩ hj w (c_J4_append_cf468 l J D ty sb va (if n = 0 then ml else 1) (((((0 + 1) + (dgE 9 dd + 1)) + 1) + 1) + (dgE 9 da + 1)) (putL (putL (putL (putL (putL f 0 [nI 100]) (0 + 1) (dig dd)) ((0 + 1) + (dgE 9 dd + 1)) [nI 32]) (((0 + 1) + (dgE 9 dd + 1)) + 1) [nI 104]) ((((0 + 1) + (dgE 9 dd + 1)) + 1) + 1) (dig da)) 120 (by decide) (by omega)) (cwV 1 hts gX3_write_J4_append_cf468 rfl rfl rfl ⟨rfl, hdN_J4_append_cf468⟩ ⟨Nat.le_of_ble_eq_true rfl, Nat.le_of_ble_eq_true rfl⟩) [1, 2, 0] (nB := 3) (by decide) rfl rfl rfl rfl 1 rfl rfl (ci := 1) rfl rfl rfl hl.1 rfl (Nat.le_of_ble_eq_true rfl) dX3_write_126 ⟨(Nat.zero_le _), (Nat.zero_le _)⟩ (fun H locs w => ?_)
    refine lv_aload_n hx hb dX3_write_129 rfl (lv_at hl 1 rfl) ?_
    refine r_get (v' := .ref (a 24)) hx hb hts in_X3_write_X3 hown w 0 0 rfl rfl (ci := 7) rfl 5 (by decide) (hts _ (List.mem_of_getElem? (i := 6) rfl)) rfl rfl rfl dX3_write_130 ?_
    refine lv_iload_n hx hb dX3_write_133 rfl (lv_at hl 0 rfl) ?_
    refine r_iald (v := (M (62 + r))) hx hb w 0 4 rfl rfl 0 rfl r (by omega) (Nat.le_of_ble_eq_true rfl) rfl (miA_at (by omega)) dX3_write_134 ?_
    refine r_eq (y := (nI db)) hb0 ?_
    refine j_rV (As := [.int (nI db)]) (rest := []) (Rs := [miB ty a M]) (Bs' := [miB ty a M, soB sb va (if n = 0 then ml else 1) (((((((0 + 1) + (dgE 9 dd + 1)) + 1) + 1) + (dgE 9 da + 1)) + 1) + (dgE 9 db + 1)), baB ty va (putL (putL (putL (putL (putL (putL (putL f 0 [nI 100]) (0 + 1) (dig dd)) ((0 + 1) + (dgE 9 dd + 1)) [nI 32]) (((0 + 1) + (dgE 9 dd + 1)) + 1) [nI 104]) ((((0 + 1) + (dgE 9 dd + 1)) + 1) + 1) (dig da)) (((((0 + 1) + (dgE 9 dd + 1)) + 1) + 1) + (dgE 9 da + 1)) [nI 120]) ((((((0 + 1) + (dgE 9 dd + 1)) + 1) + 1) + (dgE 9 da + 1)) + 1) (dig db))]) ⟨hx, hb, hml, hown, hts⟩ hj w (c_J4_append_bf812 l J D ty sb va (if n = 0 then ml else 1) ((((((0 + 1) + (dgE 9 dd + 1)) + 1) + 1) + (dgE 9 da + 1)) + 1) (putL (putL (putL (putL (putL (putL f 0 [nI 100]) (0 + 1) (dig dd)) ((0 + 1) + (dgE 9 dd + 1)) [nI 32]) (((0 + 1) + (dgE 9 dd + 1)) + 1) [nI 104]) ((((0 + 1) + (dgE 9 dd + 1)) + 1) + 1) (dig da)) (((((0 + 1) + (dgE 9 dd + 1)) + 1) + 1) + (dgE 9 da + 1)) [nI 120]) db (by omega) (by omega)) (cwV 1 hts gX3_write_J4_append_bf812 rfl rfl rfl ⟨rfl, hdN_J4_append_bf812⟩ ⟨Nat.le_of_ble_eq_true rfl, Nat.le_of_ble_eq_true rfl⟩) [1, 2, 0] (nB := 3) (by decide) rfl rfl rfl rfl 1 rfl rfl (ci := 1) rfl rfl rfl hl.1 rfl (Nat.le_of_ble_eq_true rfl) dX3_write_135 ⟨(Nat.zero_le _), (Nat.zero_le _)⟩ (fun H locs w => ?_)
    refine lv_pop hx hb dX3_write_138 rfl ?_
    refine lv_goto (tgt := 168) hx hb dX3_write_139 (by decide) ?_
    exact e_v hx hb hr hlocks (w.cast (by rw [wf_1, wn_01 (kd := 1) (da := da) (db := db) (dd := dd) (by omega)])) dX3_write_168 (Nat.le_refl _) (Nat.le_refl _)
  · refine r_eq (y := 2) rfl ?_
    refine lv_tableIn (tgt := 142) hx hb dX3_write_50 (by decide) (by decide) rfl (by decide) ?_
    refine lv_aload_n hx hb dX3_write_142 rfl (lv_at hl 3 rfl) ?_
    refine va_ldcS hx hb hown hj.2.2.2.2.1.1 dX3_write_143 ?_
    refine j_rV (As := [.ref (J (2 + 0))]) (rest := []) (Rs := [miB ty a M]) (Bs' := [miB ty a M, soB sb va (if n = 0 then ml else 1) ((((0 + 1) + (dgE 9 dd + 1)) + 1) + jLen.getD 0 0), baB ty va (putL (putL (putL (putL f 0 [nI 100]) (0 + 1) (dig dd)) ((0 + 1) + (dgE 9 dd + 1)) [nI 32]) (((0 + 1) + (dgE 9 dd + 1)) + 1) (jByt.getD 0 []))]) ⟨hx, hb, hml, hown, hts⟩ hj w (c_J4_append_15ec4 l J D ty sb va (if n = 0 then ml else 1) (((0 + 1) + (dgE 9 dd + 1)) + 1) (putL (putL (putL f 0 [nI 100]) (0 + 1) (dig dd)) ((0 + 1) + (dgE 9 dd + 1)) [nI 32]) 0 (by decide) (by omega)) (cwV 1 hts gX3_write_J4_append_15ec4 rfl rfl rfl ⟨rfl, hdN_J4_append_15ec4⟩ ⟨Nat.le_of_ble_eq_true rfl, Nat.le_of_ble_eq_true rfl⟩) [1, 2, 0] (nB := 3) (by decide) rfl rfl rfl rfl 1 rfl rfl (ci := 1) rfl rfl rfl hl.1 rfl (Nat.le_of_ble_eq_true rfl) dX3_write_145 ⟨(Nat.zero_le _), (Nat.zero_le _)⟩ (fun H locs w => ?_)
    refine lv_aload_n hx hb dX3_write_148 rfl (lv_at hl 1 rfl) ?_
    refine r_get (v' := .ref (a 23)) hx hb hts in_X3_write_X3 hown w 0 0 rfl rfl (ci := 7) rfl 4 (by decide) (hts _ (List.mem_of_getElem? (i := 5) rfl)) rfl rfl rfl dX3_write_149 ?_
    refine lv_iload_n hx hb dX3_write_152 rfl (lv_at hl 0 rfl) ?_
    refine r_iald (v := (M (42 + r))) hx hb w 0 3 rfl rfl 0 rfl r (by omega) (Nat.le_of_ble_eq_true rfl) rfl (miA_at (by omega)) dX3_write_153 ?_
    refine r_eq (y := (nI da)) ha0 ?_
    refine j_rV (As := [.int (nI da)]) (rest := []) (Rs := [miB ty a M]) (Bs' := [miB ty a M, soB sb va (if n = 0 then ml else 1) (((((0 + 1) + (dgE 9 dd + 1)) + 1) + jLen.getD 0 0) + (dgE 9 da + 1)), baB ty va (putL (putL (putL (putL (putL f 0 [nI 100]) (0 + 1) (dig dd)) ((0 + 1) + (dgE 9 dd + 1)) [nI 32]) (((0 + 1) + (dgE 9 dd + 1)) + 1) (jByt.getD 0 [])) ((((0 + 1) + (dgE 9 dd + 1)) + 1) + jLen.getD 0 0) (dig da))]) ⟨hx, hb, hml, hown, hts⟩ hj w (c_J4_append_bf812 l J D ty sb va (if n = 0 then ml else 1) ((((0 + 1) + (dgE 9 dd + 1)) + 1) + jLen.getD 0 0) (putL (putL (putL (putL f 0 [nI 100]) (0 + 1) (dig dd)) ((0 + 1) + (dgE 9 dd + 1)) [nI 32]) (((0 + 1) + (dgE 9 dd + 1)) + 1) (jByt.getD 0 [])) da (by omega) (by omega)) (cwV 1 hts gX3_write_J4_append_bf812 rfl rfl rfl ⟨rfl, hdN_J4_append_bf812⟩ ⟨Nat.le_of_ble_eq_true rfl, Nat.le_of_ble_eq_true rfl⟩) [1, 2, 0] (nB := 3) (by decide) rfl rfl rfl rfl 1 rfl rfl (ci := 1) rfl rfl rfl hl.1 rfl (Nat.le_of_ble_eq_true rfl) dX3_write_154 ⟨(Nat.zero_le _), (Nat.zero_le _)⟩ (fun H locs w => ?_)
    refine lv_pop hx hb dX3_write_157 rfl ?_
    refine lv_goto (tgt := 168) hx hb dX3_write_158 (by decide) ?_
    exact e_v hx hb hr hlocks (w.cast (by rw [wf_2 (db := db), wn_2 (db := db)])) dX3_write_168 (Nat.le_refl _) (Nat.le_refl _)
  · refine r_eq (y := 3) rfl ?_
    refine lv_tableOut (tgt := 161) hx hb dX3_write_50 (by decide) (by decide) ?_
    refine lv_aload_n hx hb dX3_write_161 rfl (lv_at hl 3 rfl) ?_
    refine va_ldcS hx hb hown hj.2.2.2.2.1.2 dX3_write_162 ?_
    refine j_rV (As := [.ref (J (2 + 1))]) (rest := []) (Rs := [miB ty a M]) (Bs' := [miB ty a M, soB sb va (if n = 0 then ml else 1) ((((0 + 1) + (dgE 9 dd + 1)) + 1) + jLen.getD 1 0), baB ty va (putL (putL (putL (putL f 0 [nI 100]) (0 + 1) (dig dd)) ((0 + 1) + (dgE 9 dd + 1)) [nI 32]) (((0 + 1) + (dgE 9 dd + 1)) + 1) (jByt.getD 1 []))]) ⟨hx, hb, hml, hown, hts⟩ hj w (c_J4_append_15ec4 l J D ty sb va (if n = 0 then ml else 1) (((0 + 1) + (dgE 9 dd + 1)) + 1) (putL (putL (putL f 0 [nI 100]) (0 + 1) (dig dd)) ((0 + 1) + (dgE 9 dd + 1)) [nI 32]) 1 (by decide) (by omega)) (cwV 1 hts gX3_write_J4_append_15ec4 rfl rfl rfl ⟨rfl, hdN_J4_append_15ec4⟩ ⟨Nat.le_of_ble_eq_true rfl, Nat.le_of_ble_eq_true rfl⟩) [1, 2, 0] (nB := 3) (by decide) rfl rfl rfl rfl 1 rfl rfl (ci := 1) rfl rfl rfl hl.1 rfl (Nat.le_of_ble_eq_true rfl) dX3_write_164 ⟨(Nat.zero_le _), (Nat.zero_le _)⟩ (fun H locs w => ?_)
    refine lv_pop hx hb dX3_write_167 rfl ?_
    exact e_v hx hb hr hlocks (w.cast (by rw [wf_3 (da := da) (db := db), wn_3 (da := da) (db := db)])) dX3_write_168 (Nat.le_refl _) (Nat.le_refl _)
