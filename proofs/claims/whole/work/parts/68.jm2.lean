theorem in_J5_append_c97b9_J4 : ∀ w ∈ wsJ40, w ∈ wsJ5_append_c97b9 := by decide +kernel
theorem hdN_J5_append_c97b9 : yJ5_append_c97b9.cls ≠ "java/lang/invoke/MethodHandle" ∧ yJ5_append_c97b9.cls ≠ "java/lang/invoke/VarHandle" ∧ (parseMethodDescriptor yJ5_append_c97b9.desc).map (fun d => d.parameters.length) = some 1 := by decide +kernel
theorem hdS_J5_append_c97b9 : yJ5_append_c97b9.name ≠ "<init>" ∧ (parseMethodDescriptor yJ5_append_c97b9.desc).map (fun d => d.parameters.length) = some 1 := by decide +kernel
set_option maxRecDepth 100000 in
set_option maxHeartbeats 4000000 in
theorem c_J5_append_c97b9 (l : Launch) (J : Nat → Nat) (D : va_G) (ty : Nat → ClassId) (sb va : Nat) (ml : Int32) (n : Nat) (f : pS) (v : Nat) (hv : v < 10 ^ 7) (hn : n + (dgE 9 v + 1) ≤ 16) : Jr J l yJ5_append_c97b9 wsJ5_append_c97b9 (kR 1 26 0 0) D (kTY ty) [.ref sb, .int (nI v)] [soB sb va ml n, baB ty va f] [soB sb va ml (n + (dgE 9 v + 1)), baB ty va (putL f n (dig v))] sb 0 0 := by
  refine m_jr (cc := cJ5_append_c97b9) (maxL := 4) (ret := (some (.object "java/lang/AbstractStringBuilder"))) (by decide +kernel) rfl (Nat.le_of_ble_eq_true rfl) ?_
  intro p e s m below meth c A ls hx hb hml hr hlocks hown hts hj w hl
  have hown : s.vm.findClass RJ5 = some m.cls := hown
  have hl : lv_has ls 4 [(0, .ref sb), (1, .int (nI v))] := hl
  refine lv_aload_n hx hb dJ5_append_c97b9_0 rfl (lv_at hl 0 rfl) ?_
  refine r_get (v' := .int (nI n)) hx hb hts in_J5_append_c97b9_J4 hown w 0 0 rfl rfl (ci := 1) rfl 3 (by decide) (hts _ (List.mem_of_getElem? (i := 1) rfl)) rfl rfl rfl dJ5_append_c97b9_1 ?_
  refine lv_istore_n (lv' := [(2, .int (nI n)), (0, .ref sb), (1, .int (nI v))]) hx hb dJ5_append_c97b9_4 rfl hl (by decide) rfl (fun ls hl => ?_)
  refine lv_iload_n hx hb dJ5_append_c97b9_5 rfl (lv_at hl 0 rfl) ?_
  refine lv_iload_n hx hb dJ5_append_c97b9_6 rfl (lv_at hl 2 rfl) ?_
  refine j_iS (As := [.int (nI v)]) (rest := [.int (nI n)]) (Rs := [soB sb va ml n, baB ty va f]) (Bs' := [soB sb va ml n, baB ty va f]) ⟨hx, hb, hml, hown, hts⟩ hj w (c_J6_stringSize_0f7a4 l J D ty v hv) (va_cwS 1 hts gJ5_append_c97b9_J6_stringSize_0f7a4 rfl rfl rfl hdN_J6_stringSize_0f7a4 ⟨Nat.le_of_ble_eq_true rfl, Nat.le_of_ble_eq_true rfl⟩) [0, 1] (nB := 2) (by decide) rfl rfl rfl rfl rfl hl.1 rfl (Nat.le_of_ble_eq_true rfl) dJ5_append_c97b9_7 ⟨(Nat.zero_le _), (Nat.zero_le _)⟩ (fun H locs w => ?_)
  refine lv_iadd hx hb dJ5_append_c97b9_10 ?_
  refine r_eq (y := (nI (n + (dgE 9 v + 1)))) (nI_add n (dgE 9 v + 1)) ?_
  refine lv_istore_n (lv' := [(3, .int (nI (n + (dgE 9 v + 1)))), (2, .int (nI n)), (0, .ref sb), (1, .int (nI v))]) hx hb dJ5_append_c97b9_11 rfl hl (by decide) rfl (fun ls hl => ?_)
  refine lv_aload_n hx hb dJ5_append_c97b9_12 rfl (lv_at hl 2 rfl) ?_
  refine lv_iload_n hx hb dJ5_append_c97b9_13 rfl (lv_at hl 0 rfl) ?_
  refine j_vU (As := [.int (nI (n + (dgE 9 v + 1)))]) (rest := []) (Rs := []) (Bs' := [soB sb va ml n, baB ty va f]) ⟨hx, hb, hml, hown, hts⟩ hj w (c_J5_ensureCapacityInternal_d00df l J D ty sb va ml n f (n + (dgE 9 v + 1)) (by omega)) (va_cwU 1 hts gJ5_append_c97b9_J5_ensureCapacityInternal_d00df_u100J4 rfl rfl rfl rfl hdN_J5_ensureCapacityInternal_d00df ⟨Nat.le_of_ble_eq_true rfl, Nat.le_of_ble_eq_true rfl⟩) [0, 1] (nB := 2) (by decide) rfl rfl rfl rfl 0 rfl rfl (ci := 1) rfl rfl rfl hl.1 rfl (Nat.le_of_ble_eq_true rfl) dJ5_append_c97b9_14 ⟨(Nat.zero_le _), (Nat.zero_le _)⟩ (fun H locs w => ?_)
  refine lv_aload_n hx hb dJ5_append_c97b9_17 rfl (lv_at hl 2 rfl) ?_
  refine j_iU (As := []) (rest := []) (Rs := [baB ty va f]) (Bs' := [soB sb va ml n, baB ty va f]) ⟨hx, hb, hml, hown, hts⟩ hj w (c_J5_isLatin1_aae02 l J D ty sb va ml n) (va_cwU 0 hts gJ5_append_c97b9_J5_isLatin1_aae02_u83J4 rfl rfl rfl rfl hdN_J5_isLatin1_aae02 ⟨Nat.le_of_ble_eq_true rfl, Nat.le_of_ble_eq_true rfl⟩) [0, 1] (nB := 2) (by decide) rfl rfl rfl rfl 0 rfl rfl (ci := 1) rfl rfl rfl hl.1 rfl (Nat.le_of_ble_eq_true rfl) dJ5_append_c97b9_18 ⟨(Nat.zero_le _), (Nat.zero_le _)⟩ (fun H locs w => ?_)
  refine lv_if_eq (tgt := 37) hx hb dJ5_append_c97b9_21 (by decide) (fun c21 => ?_) (fun c21 => ?_)
  · exact absurd c21 (by decide)
  · refine lv_iload_n hx hb dJ5_append_c97b9_24 rfl (lv_at hl 3 rfl) ?_
    refine lv_iload_n hx hb dJ5_append_c97b9_25 rfl (lv_at hl 0 rfl) ?_
    refine lv_aload_n hx hb dJ5_append_c97b9_26 rfl (lv_at hl 2 rfl) ?_
    refine r_get (v' := .ref va) hx hb hts in_J5_append_c97b9_J4 hown w 0 0 rfl rfl (ci := 1) rfl 0 (by decide) (hts _ (List.mem_of_getElem? (i := 2) rfl)) rfl rfl rfl dJ5_append_c97b9_27 ?_
    refine j_iS (As := [.int (nI v), .int (nI (n + (dgE 9 v + 1))), .ref va]) (rest := []) (Rs := [soB sb va ml n]) (Bs' := [soB sb va ml n, baB ty va (putL f n (dig v))]) ⟨hx, hb, hml, hown, hts⟩ hj w (c_J6_getChars_ba4f3 l J D ty v hv n va f hn) (va_cwS 3 hts gJ5_append_c97b9_J6_getChars_ba4f3 rfl rfl rfl hdN_J6_getChars_ba4f3 ⟨Nat.le_of_ble_eq_true rfl, Nat.le_of_ble_eq_true rfl⟩) [1, 0] (nB := 2) (by decide) rfl rfl rfl rfl rfl hl.1 rfl (Nat.le_of_ble_eq_true rfl) dJ5_append_c97b9_30 ⟨(Nat.zero_le _), (Nat.zero_le _)⟩ (fun H locs w => ?_)
    refine lv_pop hx hb dJ5_append_c97b9_33 rfl ?_
    refine lv_goto (tgt := 48) hx hb dJ5_append_c97b9_34 (by decide) ?_
    refine lv_aload_n hx hb dJ5_append_c97b9_48 rfl (lv_at hl 2 rfl) ?_
    refine lv_iload_n hx hb dJ5_append_c97b9_49 rfl (lv_at hl 0 rfl) ?_
    refine r_put hx hb hts in_J5_append_c97b9_J4 tyJ4 tyJ4_ok nmJ4 hown w 0 0 rfl rfl (ci := 1) rfl 3 (by decide) (hts _ (List.mem_of_getElem? (i := 1) rfl)) rfl rfl (ty := .int) (by decide +kernel) rfl rfl (Nat.le_of_ble_eq_true rfl) (soB sb va ml (n + (dgE 9 v + 1))) rfl [soB sb va ml (n + (dgE 9 v + 1)), baB ty va (putL f n (dig v))] rfl dJ5_append_c97b9_50 (fun H locs w => ?_)
    refine lv_aload_n hx hb dJ5_append_c97b9_53 rfl (lv_at hl 2 rfl) ?_
    exact e_r hx hb hr hlocks w dJ5_append_c97b9_54 (Nat.le_refl _) (Nat.le_refl _)

theorem hdN_J4_append_bf812 : yJ4_append_bf812.cls ≠ "java/lang/invoke/MethodHandle" ∧ yJ4_append_bf812.cls ≠ "java/lang/invoke/VarHandle" ∧ (parseMethodDescriptor yJ4_append_bf812.desc).map (fun d => d.parameters.length) = some 1 := by decide +kernel
theorem hdS_J4_append_bf812 : yJ4_append_bf812.name ≠ "<init>" ∧ (parseMethodDescriptor yJ4_append_bf812.desc).map (fun d => d.parameters.length) = some 1 := by decide +kernel
set_option maxRecDepth 100000 in
set_option maxHeartbeats 4000000 in
theorem c_J4_append_bf812 (l : Launch) (J : Nat → Nat) (D : va_G) (ty : Nat → ClassId) (sb va : Nat) (ml : Int32) (n : Nat) (f : pS) (v : Nat) (hv : v < 10 ^ 7) (hn : n + (dgE 9 v + 1) ≤ 16) : Jr J l yJ4_append_bf812 wsJ4_append_bf812 (kR 2 49 0 0) D (kTY ty) [.ref sb, .int (nI v)] [soB sb va ml n, baB ty va f] [soB sb va ml (n + (dgE 9 v + 1)), baB ty va (putL f n (dig v))] sb 0 0 := by
  refine m_jr (cc := cJ4_append_bf812) (maxL := 2) (ret := (some (.object "java/lang/StringBuilder"))) (by decide +kernel) rfl (Nat.le_of_ble_eq_true rfl) ?_
  intro p e s m below meth c A ls hx hb hml hr hlocks hown hts hj w hl
  have hown : s.vm.findClass RJ4 = some m.cls := hown
  have hl : lv_has ls 2 [(0, .ref sb), (1, .int (nI v))] := hl
  refine lv_aload_n hx hb dJ4_append_bf812_0 rfl (lv_at hl 0 rfl) ?_
  refine lv_iload_n hx hb dJ4_append_bf812_1 rfl (lv_at hl 1 rfl) ?_
  refine j_rSU (As := [.int (nI v)]) (rest := []) (Rs := []) (Bs' := [soB sb va ml (n + (dgE 9 v + 1)), baB ty va (putL f n (dig v))]) ⟨hx, hb, hml, hown, hts⟩ hj w (c_J5_append_c97b9 l J D ty sb va ml n f v hv hn) (va_cwSU 1 hts gJ4_append_bf812_J5_append_c97b9_s53 rfl rfl rfl hdS_J5_append_c97b9 ⟨Nat.le_of_ble_eq_true rfl, Nat.le_of_ble_eq_true rfl⟩) [0, 1] (nB := 2) (by decide) rfl rfl rfl rfl 0 rfl rfl (ci := 1) rfl rfl rfl hl.1 rfl (Nat.le_of_ble_eq_true rfl) dJ4_append_bf812_2 ⟨(Nat.zero_le _), (Nat.zero_le _)⟩ (fun H locs w => ?_)
  refine lv_pop hx hb dJ4_append_bf812_5 rfl ?_
  refine lv_aload_n hx hb dJ4_append_bf812_6 rfl (lv_at hl 0 rfl) ?_
  exact e_r hx hb hr hlocks w dJ4_append_bf812_7 (Nat.le_refl _) (Nat.le_refl _)

theorem hdN_J0_coder_7d493 : yJ0_coder_7d493.cls ≠ "java/lang/invoke/MethodHandle" ∧ yJ0_coder_7d493.cls ≠ "java/lang/invoke/VarHandle" ∧ (parseMethodDescriptor yJ0_coder_7d493.desc).map (fun d => d.parameters.length) = some 0 := by decide +kernel
theorem hdS_J0_coder_7d493 : yJ0_coder_7d493.name ≠ "<init>" ∧ (parseMethodDescriptor yJ0_coder_7d493.desc).map (fun d => d.parameters.length) = some 0 := by decide +kernel
set_option maxRecDepth 100000 in
set_option maxHeartbeats 4000000 in
theorem c_J0_coder_7d493 (l : Launch) (J : Nat → Nat) (D : va_G) (ty : Nat → ClassId) (i : Nat) (hi : i < 2) : Ji J l yJ0_coder_7d493 wsJ0_coder_7d493 (kR 0 0 0 0) D (kTY ty) [.ref (J (2 + i))] [] [] 0 0 0 := by
  refine m_ji (cc := cJ0_coder_7d493) (maxL := 1) (ret := (some .byte)) (by decide +kernel) rfl (Nat.le_of_ble_eq_true rfl) ?_
  intro p e s m below meth c A ls hx hb hml hr hlocks hown hts hj w hl
  have hown : s.vm.findClass RJ0 = some m.cls := hown
  have hl : lv_has ls 1 [(0, .ref (J (2 + i)))] := hl
  refine va_gets hx hb hj.1 w.2.2.2.1 hown (hts _ (List.mem_of_getElem? (i := 1) rfl)) (fun _ h => h) dJ0_coder_7d493_0 ?_
  refine lv_if_eq (tgt := 13) hx hb dJ0_coder_7d493_3 (by decide) (fun c3 => ?_) (fun c3 => ?_)
  · exact absurd c3 (by decide)
  · refine lv_aload_n hx hb dJ0_coder_7d493_6 rfl (lv_at hl 0 rfl) ?_
    refine vk_getf hx hb (hj.2.2.2.1.1 i hi).2.1 w.2.2.2.1 hown (hts _ (List.mem_of_getElem? (i := 2) rfl)) (fun _ h => h) dJ0_coder_7d493_7 ?_
    refine lv_goto (tgt := 14) hx hb dJ0_coder_7d493_10 (by decide) ?_
    exact e_z (ty := .byte) hx hb hr rfl hlocks w rfl dJ0_coder_7d493_14 (Nat.le_refl _) (Nat.le_refl _)

theorem hdN_J0_length_8abf5 : yJ0_length_8abf5.cls ≠ "java/lang/invoke/MethodHandle" ∧ yJ0_length_8abf5.cls ≠ "java/lang/invoke/VarHandle" ∧ (parseMethodDescriptor yJ0_length_8abf5.desc).map (fun d => d.parameters.length) = some 0 := by decide +kernel
theorem hdS_J0_length_8abf5 : yJ0_length_8abf5.name ≠ "<init>" ∧ (parseMethodDescriptor yJ0_length_8abf5.desc).map (fun d => d.parameters.length) = some 0 := by decide +kernel
set_option maxRecDepth 100000 in
set_option maxHeartbeats 4000000 in
theorem c_J0_length_8abf5 (l : Launch) (J : Nat → Nat) (D : va_G) (ty : Nat → ClassId) (i : Nat) (hi : i < 2) : Ji J l yJ0_length_8abf5 wsJ0_length_8abf5 (kR 1 20 0 0) D (kTY ty) [.ref (J (2 + i))] [] [] (nI (jLen.getD i 0)) 0 0 := by
  refine m_ji (cc := cJ0_length_8abf5) (maxL := 1) (ret := (some .int)) (by decide +kernel) rfl (Nat.le_of_ble_eq_true rfl) ?_
  intro p e s m below meth c A ls hx hb hml hr hlocks hown hts hj w hl
  have hown : s.vm.findClass RJ0 = some m.cls := hown
  have hl : lv_has ls 1 [(0, .ref (J (2 + i)))] := hl
  refine lv_aload_n hx hb dJ0_length_8abf5_0 rfl (lv_at hl 0 rfl) ?_
  refine vk_getf hx hb (hj.2.2.2.1.1 i hi).2.2.1 w.2.2.2.1 hown (hts _ (List.mem_of_getElem? (i := 1) rfl)) (fun _ h => h) dJ0_length_8abf5_1 ?_
  refine va_tlen (v := (nI (jLen.getD i 0))) hx hb (hj.2.2.2.1.1 i hi).2.2.2 w.2.2.2.1 rfl dJ0_length_8abf5_4 ?_
  refine lv_aload_n hx hb dJ0_length_8abf5_5 rfl (lv_at hl 0 rfl) ?_
  refine j_iVK (As := []) (rest := [.int (nI (jLen.getD i 0))]) (Rs := []) (Bs' := []) ⟨hx, hb, hml, hown, hts⟩ hj w (c_J0_coder_7d493 l J D ty i hi) (cwV 0 hts gJ0_length_8abf5_J0_coder_7d493 rfl rfl rfl ⟨rfl, hdN_J0_coder_7d493⟩ ⟨Nat.le_of_ble_eq_true rfl, Nat.le_of_ble_eq_true rfl⟩) [] (nB := 0) (by decide) rfl rfl rfl rfl (hj.2.2.2.1.1 i hi).1 rfl hl.1 rfl (Nat.le_of_ble_eq_true rfl) dJ0_length_8abf5_6 ⟨(Nat.zero_le _), (Nat.zero_le _)⟩ (fun H locs w => ?_)
  refine lv_ishr hx hb dJ0_length_8abf5_9 ?_
  refine r_eq (y := (nI (jLen.getD i 0))) (sb_shr0 _) ?_
  exact e_i hx hb hr hlocks w rfl dJ0_length_8abf5_10 (Nat.le_refl _) (Nat.le_refl _)

theorem in_J5_inflateIfNeededFor_a7421_J4 : ∀ w ∈ wsJ40, w ∈ wsJ5_inflateIfNeededFor_a7421 := by decide +kernel
theorem hdN_J5_inflateIfNeededFor_a7421 : yJ5_inflateIfNeededFor_a7421.cls ≠ "java/lang/invoke/MethodHandle" ∧ yJ5_inflateIfNeededFor_a7421.cls ≠ "java/lang/invoke/VarHandle" ∧ (parseMethodDescriptor yJ5_inflateIfNeededFor_a7421.desc).map (fun d => d.parameters.length) = some 1 := by decide +kernel
theorem hdS_J5_inflateIfNeededFor_a7421 : yJ5_inflateIfNeededFor_a7421.name ≠ "<init>" ∧ (parseMethodDescriptor yJ5_inflateIfNeededFor_a7421.desc).map (fun d => d.parameters.length) = some 1 := by decide +kernel
set_option maxRecDepth 100000 in
set_option maxHeartbeats 4000000 in
theorem c_J5_inflateIfNeededFor_a7421 (l : Launch) (J : Nat → Nat) (D : va_G) (ty : Nat → ClassId) (sb va : Nat) (ml : Int32) (n i : Nat) (hi : i < 2) : Jv J l yJ5_inflateIfNeededFor_a7421 wsJ5_inflateIfNeededFor_a7421 (kR 1 20 0 0) D (kTY ty) [.ref sb, .ref (J (2 + i))] [soB sb va ml n] [soB sb va ml n] 0 0 := by
  refine m_jv (cc := cJ5_inflateIfNeededFor_a7421) (maxL := 2) (ret := none) (by decide +kernel) rfl (Nat.le_of_ble_eq_true rfl) ?_
  intro p e s m below meth c A ls hx hb hml hr hlocks hown hts hj w hl
  have hown : s.vm.findClass RJ5 = some m.cls := hown
  have hl : lv_has ls 2 [(0, .ref sb), (1, .ref (J (2 + i)))] := hl
  refine va_gets hx hb hj.1 w.2.2.2.1 hown (hts _ (List.mem_of_getElem? (i := 1) rfl)) (fun _ h => h) dJ5_inflateIfNeededFor_a7421_0 ?_
  refine lv_if_eq (tgt := 21) hx hb dJ5_inflateIfNeededFor_a7421_3 (by decide) (fun c3 => ?_) (fun c3 => ?_)
  · exact absurd c3 (by decide)
  · refine lv_aload_n hx hb dJ5_inflateIfNeededFor_a7421_6 rfl (lv_at hl 0 rfl) ?_
    refine r_get (v' := .int 0) hx hb hts in_J5_inflateIfNeededFor_a7421_J4 hown w 0 0 rfl rfl (ci := 1) rfl 1 (by decide) (hts _ (List.mem_of_getElem? (i := 2) rfl)) rfl rfl rfl dJ5_inflateIfNeededFor_a7421_7 ?_
    refine lv_aload_n hx hb dJ5_inflateIfNeededFor_a7421_10 rfl (lv_at hl 1 rfl) ?_
    refine j_iVK (As := []) (rest := [.int 0]) (Rs := [soB sb va ml n]) (Bs' := [soB sb va ml n]) ⟨hx, hb, hml, hown, hts⟩ hj w (c_J0_coder_7d493 l J D ty i hi) (cwV 0 hts gJ5_inflateIfNeededFor_a7421_J0_coder_7d493 rfl rfl rfl ⟨rfl, hdN_J0_coder_7d493⟩ ⟨Nat.le_of_ble_eq_true rfl, Nat.le_of_ble_eq_true rfl⟩) [0] (nB := 1) (by decide) rfl rfl rfl rfl (hj.2.2.2.1.1 i hi).1 rfl hl.1 rfl (Nat.le_of_ble_eq_true rfl) dJ5_inflateIfNeededFor_a7421_11 ⟨(Nat.zero_le _), (Nat.zero_le _)⟩ (fun H locs w => ?_)
    refine lv_icmp_eq (tgt := 21) hx hb dJ5_inflateIfNeededFor_a7421_14 (by decide) (fun c14 => ?_) (fun c14 => ?_)
    · have c14 := (nI_eq (a := 0) (b := 0) (by omega) (by omega)).mp c14
      exact e_v hx hb hr hlocks w dJ5_inflateIfNeededFor_a7421_21 (Nat.le_refl _) (Nat.le_refl _)
    · have c14 := mt (nI_eq (a := 0) (b := 0) (by omega) (by omega)).mpr c14
      exact absurd rfl c14

theorem hdN_J0_getBytes_840e7 : yJ0_getBytes_840e7.cls ≠ "java/lang/invoke/MethodHandle" ∧ yJ0_getBytes_840e7.cls ≠ "java/lang/invoke/VarHandle" ∧ (parseMethodDescriptor yJ0_getBytes_840e7.desc).map (fun d => d.parameters.length) = some 3 := by decide +kernel
theorem hdS_J0_getBytes_840e7 : yJ0_getBytes_840e7.name ≠ "<init>" ∧ (parseMethodDescriptor yJ0_getBytes_840e7.desc).map (fun d => d.parameters.length) = some 3 := by decide +kernel
set_option maxRecDepth 100000 in
set_option maxHeartbeats 4000000 in
theorem c_J0_getBytes_840e7 (l : Launch) (J : Nat → Nat) (D : va_G) (ty : Nat → ClassId) (i : Nat) (hi : i < 2) (va n : Nat) (f : pS) (hn : n + jLen.getD i 0 ≤ 16) : Jv J l yJ0_getBytes_840e7 wsJ0_getBytes_840e7 (kR 1 20 0 0) D (kTY ty) [.ref (J (2 + i)), .ref va, .int (nI n), .int 0] [baB ty va f] [baB ty va (putL f n (jByt.getD i []))] 0 0 := by
  refine m_jv (cc := cJ0_getBytes_840e7) (maxL := 4) (ret := none) (by decide +kernel) rfl (Nat.le_of_ble_eq_true rfl) ?_
  intro p e s m below meth c A ls hx hb hml hr hlocks hown hts hj w hl
  have hown : s.vm.findClass RJ0 = some m.cls := hown
  have hl : lv_has ls 4 [(0, .ref (J (2 + i))), (1, .ref va), (2, .int (nI n)), (3, .int 0)] := hl
  refine lv_aload_n hx hb dJ0_getBytes_840e7_0 rfl (lv_at hl 0 rfl) ?_
  refine j_iVK (As := []) (rest := []) (Rs := [baB ty va f]) (Bs' := [baB ty va f]) ⟨hx, hb, hml, hown, hts⟩ hj w (c_J0_coder_7d493 l J D ty i hi) (cwV 0 hts gJ0_getBytes_840e7_J0_coder_7d493 rfl rfl rfl ⟨rfl, hdN_J0_coder_7d493⟩ ⟨Nat.le_of_ble_eq_true rfl, Nat.le_of_ble_eq_true rfl⟩) [0] (nB := 1) (by decide) rfl rfl rfl rfl (hj.2.2.2.1.1 i hi).1 rfl hl.1 rfl (Nat.le_of_ble_eq_true rfl) dJ0_getBytes_840e7_1 ⟨(Nat.zero_le _), (Nat.zero_le _)⟩ (fun H locs w => ?_)
  refine lv_iload_n hx hb dJ0_getBytes_840e7_4 rfl (lv_at hl 3 rfl) ?_
  refine lv_icmp_ne (tgt := 28) hx hb dJ0_getBytes_840e7_5 (by decide) (fun c5 => ?_) (fun c5 => ?_)
  · have c5 := mt (nI_eq (a := 0) (b := 0) (by omega) (by omega)).mpr c5
    exact absurd rfl c5
  · have c5 := (nI_eq (a := 0) (b := 0) (by omega) (by omega)).mp c5
    refine lv_aload_n hx hb dJ0_getBytes_840e7_8 rfl (lv_at hl 0 rfl) ?_
    refine vk_getf hx hb (hj.2.2.2.1.1 i hi).2.2.1 w.2.2.2.1 hown (hts _ (List.mem_of_getElem? (i := 1) rfl)) (fun _ h => h) dJ0_getBytes_840e7_9 ?_
    refine lv_iconst (v := 0) hx hb dJ0_getBytes_840e7_12 (by decide) ?_
    refine lv_aload_n hx hb dJ0_getBytes_840e7_13 rfl (lv_at hl 1 rfl) ?_
    refine lv_iload_n hx hb dJ0_getBytes_840e7_14 rfl (lv_at hl 2 rfl) ?_
    refine lv_iload_n hx hb dJ0_getBytes_840e7_15 rfl (lv_at hl 3 rfl) ?_
    refine lv_ishl hx hb dJ0_getBytes_840e7_16 ?_
    refine r_eq (y := (nI n)) (sb_shl0 _) ?_
    refine lv_aload_n hx hb dJ0_getBytes_840e7_17 rfl (lv_at hl 0 rfl) ?_
    refine vk_getf hx hb (hj.2.2.2.1.1 i hi).2.2.1 w.2.2.2.1 hown (hts _ (List.mem_of_getElem? (i := 1) rfl)) (fun _ h => h) dJ0_getBytes_840e7_18 ?_
    refine va_tlen (v := (nI (jLen.getD i 0))) hx hb (hj.2.2.2.1.1 i hi).2.2.2 w.2.2.2.1 rfl dJ0_getBytes_840e7_21 ?_
    refine r_copyt hx hb (hml.trans hl.1.symm) hown (hts _ (List.mem_of_getElem? (i := 2) rfl)) (hts _ (List.mem_of_getElem? (i := 3) rfl)) (hts _ (List.mem_of_getElem? (i := 4) rfl)) (hts _ (List.mem_of_getElem? (i := 5) rfl)) w (hj.2.2.2.1.1 i hi).2.2.2 0 0 rfl rfl 4 rfl (dp := n) (n := (jLen.getD i 0)) ⟨by have := (jb_len i hi).2; omega, by omega, by decide, fun j hj2 => jb_fit i hi j hj2⟩ (Nat.le_of_ble_eq_true rfl) (Nat.le_of_ble_eq_true rfl) (baB ty va (putL f n (jByt.getD i []))) (congrArg (baB ty va) (jb_cpy hi)) [baB ty va (putL f n (jByt.getD i []))] rfl dJ0_getBytes_840e7_22 (fun H locs w => ?_)
    refine lv_goto (tgt := 43) hx hb dJ0_getBytes_840e7_25 (by decide) ?_
    exact e_v hx hb hr hlocks w dJ0_getBytes_840e7_43 (Nat.le_refl _) (Nat.le_refl _)

theorem in_J5_putStringAt_47b60_J4 : ∀ w ∈ wsJ40, w ∈ wsJ5_putStringAt_47b60 := by decide +kernel
theorem hdN_J5_putStringAt_47b60 : yJ5_putStringAt_47b60.cls ≠ "java/lang/invoke/MethodHandle" ∧ yJ5_putStringAt_47b60.cls ≠ "java/lang/invoke/VarHandle" ∧ (parseMethodDescriptor yJ5_putStringAt_47b60.desc).map (fun d => d.parameters.length) = some 2 := by decide +kernel
theorem hdS_J5_putStringAt_47b60 : yJ5_putStringAt_47b60.name ≠ "<init>" ∧ (parseMethodDescriptor yJ5_putStringAt_47b60.desc).map (fun d => d.parameters.length) = some 2 := by decide +kernel
set_option maxRecDepth 100000 in
set_option maxHeartbeats 4000000 in
theorem c_J5_putStringAt_47b60 (l : Launch) (J : Nat → Nat) (D : va_G) (ty : Nat → ClassId) (sb va : Nat) (ml : Int32) (n : Nat) (f : pS) (i : Nat) (hi : i < 2) (hn : n + jLen.getD i 0 ≤ 16) : Jv J l yJ5_putStringAt_47b60 wsJ5_putStringAt_47b60 (kR 2 43 0 0) D (kTY ty) [.ref sb, .int (nI n), .ref (J (2 + i))] [soB sb va ml n, baB ty va f] [soB sb va ml n, baB ty va (putL f n (jByt.getD i []))] 0 0 := by
  refine m_jv (cc := cJ5_putStringAt_47b60) (maxL := 3) (ret := none) (by decide +kernel) rfl (Nat.le_of_ble_eq_true rfl) ?_
  intro p e s m below meth c A ls hx hb hml hr hlocks hown hts hj w hl
  have hown : s.vm.findClass RJ5 = some m.cls := hown
  have hl : lv_has ls 3 [(0, .ref sb), (1, .int (nI n)), (2, .ref (J (2 + i)))] := hl
  refine lv_aload_n hx hb dJ5_putStringAt_47b60_0 rfl (lv_at hl 0 rfl) ?_
  refine lv_aload_n hx hb dJ5_putStringAt_47b60_1 rfl (lv_at hl 2 rfl) ?_
  refine j_vU (As := [.ref (J (2 + i))]) (rest := []) (Rs := [baB ty va f]) (Bs' := [soB sb va ml n, baB ty va f]) ⟨hx, hb, hml, hown, hts⟩ hj w (c_J5_inflateIfNeededFor_a7421 l J D ty sb va ml n i hi) (va_cwU 1 hts gJ5_putStringAt_47b60_J5_inflateIfNeededFor_a7421_u397J4 rfl rfl rfl rfl hdN_J5_inflateIfNeededFor_a7421 ⟨Nat.le_of_ble_eq_true rfl, Nat.le_of_ble_eq_true rfl⟩) [0, 1] (nB := 2) (by decide) rfl rfl rfl rfl 0 rfl rfl (ci := 1) rfl rfl rfl hl.1 rfl (Nat.le_of_ble_eq_true rfl) dJ5_putStringAt_47b60_2 ⟨(Nat.zero_le _), (Nat.zero_le _)⟩ (fun H locs w => ?_)
  refine lv_aload_n hx hb dJ5_putStringAt_47b60_5 rfl (lv_at hl 2 rfl) ?_
  refine lv_aload_n hx hb dJ5_putStringAt_47b60_6 rfl (lv_at hl 0 rfl) ?_
  refine r_get (v' := .ref va) hx hb hts in_J5_putStringAt_47b60_J4 hown w 0 0 rfl rfl (ci := 1) rfl 0 (by decide) (hts _ (List.mem_of_getElem? (i := 1) rfl)) rfl rfl rfl dJ5_putStringAt_47b60_7 ?_
  refine lv_iload_n hx hb dJ5_putStringAt_47b60_10 rfl (lv_at hl 1 rfl) ?_
  refine lv_aload_n hx hb dJ5_putStringAt_47b60_11 rfl (lv_at hl 0 rfl) ?_
  refine r_get (v' := .int 0) hx hb hts in_J5_putStringAt_47b60_J4 hown w 0 0 rfl rfl (ci := 1) rfl 1 (by decide) (hts _ (List.mem_of_getElem? (i := 2) rfl)) rfl rfl rfl dJ5_putStringAt_47b60_12 ?_
  refine j_vVK (As := [.ref va, .int (nI n), .int 0]) (rest := []) (Rs := [soB sb va ml n]) (Bs' := [soB sb va ml n, baB ty va (putL f n (jByt.getD i []))]) ⟨hx, hb, hml, hown, hts⟩ hj w (c_J0_getBytes_840e7 l J D ty i hi va n f hn) (cwV 3 hts gJ5_putStringAt_47b60_J0_getBytes_840e7 rfl rfl rfl ⟨rfl, hdN_J0_getBytes_840e7⟩ ⟨Nat.le_of_ble_eq_true rfl, Nat.le_of_ble_eq_true rfl⟩) [1, 0] (nB := 2) (by decide) rfl rfl rfl rfl (hj.2.2.2.1.1 i hi).1 rfl hl.1 rfl (Nat.le_of_ble_eq_true rfl) dJ5_putStringAt_47b60_15 ⟨(Nat.zero_le _), (Nat.zero_le _)⟩ (fun H locs w => ?_)
  exact e_v hx hb hr hlocks w dJ5_putStringAt_47b60_18 (Nat.le_refl _) (Nat.le_refl _)

theorem in_J5_append_cf1ce_J4 : ∀ w ∈ wsJ40, w ∈ wsJ5_append_cf1ce := by decide +kernel
theorem hdN_J5_append_cf1ce : yJ5_append_cf1ce.cls ≠ "java/lang/invoke/MethodHandle" ∧ yJ5_append_cf1ce.cls ≠ "java/lang/invoke/VarHandle" ∧ (parseMethodDescriptor yJ5_append_cf1ce.desc).map (fun d => d.parameters.length) = some 1 := by decide +kernel
theorem hdS_J5_append_cf1ce : yJ5_append_cf1ce.name ≠ "<init>" ∧ (parseMethodDescriptor yJ5_append_cf1ce.desc).map (fun d => d.parameters.length) = some 1 := by decide +kernel
set_option maxRecDepth 100000 in
set_option maxHeartbeats 4000000 in
theorem c_J5_append_cf1ce (l : Launch) (J : Nat → Nat) (D : va_G) (ty : Nat → ClassId) (sb va : Nat) (ml : Int32) (n : Nat) (f : pS) (i : Nat) (hi : i < 2) (hn : n + jLen.getD i 0 ≤ 16) : Jr J l yJ5_append_cf1ce wsJ5_append_cf1ce (kR 3 65 0 0) D (kTY ty) [.ref sb, .ref (J (2 + i))] [soB sb va ml n, baB ty va f] [soB sb va ml (n + jLen.getD i 0), baB ty va (putL f n (jByt.getD i []))] sb 0 0 := by
  refine m_jr (cc := cJ5_append_cf1ce) (maxL := 3) (ret := (some (.object "java/lang/AbstractStringBuilder"))) (by decide +kernel) rfl (Nat.le_of_ble_eq_true rfl) ?_
  intro p e s m below meth c A ls hx hb hml hr hlocks hown hts hj w hl
  have hown : s.vm.findClass RJ5 = some m.cls := hown
  have hl : lv_has ls 3 [(0, .ref sb), (1, .ref (J (2 + i)))] := hl
  refine lv_aload_n hx hb dJ5_append_cf1ce_0 rfl (lv_at hl 1 rfl) ?_
  refine lv_ifnonnull (tgt := 9) hx hb dJ5_append_cf1ce_1 (by decide) ?_
  refine lv_aload_n hx hb dJ5_append_cf1ce_9 rfl (lv_at hl 1 rfl) ?_
  refine j_iVK (As := []) (rest := []) (Rs := [soB sb va ml n, baB ty va f]) (Bs' := [soB sb va ml n, baB ty va f]) ⟨hx, hb, hml, hown, hts⟩ hj w (c_J0_length_8abf5 l J D ty i hi) (cwV 0 hts gJ5_append_cf1ce_J0_length_8abf5 rfl rfl rfl ⟨rfl, hdN_J0_length_8abf5⟩ ⟨Nat.le_of_ble_eq_true rfl, Nat.le_of_ble_eq_true rfl⟩) [0, 1] (nB := 2) (by decide) rfl rfl rfl rfl (hj.2.2.2.1.1 i hi).1 rfl hl.1 rfl (Nat.le_of_ble_eq_true rfl) dJ5_append_cf1ce_10 ⟨(Nat.zero_le _), (Nat.zero_le _)⟩ (fun H locs w => ?_)
  refine lv_istore_n (lv' := [(2, .int (nI (jLen.getD i 0))), (0, .ref sb), (1, .ref (J (2 + i)))]) hx hb dJ5_append_cf1ce_13 rfl hl (by decide) rfl (fun ls hl => ?_)
  refine lv_aload_n hx hb dJ5_append_cf1ce_14 rfl (lv_at hl 1 rfl) ?_
  refine lv_aload_n hx hb dJ5_append_cf1ce_15 rfl (lv_at hl 1 rfl) ?_
  refine r_get (v' := .int (nI n)) hx hb hts in_J5_append_cf1ce_J4 hown w 0 0 rfl rfl (ci := 1) rfl 3 (by decide) (hts _ (List.mem_of_getElem? (i := 1) rfl)) rfl rfl rfl dJ5_append_cf1ce_16 ?_
  refine lv_iload_n hx hb dJ5_append_cf1ce_19 rfl (lv_at hl 0 rfl) ?_
  refine lv_iadd hx hb dJ5_append_cf1ce_20 ?_
  refine r_eq (y := (nI (n + (jLen.getD i 0)))) (nI_add n (jLen.getD i 0)) ?_
  refine j_vU (As := [.int (nI (n + (jLen.getD i 0)))]) (rest := []) (Rs := []) (Bs' := [soB sb va ml n, baB ty va f]) ⟨hx, hb, hml, hown, hts⟩ hj w (c_J5_ensureCapacityInternal_d00df l J D ty sb va ml n f (n + (jLen.getD i 0)) (by omega)) (va_cwU 1 hts gJ5_append_cf1ce_J5_ensureCapacityInternal_d00df_u100J4 rfl rfl rfl rfl hdN_J5_ensureCapacityInternal_d00df ⟨Nat.le_of_ble_eq_true rfl, Nat.le_of_ble_eq_true rfl⟩) [0, 1] (nB := 2) (by decide) rfl rfl rfl rfl 0 rfl rfl (ci := 1) rfl rfl rfl hl.1 rfl (Nat.le_of_ble_eq_true rfl) dJ5_append_cf1ce_21 ⟨(Nat.zero_le _), (Nat.zero_le _)⟩ (fun H locs w => ?_)
  refine lv_aload_n hx hb dJ5_append_cf1ce_24 rfl (lv_at hl 1 rfl) ?_
  refine lv_aload_n hx hb dJ5_append_cf1ce_25 rfl (lv_at hl 1 rfl) ?_
  refine r_get (v' := .int (nI n)) hx hb hts in_J5_append_cf1ce_J4 hown w 0 0 rfl rfl (ci := 1) rfl 3 (by decide) (hts _ (List.mem_of_getElem? (i := 1) rfl)) rfl rfl rfl dJ5_append_cf1ce_26 ?_
  refine lv_aload_n hx hb dJ5_append_cf1ce_29 rfl (lv_at hl 2 rfl) ?_
  refine j_vU (As := [.int (nI n), .ref (J (2 + i))]) (rest := []) (Rs := []) (Bs' := [soB sb va ml n, baB ty va (putL f n (jByt.getD i []))]) ⟨hx, hb, hml, hown, hts⟩ hj w (c_J5_putStringAt_47b60 l J D ty sb va ml n f i hi hn) (va_cwU 2 hts gJ5_append_cf1ce_J5_putStringAt_47b60_u208J4 rfl rfl rfl rfl hdN_J5_putStringAt_47b60 ⟨Nat.le_of_ble_eq_true rfl, Nat.le_of_ble_eq_true rfl⟩) [0, 1] (nB := 2) (by decide) rfl rfl rfl rfl 0 rfl rfl (ci := 1) rfl rfl rfl hl.1 rfl (Nat.le_of_ble_eq_true rfl) dJ5_append_cf1ce_30 ⟨(Nat.zero_le _), (Nat.zero_le _)⟩ (fun H locs w => ?_)
  refine lv_aload_n hx hb dJ5_append_cf1ce_33 rfl (lv_at hl 1 rfl) ?_
  refine lv_dup hx hb dJ5_append_cf1ce_34 rfl ?_
  refine r_get (v' := .int (nI n)) hx hb hts in_J5_append_cf1ce_J4 hown w 0 0 rfl rfl (ci := 1) rfl 3 (by decide) (hts _ (List.mem_of_getElem? (i := 1) rfl)) rfl rfl rfl dJ5_append_cf1ce_35 ?_
  refine lv_iload_n hx hb dJ5_append_cf1ce_38 rfl (lv_at hl 0 rfl) ?_
  refine lv_iadd hx hb dJ5_append_cf1ce_39 ?_
  refine r_eq (y := (nI (n + (jLen.getD i 0)))) (nI_add n (jLen.getD i 0)) ?_
  refine r_put hx hb hts in_J5_append_cf1ce_J4 tyJ4 tyJ4_ok nmJ4 hown w 0 0 rfl rfl (ci := 1) rfl 3 (by decide) (hts _ (List.mem_of_getElem? (i := 1) rfl)) rfl rfl (ty := .int) (by decide +kernel) rfl rfl (Nat.le_of_ble_eq_true rfl) (soB sb va ml (n + (jLen.getD i 0))) rfl [soB sb va ml (n + (jLen.getD i 0)), baB ty va (putL f n (jByt.getD i []))] rfl dJ5_append_cf1ce_40 (fun H locs w => ?_)
  refine lv_aload_n hx hb dJ5_append_cf1ce_43 rfl (lv_at hl 1 rfl) ?_
  exact e_r hx hb hr hlocks w dJ5_append_cf1ce_44 (Nat.le_refl _) (Nat.le_refl _)

theorem hdN_J4_append_15ec4 : yJ4_append_15ec4.cls ≠ "java/lang/invoke/MethodHandle" ∧ yJ4_append_15ec4.cls ≠ "java/lang/invoke/VarHandle" ∧ (parseMethodDescriptor yJ4_append_15ec4.desc).map (fun d => d.parameters.length) = some 1 := by decide +kernel
theorem hdS_J4_append_15ec4 : yJ4_append_15ec4.name ≠ "<init>" ∧ (parseMethodDescriptor yJ4_append_15ec4.desc).map (fun d => d.parameters.length) = some 1 := by decide +kernel
set_option maxRecDepth 100000 in
set_option maxHeartbeats 4000000 in
theorem c_J4_append_15ec4 (l : Launch) (J : Nat → Nat) (D : va_G) (ty : Nat → ClassId) (sb va : Nat) (ml : Int32) (n : Nat) (f : pS) (i : Nat) (hi : i < 2) (hn : n + jLen.getD i 0 ≤ 16) : Jr J l yJ4_append_15ec4 wsJ4_append_15ec4 (kR 4 87 0 0) D (kTY ty) [.ref sb, .ref (J (2 + i))] [soB sb va ml n, baB ty va f] [soB sb va ml (n + jLen.getD i 0), baB ty va (putL f n (jByt.getD i []))] sb 0 0 := by
  refine m_jr (cc := cJ4_append_15ec4) (maxL := 2) (ret := (some (.object "java/lang/StringBuilder"))) (by decide +kernel) rfl (Nat.le_of_ble_eq_true rfl) ?_
  intro p e s m below meth c A ls hx hb hml hr hlocks hown hts hj w hl
  have hown : s.vm.findClass RJ4 = some m.cls := hown
  have hl : lv_has ls 2 [(0, .ref sb), (1, .ref (J (2 + i)))] := hl
  refine lv_aload_n hx hb dJ4_append_15ec4_0 rfl (lv_at hl 0 rfl) ?_
  refine lv_aload_n hx hb dJ4_append_15ec4_1 rfl (lv_at hl 1 rfl) ?_
  refine j_rSU (As := [.ref (J (2 + i))]) (rest := []) (Rs := []) (Bs' := [soB sb va ml (n + jLen.getD i 0), baB ty va (putL f n (jByt.getD i []))]) ⟨hx, hb, hml, hown, hts⟩ hj w (c_J5_append_cf1ce l J D ty sb va ml n f i hi hn) (va_cwSU 1 hts gJ4_append_15ec4_J5_append_cf1ce_s29 rfl rfl rfl hdS_J5_append_cf1ce ⟨Nat.le_of_ble_eq_true rfl, Nat.le_of_ble_eq_true rfl⟩) [0, 1] (nB := 2) (by decide) rfl rfl rfl rfl 0 rfl rfl (ci := 1) rfl rfl rfl hl.1 rfl (Nat.le_of_ble_eq_true rfl) dJ4_append_15ec4_2 ⟨(Nat.zero_le _), (Nat.zero_le _)⟩ (fun H locs w => ?_)
  refine lv_pop hx hb dJ4_append_15ec4_5 rfl ?_
  refine lv_aload_n hx hb dJ4_append_15ec4_6 rfl (lv_at hl 0 rfl) ?_
  exact e_r hx hb hr hlocks w dJ4_append_15ec4_7 (Nat.le_refl _) (Nat.le_refl _)

theorem in_J5_setLength_d00df_J4 : ∀ w ∈ wsJ40, w ∈ wsJ5_setLength_d00df := by decide +kernel
theorem hdN_J5_setLength_d00df : yJ5_setLength_d00df.cls ≠ "java/lang/invoke/MethodHandle" ∧ yJ5_setLength_d00df.cls ≠ "java/lang/invoke/VarHandle" ∧ (parseMethodDescriptor yJ5_setLength_d00df.desc).map (fun d => d.parameters.length) = some 1 := by decide +kernel
theorem hdS_J5_setLength_d00df : yJ5_setLength_d00df.name ≠ "<init>" ∧ (parseMethodDescriptor yJ5_setLength_d00df.desc).map (fun d => d.parameters.length) = some 1 := by decide +kernel
set_option maxRecDepth 100000 in
set_option maxHeartbeats 4000000 in
theorem c_J5_setLength_d00df (l : Launch) (J : Nat → Nat) (D : va_G) (ty : Nat → ClassId) (sb va : Nat) (ml : Int32) (n : Nat) (f : pS) (hn31 : n < 2 ^ 31) : Jv J l yJ5_setLength_d00df wsJ5_setLength_d00df (kR 1 22 0 0) D (kTY ty) [.ref sb, .int 0] [soB sb va ml n, baB ty va f] [soB sb va (if n = 0 then ml else 1) 0, baB ty va f] 0 0 := by
  refine m_jv (cc := cJ5_setLength_d00df) (maxL := 2) (ret := none) (by decide +kernel) rfl (Nat.le_of_ble_eq_true rfl) ?_
  intro p e s m below meth c A ls hx hb hml hr hlocks hown hts hj w hl
  have hown : s.vm.findClass RJ5 = some m.cls := hown
  have hl : lv_has ls 2 [(0, .ref sb), (1, .int 0)] := hl
  refine lv_iload_n hx hb dJ5_setLength_d00df_0 rfl (lv_at hl 1 rfl) ?_
  refine lv_if_ge (tgt := 13) hx hb dJ5_setLength_d00df_1 (by decide) (fun c1 => ?_) (fun c1 => ?_)
  · refine lv_aload_n hx hb dJ5_setLength_d00df_13 rfl (lv_at hl 0 rfl) ?_
    refine lv_iload_n hx hb dJ5_setLength_d00df_14 rfl (lv_at hl 1 rfl) ?_
    refine j_vU (As := [.int 0]) (rest := []) (Rs := []) (Bs' := [soB sb va ml n, baB ty va f]) ⟨hx, hb, hml, hown, hts⟩ hj w (c_J5_ensureCapacityInternal_d00df l J D ty sb va ml n f 0 (by omega)) (va_cwU 1 hts gJ5_setLength_d00df_J5_ensureCapacityInternal_d00df_u100J4 rfl rfl rfl rfl hdN_J5_ensureCapacityInternal_d00df ⟨Nat.le_of_ble_eq_true rfl, Nat.le_of_ble_eq_true rfl⟩) [0, 1] (nB := 2) (by decide) rfl rfl rfl rfl 0 rfl rfl (ci := 1) rfl rfl rfl hl.1 rfl (Nat.le_of_ble_eq_true rfl) dJ5_setLength_d00df_15 ⟨(Nat.zero_le _), (Nat.zero_le _)⟩ (fun H locs w => ?_)
    refine lv_aload_n hx hb dJ5_setLength_d00df_18 rfl (lv_at hl 0 rfl) ?_
    refine r_get (v' := .int (nI n)) hx hb hts in_J5_setLength_d00df_J4 hown w 0 0 rfl rfl (ci := 1) rfl 3 (by decide) (hts _ (List.mem_of_getElem? (i := 4) rfl)) rfl rfl rfl dJ5_setLength_d00df_19 ?_
    refine lv_iload_n hx hb dJ5_setLength_d00df_22 rfl (lv_at hl 1 rfl) ?_
    refine lv_icmp_ge (tgt := 63) hx hb dJ5_setLength_d00df_23 (by decide) (fun c23 => ?_) (fun c23 => ?_)
    · refine lv_aload_n hx hb dJ5_setLength_d00df_63 rfl (lv_at hl 0 rfl) ?_
      refine r_get (v' := .int (nI n)) hx hb hts in_J5_setLength_d00df_J4 hown w 0 0 rfl rfl (ci := 1) rfl 3 (by decide) (hts _ (List.mem_of_getElem? (i := 4) rfl)) rfl rfl rfl dJ5_setLength_d00df_64 ?_
      refine lv_iload_n hx hb dJ5_setLength_d00df_67 rfl (lv_at hl 1 rfl) ?_
      refine lv_icmp_le (tgt := 76) hx hb dJ5_setLength_d00df_68 (by decide) (fun c68 => ?_) (fun c68 => ?_)
      · have hn0 : n = 0 := by
          rcases Nat.eq_zero_or_pos n with q | q
          · exact q
          · exact absurd c68 (nI_nle q hn31)
        refine lv_aload_n hx hb dJ5_setLength_d00df_76 rfl (lv_at hl 0 rfl) ?_
        refine lv_iload_n hx hb dJ5_setLength_d00df_77 rfl (lv_at hl 1 rfl) ?_
        refine r_put hx hb hts in_J5_setLength_d00df_J4 tyJ4 tyJ4_ok nmJ4 hown w 0 0 rfl rfl (ci := 1) rfl 3 (by decide) (hts _ (List.mem_of_getElem? (i := 4) rfl)) rfl rfl (ty := .int) (by decide +kernel) rfl rfl (Nat.le_of_ble_eq_true rfl) (soB sb va ml 0) rfl [soB sb va ml 0, baB ty va f] rfl dJ5_setLength_d00df_78 (fun H locs w => ?_)
        exact e_v hx hb hr hlocks (w.cast (by rw [if_pos hn0])) dJ5_setLength_d00df_81 (Nat.le_refl _) (Nat.le_refl _)
      · have hn0 : ¬ n = 0 := fun q => c68 (by rw [q]; decide)
        refine lv_aload_n hx hb dJ5_setLength_d00df_71 rfl (lv_at hl 0 rfl) ?_
        refine lv_iconst (v := 1) hx hb dJ5_setLength_d00df_72 (by decide) ?_
        refine r_put hx hb hts in_J5_setLength_d00df_J4 tyJ4 tyJ4_ok nmJ4 hown w 0 0 rfl rfl (ci := 1) rfl 2 (by decide) (hts _ (List.mem_of_getElem? (i := 6) rfl)) rfl rfl (ty := .boolean) (by decide +kernel) rfl rfl (Nat.le_of_ble_eq_true rfl) (soB sb va 1 n) rfl [soB sb va 1 n, baB ty va f] rfl dJ5_setLength_d00df_73 (fun H locs w => ?_)
        refine lv_aload_n hx hb dJ5_setLength_d00df_76 rfl (lv_at hl 0 rfl) ?_
        refine lv_iload_n hx hb dJ5_setLength_d00df_77 rfl (lv_at hl 1 rfl) ?_
        refine r_put hx hb hts in_J5_setLength_d00df_J4 tyJ4 tyJ4_ok nmJ4 hown w 0 0 rfl rfl (ci := 1) rfl 3 (by decide) (hts _ (List.mem_of_getElem? (i := 4) rfl)) rfl rfl (ty := .int) (by decide +kernel) rfl rfl (Nat.le_of_ble_eq_true rfl) (soB sb va 1 0) rfl [soB sb va 1 0, baB ty va f] rfl dJ5_setLength_d00df_78 (fun H locs w => ?_)
        exact e_v hx hb hr hlocks (w.cast (by rw [if_neg hn0])) dJ5_setLength_d00df_81 (Nat.le_refl _) (Nat.le_refl _)
    · exact absurd (Int32.not_lt.mp (nI_pos hn31)) c23
  · exact absurd (by decide) c1

theorem hdN_J4_setLength_d00df : yJ4_setLength_d00df.cls ≠ "java/lang/invoke/MethodHandle" ∧ yJ4_setLength_d00df.cls ≠ "java/lang/invoke/VarHandle" ∧ (parseMethodDescriptor yJ4_setLength_d00df.desc).map (fun d => d.parameters.length) = some 1 := by decide +kernel
theorem hdS_J4_setLength_d00df : yJ4_setLength_d00df.name ≠ "<init>" ∧ (parseMethodDescriptor yJ4_setLength_d00df.desc).map (fun d => d.parameters.length) = some 1 := by decide +kernel
set_option maxRecDepth 100000 in
set_option maxHeartbeats 4000000 in
theorem c_J4_setLength_d00df (l : Launch) (J : Nat → Nat) (D : va_G) (ty : Nat → ClassId) (sb va : Nat) (ml : Int32) (n : Nat) (f : pS) (hn31 : n < 2 ^ 31) : Jv J l yJ4_setLength_d00df wsJ4_setLength_d00df (kR 2 43 0 0) D (kTY ty) [.ref sb, .int 0] [soB sb va ml n, baB ty va f] [soB sb va (if n = 0 then ml else 1) 0, baB ty va f] 0 0 := by
  refine m_jv (cc := cJ4_setLength_d00df) (maxL := 2) (ret := none) (by decide +kernel) rfl (Nat.le_of_ble_eq_true rfl) ?_
  intro p e s m below meth c A ls hx hb hml hr hlocks hown hts hj w hl
  have hown : s.vm.findClass RJ4 = some m.cls := hown
  have hl : lv_has ls 2 [(0, .ref sb), (1, .int 0)] := hl
  refine lv_aload_n hx hb dJ4_setLength_d00df_0 rfl (lv_at hl 0 rfl) ?_
  refine lv_iload_n hx hb dJ4_setLength_d00df_1 rfl (lv_at hl 1 rfl) ?_
  refine j_vSU (As := [.int 0]) (rest := []) (Rs := []) (Bs' := [soB sb va (if n = 0 then ml else 1) 0, baB ty va f]) ⟨hx, hb, hml, hown, hts⟩ hj w (c_J5_setLength_d00df l J D ty sb va ml n f (by omega)) (va_cwSU 1 hts gJ4_setLength_d00df_J5_setLength_d00df_s333 rfl rfl rfl hdS_J5_setLength_d00df ⟨Nat.le_of_ble_eq_true rfl, Nat.le_of_ble_eq_true rfl⟩) [0, 1] (nB := 2) (by decide) rfl rfl rfl rfl 0 rfl rfl (ci := 1) rfl rfl rfl hl.1 rfl (Nat.le_of_ble_eq_true rfl) dJ4_setLength_d00df_2 ⟨(Nat.zero_le _), (Nat.zero_le _)⟩ (fun H locs w => ?_)
  exact e_v hx hb hr hlocks w dJ4_setLength_d00df_5 (Nat.le_refl _) (Nat.le_refl _)

theorem in_J5_length_8abf5_J4 : ∀ w ∈ wsJ40, w ∈ wsJ5_length_8abf5 := by decide +kernel
theorem hdN_J5_length_8abf5 : yJ5_length_8abf5.cls ≠ "java/lang/invoke/MethodHandle" ∧ yJ5_length_8abf5.cls ≠ "java/lang/invoke/VarHandle" ∧ (parseMethodDescriptor yJ5_length_8abf5.desc).map (fun d => d.parameters.length) = some 0 := by decide +kernel
theorem hdS_J5_length_8abf5 : yJ5_length_8abf5.name ≠ "<init>" ∧ (parseMethodDescriptor yJ5_length_8abf5.desc).map (fun d => d.parameters.length) = some 0 := by decide +kernel
set_option maxRecDepth 100000 in
set_option maxHeartbeats 4000000 in
theorem c_J5_length_8abf5 (l : Launch) (J : Nat → Nat) (D : va_G) (ty : Nat → ClassId) (sb va : Nat) (ml : Int32) (n : Nat) : Ji J l yJ5_length_8abf5 wsJ5_length_8abf5 (kR 0 0 0 0) D (kTY ty) [.ref sb] [soB sb va ml n] [soB sb va ml n] (nI n) 0 0 := by
  refine m_ji (cc := cJ5_length_8abf5) (maxL := 1) (ret := (some .int)) (by decide +kernel) rfl (Nat.le_of_ble_eq_true rfl) ?_
  intro p e s m below meth c A ls hx hb hml hr hlocks hown hts hj w hl
  have hown : s.vm.findClass RJ5 = some m.cls := hown
  have hl : lv_has ls 1 [(0, .ref sb)] := hl
  refine lv_aload_n hx hb dJ5_length_8abf5_0 rfl (lv_at hl 0 rfl) ?_
  refine r_get (v' := .int (nI n)) hx hb hts in_J5_length_8abf5_J4 hown w 0 0 rfl rfl (ci := 1) rfl 3 (by decide) (hts _ (List.mem_of_getElem? (i := 1) rfl)) rfl rfl rfl dJ5_length_8abf5_1 ?_
  exact e_i hx hb hr hlocks w rfl dJ5_length_8abf5_4 (Nat.le_refl _) (Nat.le_refl _)

theorem hdN_J4_length_8abf5 : yJ4_length_8abf5.cls ≠ "java/lang/invoke/MethodHandle" ∧ yJ4_length_8abf5.cls ≠ "java/lang/invoke/VarHandle" ∧ (parseMethodDescriptor yJ4_length_8abf5.desc).map (fun d => d.parameters.length) = some 0 := by decide +kernel
theorem hdS_J4_length_8abf5 : yJ4_length_8abf5.name ≠ "<init>" ∧ (parseMethodDescriptor yJ4_length_8abf5.desc).map (fun d => d.parameters.length) = some 0 := by decide +kernel
set_option maxRecDepth 100000 in
set_option maxHeartbeats 4000000 in
theorem c_J4_length_8abf5 (l : Launch) (J : Nat → Nat) (D : va_G) (ty : Nat → ClassId) (sb va : Nat) (ml : Int32) (n : Nat) : Ji J l yJ4_length_8abf5 wsJ4_length_8abf5 (kR 1 20 0 0) D (kTY ty) [.ref sb] [soB sb va ml n] [soB sb va ml n] (nI n) 0 0 := by
  refine m_ji (cc := cJ4_length_8abf5) (maxL := 1) (ret := (some .int)) (by decide +kernel) rfl (Nat.le_of_ble_eq_true rfl) ?_
  intro p e s m below meth c A ls hx hb hml hr hlocks hown hts hj w hl
  have hown : s.vm.findClass RJ4 = some m.cls := hown
  have hl : lv_has ls 1 [(0, .ref sb)] := hl
  refine lv_aload_n hx hb dJ4_length_8abf5_0 rfl (lv_at hl 0 rfl) ?_
  refine j_iSU (As := []) (rest := []) (Rs := []) (Bs' := [soB sb va ml n]) ⟨hx, hb, hml, hown, hts⟩ hj w (c_J5_length_8abf5 l J D ty sb va ml n) (va_cwSU 0 hts gJ4_length_8abf5_J5_length_8abf5_s343 rfl rfl rfl hdS_J5_length_8abf5 ⟨Nat.le_of_ble_eq_true rfl, Nat.le_of_ble_eq_true rfl⟩) [0] (nB := 1) (by decide) rfl rfl rfl rfl 0 rfl rfl (ci := 1) rfl rfl rfl hl.1 rfl (Nat.le_of_ble_eq_true rfl) dJ4_length_8abf5_1 ⟨(Nat.zero_le _), (Nat.zero_le _)⟩ (fun H locs w => ?_)
  exact e_i hx hb hr hlocks w rfl dJ4_length_8abf5_4 (Nat.le_refl _) (Nat.le_refl _)
