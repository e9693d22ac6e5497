theorem in_J5_isLatin1_aae02_J4 : ∀ w ∈ wsJ40, w ∈ wsJ5_isLatin1_aae02 := by decide +kernel
theorem hdN_J5_isLatin1_aae02 : yJ5_isLatin1_aae02.cls ≠ "java/lang/invoke/MethodHandle" ∧ yJ5_isLatin1_aae02.cls ≠ "java/lang/invoke/VarHandle" ∧ (parseMethodDescriptor yJ5_isLatin1_aae02.desc).map (fun d => d.parameters.length) = some 0 := by decide +kernel
theorem hdS_J5_isLatin1_aae02 : yJ5_isLatin1_aae02.name ≠ "<init>" ∧ (parseMethodDescriptor yJ5_isLatin1_aae02.desc).map (fun d => d.parameters.length) = some 0 := by decide +kernel
set_option maxRecDepth 100000 in
set_option maxHeartbeats 4000000 in
theorem c_J5_isLatin1_aae02 (l : Launch) (J : Nat → Nat) (D : va_G) (ty : Nat → ClassId) (sb va : Nat) (ml : Int32) (n : Nat) : Ji J l yJ5_isLatin1_aae02 wsJ5_isLatin1_aae02 (kR 0 0 0 0) D (kTY ty) [.ref sb] [soB sb va ml n] [soB sb va ml n] 1 0 0 := by
  refine m_ji (cc := cJ5_isLatin1_aae02) (maxL := 1) (ret := (some .boolean)) (by decide +kernel) rfl (Nat.le_of_ble_eq_true rfl) ?_
  intro p e s m below meth c A ls hx hb hml hr hlocks hown hts hj w hl
  have hown : s.vm.findClass RJ5 = some m.cls := hown
  have hl : lv_has ls 1 [(0, .ref sb)] := hl
  refine va_gets hx hb hj.1 w.2.2.2.1 hown (hts _ (List.mem_of_getElem? (i := 1) rfl)) (fun _ h => h) dJ5_isLatin1_aae02_0 ?_
  refine lv_if_eq (tgt := 17) hx hb dJ5_isLatin1_aae02_3 (by decide) (fun c3 => ?_) (fun c3 => ?_)
  · exact absurd c3 (by decide)
  · refine lv_aload_n hx hb dJ5_isLatin1_aae02_6 rfl (lv_at hl 0 rfl) ?_
    refine r_get (v' := .int 0) hx hb hts in_J5_isLatin1_aae02_J4 hown w 0 0 rfl rfl (ci := 1) rfl 1 (by decide) (hts _ (List.mem_of_getElem? (i := 2) rfl)) rfl rfl rfl dJ5_isLatin1_aae02_7 ?_
    refine lv_if_ne (tgt := 17) hx hb dJ5_isLatin1_aae02_10 (by decide) (fun c10 => ?_) (fun c10 => ?_)
    · exact absurd c10 (by decide)
    · refine lv_iconst (v := 1) hx hb dJ5_isLatin1_aae02_13 (by decide) ?_
      refine lv_goto (tgt := 18) hx hb dJ5_isLatin1_aae02_14 (by decide) ?_
      exact e_z (ty := .boolean) hx hb hr rfl hlocks w rfl dJ5_isLatin1_aae02_18 (Nat.le_refl _) (Nat.le_refl _)

theorem hdN_J1_canEncode_fc78d : yJ1_canEncode_fc78d.cls ≠ "java/lang/invoke/MethodHandle" ∧ yJ1_canEncode_fc78d.cls ≠ "java/lang/invoke/VarHandle" ∧ (parseMethodDescriptor yJ1_canEncode_fc78d.desc).map (fun d => d.parameters.length) = some 1 := by decide +kernel
theorem hdS_J1_canEncode_fc78d : yJ1_canEncode_fc78d.name ≠ "<init>" ∧ (parseMethodDescriptor yJ1_canEncode_fc78d.desc).map (fun d => d.parameters.length) = some 1 := by decide +kernel
set_option maxRecDepth 100000 in
set_option maxHeartbeats 4000000 in
theorem c_J1_canEncode_fc78d (l : Launch) (J : Nat → Nat) (D : va_G) (ty : Nat → ClassId) (q : Nat) (hq : q < 128) : Ji J l yJ1_canEncode_fc78d wsJ1_canEncode_fc78d (kR 0 0 0 0) D (kTY ty) [.int (nI q)] [] [] 1 0 0 := by
  refine m_ji (cc := cJ1_canEncode_fc78d) (maxL := 1) (ret := (some .boolean)) (by decide +kernel) rfl (Nat.le_of_ble_eq_true rfl) ?_
  intro p e s m below meth c A ls hx hb hml hr hlocks hown hts hj w hl
  have hown : s.vm.findClass RJ1 = some m.cls := hown
  have hl : lv_has ls 1 [(0, .int (nI q))] := hl
  refine lv_iload_n hx hb dJ1_canEncode_fc78d_0 rfl (lv_at hl 0 rfl) ?_
  refine lv_sipush (v := 255) hx hb dJ1_canEncode_fc78d_1 (by decide) ?_
  refine lv_icmp_gt (tgt := 11) hx hb dJ1_canEncode_fc78d_4 (by decide) (fun c4 => ?_) (fun c4 => ?_)
  · have c4 := (nI_ltI (a := 255) (b := q) (by omega) (by omega)).mp c4
    exact absurd c4 (by omega)
  · have c4 := mt (nI_ltI (a := 255) (b := q) (by omega) (by omega)).mpr c4
    refine lv_iconst (v := 1) hx hb dJ1_canEncode_fc78d_7 (by decide) ?_
    refine lv_goto (tgt := 12) hx hb dJ1_canEncode_fc78d_8 (by decide) ?_
    exact e_z (ty := .boolean) hx hb hr rfl hlocks w rfl dJ1_canEncode_fc78d_12 (Nat.le_refl _) (Nat.le_refl _)

theorem in_J5_ensureCapacityInternal_d00df_J4 : ∀ w ∈ wsJ40, w ∈ wsJ5_ensureCapacityInternal_d00df := by decide +kernel
theorem hdN_J5_ensureCapacityInternal_d00df : yJ5_ensureCapacityInternal_d00df.cls ≠ "java/lang/invoke/MethodHandle" ∧ yJ5_ensureCapacityInternal_d00df.cls ≠ "java/lang/invoke/VarHandle" ∧ (parseMethodDescriptor yJ5_ensureCapacityInternal_d00df.desc).map (fun d => d.parameters.length) = some 1 := by decide +kernel
theorem hdS_J5_ensureCapacityInternal_d00df : yJ5_ensureCapacityInternal_d00df.name ≠ "<init>" ∧ (parseMethodDescriptor yJ5_ensureCapacityInternal_d00df.desc).map (fun d => d.parameters.length) = some 1 := by decide +kernel
set_option maxRecDepth 100000 in
set_option maxHeartbeats 4000000 in
theorem c_J5_ensureCapacityInternal_d00df (l : Launch) (J : Nat → Nat) (D : va_G) (ty : Nat → ClassId) (sb va : Nat) (ml : Int32) (n : Nat) (f : pS) (q : Nat) (hq : q ≤ 16) : Jv J l yJ5_ensureCapacityInternal_d00df wsJ5_ensureCapacityInternal_d00df (kR 0 0 0 0) D (kTY ty) [.ref sb, .int (nI q)] [soB sb va ml n, baB ty va f] [soB sb va ml n, baB ty va f] 0 0 := by
  refine m_jv (cc := cJ5_ensureCapacityInternal_d00df) (maxL := 3) (ret := none) (by decide +kernel) rfl (Nat.le_of_ble_eq_true rfl) ?_
  intro p e s m below meth c A ls hx hb hml hr hlocks hown hts hj w hl
  have hown : s.vm.findClass RJ5 = some m.cls := hown
  have hl : lv_has ls 3 [(0, .ref sb), (1, .int (nI q))] := hl
  refine lv_aload_n hx hb dJ5_ensureCapacityInternal_d00df_0 rfl (lv_at hl 0 rfl) ?_
  refine r_get (v' := .ref va) hx hb hts in_J5_ensureCapacityInternal_d00df_J4 hown w 0 0 rfl rfl (ci := 1) rfl 0 (by decide) (hts _ (List.mem_of_getElem? (i := 1) rfl)) rfl rfl rfl dJ5_ensureCapacityInternal_d00df_1 ?_
  refine r_alen (v := 16) hx hb w 1 0 rfl rfl 4 rfl rfl dJ5_ensureCapacityInternal_d00df_4 ?_
  refine lv_aload_n hx hb dJ5_ensureCapacityInternal_d00df_5 rfl (lv_at hl 0 rfl) ?_
  refine r_get (v' := .int 0) hx hb hts in_J5_ensureCapacityInternal_d00df_J4 hown w 0 0 rfl rfl (ci := 1) rfl 1 (by decide) (hts _ (List.mem_of_getElem? (i := 2) rfl)) rfl rfl rfl dJ5_ensureCapacityInternal_d00df_6 ?_
  refine lv_ishr hx hb dJ5_ensureCapacityInternal_d00df_9 ?_
  refine r_eq (y := 16) (by decide) ?_
  refine lv_istore_n (lv' := [(2, .int 16), (0, .ref sb), (1, .int (nI q))]) hx hb dJ5_ensureCapacityInternal_d00df_10 rfl hl (by decide) rfl (fun ls hl => ?_)
  refine lv_iload_n hx hb dJ5_ensureCapacityInternal_d00df_11 rfl (lv_at hl 2 rfl) ?_
  refine lv_iload_n hx hb dJ5_ensureCapacityInternal_d00df_12 rfl (lv_at hl 0 rfl) ?_
  refine lv_isub hx hb dJ5_ensureCapacityInternal_d00df_13 ?_
  refine lv_if_le (tgt := 38) hx hb dJ5_ensureCapacityInternal_d00df_14 (by decide) (fun c14 => ?_) (fun c14 => ?_)
  · exact e_v hx hb hr hlocks w dJ5_ensureCapacityInternal_d00df_38 (Nat.le_refl _) (Nat.le_refl _)
  · exact absurd (jb_sub q hq) c14

theorem in_J5_append_3fe6f_J4 : ∀ w ∈ wsJ40, w ∈ wsJ5_append_3fe6f := by decide +kernel
theorem hdN_J5_append_3fe6f : yJ5_append_3fe6f.cls ≠ "java/lang/invoke/MethodHandle" ∧ yJ5_append_3fe6f.cls ≠ "java/lang/invoke/VarHandle" ∧ (parseMethodDescriptor yJ5_append_3fe6f.desc).map (fun d => d.parameters.length) = some 1 := by decide +kernel
theorem hdS_J5_append_3fe6f : yJ5_append_3fe6f.name ≠ "<init>" ∧ (parseMethodDescriptor yJ5_append_3fe6f.desc).map (fun d => d.parameters.length) = some 1 := by decide +kernel
set_option maxRecDepth 100000 in
set_option maxHeartbeats 4000000 in
theorem c_J5_append_3fe6f (l : Launch) (J : Nat → Nat) (D : va_G) (ty : Nat → ClassId) (sb va : Nat) (ml : Int32) (n : Nat) (f : pS) (q : Nat) (hq : q < 128) (hn : n < 16) : Jr J l yJ5_append_3fe6f wsJ5_append_3fe6f (kR 1 22 0 0) D (kTY ty) [.ref sb, .int (nI q)] [soB sb va ml n, baB ty va f] [soB sb va ml (n + 1), baB ty va (putL f n [nI q])] sb 0 0 := by
  refine m_jr (cc := cJ5_append_3fe6f) (maxL := 2) (ret := (some (.object "java/lang/AbstractStringBuilder"))) (by decide +kernel) rfl (Nat.le_of_ble_eq_true rfl) ?_
  intro p e s m below meth c A ls hx hb hml hr hlocks hown hts hj w hl
  have hown : s.vm.findClass RJ5 = some m.cls := hown
  have hl : lv_has ls 2 [(0, .ref sb), (1, .int (nI q))] := hl
  refine lv_aload_n hx hb dJ5_append_3fe6f_0 rfl (lv_at hl 0 rfl) ?_
  refine lv_aload_n hx hb dJ5_append_3fe6f_1 rfl (lv_at hl 0 rfl) ?_
  refine r_get (v' := .int (nI n)) hx hb hts in_J5_append_3fe6f_J4 hown w 0 0 rfl rfl (ci := 1) rfl 3 (by decide) (hts _ (List.mem_of_getElem? (i := 1) rfl)) rfl rfl rfl dJ5_append_3fe6f_2 ?_
  refine lv_iconst (v := 1) hx hb dJ5_append_3fe6f_5 (by decide) ?_
  refine lv_iadd hx hb dJ5_append_3fe6f_6 ?_
  refine r_eq (y := (nI (n + 1))) (nI_add n 1) ?_
  refine j_vU (As := [.int (nI (n + 1))]) (rest := []) (Rs := []) (Bs' := [soB sb va ml n, baB ty va f]) ⟨hx, hb, hml, hown, hts⟩ hj w (c_J5_ensureCapacityInternal_d00df l J D ty sb va ml n f (n + 1) (by omega)) (va_cwU 1 hts gJ5_append_3fe6f_J5_ensureCapacityInternal_d00df_u100J4 rfl rfl rfl rfl hdN_J5_ensureCapacityInternal_d00df ⟨Nat.le_of_ble_eq_true rfl, Nat.le_of_ble_eq_true rfl⟩) [0, 1] (nB := 2) (by decide) rfl rfl rfl rfl 0 rfl rfl (ci := 1) rfl rfl rfl hl.1 rfl (Nat.le_of_ble_eq_true rfl) dJ5_append_3fe6f_7 ⟨(Nat.zero_le _), (Nat.zero_le _)⟩ (fun H locs w => ?_)
  refine lv_aload_n hx hb dJ5_append_3fe6f_10 rfl (lv_at hl 0 rfl) ?_
  refine j_iU (As := []) (rest := []) (Rs := [baB ty va f]) (Bs' := [soB sb va ml n, baB ty va f]) ⟨hx, hb, hml, hown, hts⟩ hj w (c_J5_isLatin1_aae02 l J D ty sb va ml n) (va_cwU 0 hts gJ5_append_3fe6f_J5_isLatin1_aae02_u83J4 rfl rfl rfl rfl hdN_J5_isLatin1_aae02 ⟨Nat.le_of_ble_eq_true rfl, Nat.le_of_ble_eq_true rfl⟩) [0, 1] (nB := 2) (by decide) rfl rfl rfl rfl 0 rfl rfl (ci := 1) rfl rfl rfl hl.1 rfl (Nat.le_of_ble_eq_true rfl) dJ5_append_3fe6f_11 ⟨(Nat.zero_le _), (Nat.zero_le _)⟩ (fun H locs w => ?_)
  refine lv_if_eq (tgt := 45) hx hb dJ5_append_3fe6f_14 (by decide) (fun c14 => ?_) (fun c14 => ?_)
  · exact absurd c14 (by decide)
  · refine lv_iload_n hx hb dJ5_append_3fe6f_17 rfl (lv_at hl 1 rfl) ?_
    refine j_iS (As := [.int (nI q)]) (rest := []) (Rs := [soB sb va ml n, baB ty va f]) (Bs' := [soB sb va ml n, baB ty va f]) ⟨hx, hb, hml, hown, hts⟩ hj w (c_J1_canEncode_fc78d l J D ty q hq) (va_cwS 1 hts gJ5_append_3fe6f_J1_canEncode_fc78d rfl rfl rfl hdN_J1_canEncode_fc78d ⟨Nat.le_of_ble_eq_true rfl, Nat.le_of_ble_eq_true rfl⟩) [0, 1] (nB := 2) (by decide) rfl rfl rfl rfl rfl hl.1 rfl (Nat.le_of_ble_eq_true rfl) dJ5_append_3fe6f_18 ⟨(Nat.zero_le _), (Nat.zero_le _)⟩ (fun H locs w => ?_)
    refine lv_if_eq (tgt := 45) hx hb dJ5_append_3fe6f_21 (by decide) (fun c21 => ?_) (fun c21 => ?_)
    · exact absurd c21 (by decide)
    · refine lv_aload_n hx hb dJ5_append_3fe6f_24 rfl (lv_at hl 0 rfl) ?_
      refine r_get (v' := .ref va) hx hb hts in_J5_append_3fe6f_J4 hown w 0 0 rfl rfl (ci := 1) rfl 0 (by decide) (hts _ (List.mem_of_getElem? (i := 2) rfl)) rfl rfl rfl dJ5_append_3fe6f_25 ?_
      refine lv_aload_n hx hb dJ5_append_3fe6f_28 rfl (lv_at hl 0 rfl) ?_
      refine lv_dup hx hb dJ5_append_3fe6f_29 rfl ?_
      refine r_get (v' := .int (nI n)) hx hb hts in_J5_append_3fe6f_J4 hown w 0 0 rfl rfl (ci := 1) rfl 3 (by decide) (hts _ (List.mem_of_getElem? (i := 1) rfl)) rfl rfl rfl dJ5_append_3fe6f_30 ?_
      refine lv_dup_x1 hx hb dJ5_append_3fe6f_33 rfl rfl ?_
      refine lv_iconst (v := 1) hx hb dJ5_append_3fe6f_34 (by decide) ?_
      refine lv_iadd hx hb dJ5_append_3fe6f_35 ?_
      refine r_eq (y := (nI (n + 1))) (nI_add n 1) ?_
      refine r_put hx hb hts in_J5_append_3fe6f_J4 tyJ4 tyJ4_ok nmJ4 hown w 0 0 rfl rfl (ci := 1) rfl 3 (by decide) (hts _ (List.mem_of_getElem? (i := 1) rfl)) rfl rfl (ty := .int) (by decide +kernel) rfl rfl (Nat.le_of_ble_eq_true rfl) (soB sb va ml (n + 1)) rfl [soB sb va ml (n + 1), baB ty va f] rfl dJ5_append_3fe6f_36 (fun H locs w => ?_)
      refine lv_iload_n hx hb dJ5_append_3fe6f_39 rfl (lv_at hl 1 rfl) ?_
      refine lv_i2b (v := (nI q)) hx hb dJ5_append_3fe6f_40 (jb_i2b q hq) ?_
      refine r_bast hx hb w 1 0 rfl rfl 4 rfl n (by omega) (Nat.le_of_ble_eq_true rfl) rfl (jb_nar q hq) (baB ty va (upd f n (nI q))) rfl [soB sb va ml (n + 1), baB ty va (upd f n (nI q))] rfl dJ5_append_3fe6f_41 (fun H locs w => ?_)
      refine lv_goto (tgt := 75) hx hb dJ5_append_3fe6f_42 (by decide) ?_
      refine lv_aload_n hx hb dJ5_append_3fe6f_75 rfl (lv_at hl 0 rfl) ?_
      exact e_r hx hb hr hlocks (w.cast (by rw [putL_1])) dJ5_append_3fe6f_76 (Nat.le_refl _) (Nat.le_refl _)

theorem hdN_J4_append_cf468 : yJ4_append_cf468.cls ≠ "java/lang/invoke/MethodHandle" ∧ yJ4_append_cf468.cls ≠ "java/lang/invoke/VarHandle" ∧ (parseMethodDescriptor yJ4_append_cf468.desc).map (fun d => d.parameters.length) = some 1 := by decide +kernel
theorem hdS_J4_append_cf468 : yJ4_append_cf468.name ≠ "<init>" ∧ (parseMethodDescriptor yJ4_append_cf468.desc).map (fun d => d.parameters.length) = some 1 := by decide +kernel
set_option maxRecDepth 100000 in
set_option maxHeartbeats 4000000 in
theorem c_J4_append_cf468 (l : Launch) (J : Nat → Nat) (D : va_G) (ty : Nat → ClassId) (sb va : Nat) (ml : Int32) (n : Nat) (f : pS) (q : Nat) (hq : q < 128) (hn : n < 16) : Jr J l yJ4_append_cf468 wsJ4_append_cf468 (kR 2 43 0 0) D (kTY ty) [.ref sb, .int (nI q)] [soB sb va ml n, baB ty va f] [soB sb va ml (n + 1), baB ty va (putL f n [nI q])] sb 0 0 := by
  refine m_jr (cc := cJ4_append_cf468) (maxL := 2) (ret := (some (.object "java/lang/StringBuilder"))) (by decide +kernel) rfl (Nat.le_of_ble_eq_true rfl) ?_
  intro p e s m below meth c A ls hx hb hml hr hlocks hown hts hj w hl
  have hown : s.vm.findClass RJ4 = some m.cls := hown
  have hl : lv_has ls 2 [(0, .ref sb), (1, .int (nI q))] := hl
  refine lv_aload_n hx hb dJ4_append_cf468_0 rfl (lv_at hl 0 rfl) ?_
  refine lv_iload_n hx hb dJ4_append_cf468_1 rfl (lv_at hl 1 rfl) ?_
  refine j_rSU (As := [.int (nI q)]) (rest := []) (Rs := []) (Bs' := [soB sb va ml (n + 1), baB ty va (putL f n [nI q])]) ⟨hx, hb, hml, hown, hts⟩ hj w (c_J5_append_3fe6f l J D ty sb va ml n f q hq hn) (va_cwSU 1 hts gJ4_append_cf468_J5_append_3fe6f_s50 rfl rfl rfl hdS_J5_append_3fe6f ⟨Nat.le_of_ble_eq_true rfl, Nat.le_of_ble_eq_true rfl⟩) [0, 1] (nB := 2) (by decide) rfl rfl rfl rfl 0 rfl rfl (ci := 1) rfl rfl rfl hl.1 rfl (Nat.le_of_ble_eq_true rfl) dJ4_append_cf468_2 ⟨(Nat.zero_le _), (Nat.zero_le _)⟩ (fun H locs w => ?_)
  refine lv_pop hx hb dJ4_append_cf468_5 rfl ?_
  refine lv_aload_n hx hb dJ4_append_cf468_6 rfl (lv_at hl 0 rfl) ?_
  exact e_r hx hb hr hlocks w dJ4_append_cf468_7 (Nat.le_refl _) (Nat.le_refl _)

theorem hdN_J6_stringSize_0f7a4 : yJ6_stringSize_0f7a4.cls ≠ "java/lang/invoke/MethodHandle" ∧ yJ6_stringSize_0f7a4.cls ≠ "java/lang/invoke/VarHandle" ∧ (parseMethodDescriptor yJ6_stringSize_0f7a4.desc).map (fun d => d.parameters.length) = some 1 := by decide +kernel
theorem hdS_J6_stringSize_0f7a4 : yJ6_stringSize_0f7a4.name ≠ "<init>" ∧ (parseMethodDescriptor yJ6_stringSize_0f7a4.desc).map (fun d => d.parameters.length) = some 1 := by decide +kernel
set_option maxRecDepth 100000 in
set_option maxHeartbeats 4000000 in
theorem c_J6_stringSize_0f7a4 (l : Launch) (J : Nat → Nat) (D : va_G) (ty : Nat → ClassId) (v : Nat) (hv : v < 10 ^ 7) : Ji J l yJ6_stringSize_0f7a4 wsJ6_stringSize_0f7a4 (kR 0 0 0 0) D (kTY ty) [.int (nI v)] [] [] (nI (dgE 9 v + 1)) 0 0 := by
  refine m_ji (cc := cJ6_stringSize_0f7a4) (maxL := 4) (ret := (some .int)) (by decide +kernel) rfl (Nat.le_of_ble_eq_true rfl) ?_
  intro p e s m below meth c A ls hx hb hml hr hlocks hown hts hj w hl
  have hown : s.vm.findClass RJ6 = some m.cls := hown
  have hl : lv_has ls 4 [(0, .int (nI v))] := hl
  refine lv_iconst (v := 1) hx hb dJ6_stringSize_0f7a4_0 (by decide) ?_
  refine lv_istore_n (lv' := [(1, .int 1), (0, .int (nI v))]) hx hb dJ6_stringSize_0f7a4_1 rfl hl (by decide) rfl (fun ls hl => ?_)
  refine lv_iload_n hx hb dJ6_stringSize_0f7a4_2 rfl (lv_at hl 1 rfl) ?_
  refine lv_if_lt (tgt := 11) hx hb dJ6_stringSize_0f7a4_3 (by decide) (fun c3 => ?_) (fun c3 => ?_)
  · exact absurd c3 (nI_pos (by omega))
  · refine lv_iconst (v := 0) hx hb dJ6_stringSize_0f7a4_6 (by decide) ?_
    refine lv_istore_n (lv' := [(1, .int 0), (0, .int (nI v))]) hx hb dJ6_stringSize_0f7a4_7 rfl hl (by decide) rfl (fun ls hl => ?_)
    refine lv_iload_n hx hb dJ6_stringSize_0f7a4_8 rfl (lv_at hl 1 rfl) ?_
    refine lv_ineg hx hb dJ6_stringSize_0f7a4_9 ?_
    refine lv_istore_n (lv' := [(0, .int (-(nI v))), (1, .int 0)]) hx hb dJ6_stringSize_0f7a4_10 rfl hl (by decide) rfl (fun ls hl => ?_)
    refine lv_bipush (v := (-10)) hx hb dJ6_stringSize_0f7a4_11 (by decide) ?_
    refine r_eq (y := (-nI (10 ^ (0 + 1)))) (by decide) ?_
    refine lv_istore_n (lv' := [(2, .int (-nI (10 ^ (0 + 1)))), (0, .int (-(nI v))), (1, .int 0)]) hx hb dJ6_stringSize_0f7a4_13 rfl hl (by decide) rfl (fun ls hl => ?_)
    refine lv_iconst (v := 1) hx hb dJ6_stringSize_0f7a4_14 (by decide) ?_
    refine lv_istore_n (lv' := [(3, .int 1), (2, .int (-nI (10 ^ (0 + 1)))), (0, .int (-(nI v))), (1, .int 0)]) hx hb dJ6_stringSize_0f7a4_15 rfl hl (by decide) rfl (fun ls hl => ?_)
    refine k_loop (fun k H locs ls => kW D (kTY ty) A s.heap s H locs [] ∧ lv_has ls 4 [(0, .int (-nI v)), (1, .int 0), (2, .int (-nI (10 ^ (k + 1)))), (3, .int (nI (k + 1)))] ∧ (10 ^ k ≤ v ∨ k = 0)) 7 0 (by omega) ⟨w, lv_sub hl [2, 3, 1, 0] rfl, (Or.inr rfl)⟩ ?_
    intro k hk0 hk ihk H locs ls hI
    obtain ⟨w, hl, h10⟩ := hI
    refine lv_iload_n hx hb dJ6_stringSize_0f7a4_16 rfl (lv_at hl 3 rfl) ?_
    refine lv_bipush (v := 10) hx hb dJ6_stringSize_0f7a4_17 (by decide) ?_
    refine lv_icmp_ge (tgt := 42) hx hb dJ6_stringSize_0f7a4_19 (by decide) (fun c19 => ?_) (fun c19 => ?_)
    · have c19 := (nI_leI (a := 10) (b := (k + 1)) (by omega) (by omega)).mp c19
      exact absurd c19 (by omega)
    · have c19 := mt (nI_leI (a := 10) (b := (k + 1)) (by omega) (by omega)).mpr c19
      have hp := Nat.pow_le_pow_right (n := 10) (by omega) (show k + 1 ≤ 8 by omega)
      refine lv_iload_n hx hb dJ6_stringSize_0f7a4_22 rfl (lv_at hl 0 rfl) ?_
      refine lv_iload_n hx hb dJ6_stringSize_0f7a4_23 rfl (lv_at hl 2 rfl) ?_
      refine lv_icmp_le (tgt := 31) hx hb dJ6_stringSize_0f7a4_24 (by decide) (fun c24 => ?_) (fun c24 => ?_)
      · have hle : 10 ^ (k + 1) ≤ v := (sb_nle (by omega) (by omega)).mp c24
        have hk7 : k < 7 := Nat.lt_of_not_le (fun q => by have := Nat.pow_le_pow_right (n := 10) (by omega) (show 7 ≤ k + 1 by omega); omega)
        refine lv_bipush (v := 10) hx hb dJ6_stringSize_0f7a4_31 (by decide) ?_
        refine lv_iload_n hx hb dJ6_stringSize_0f7a4_33 rfl (lv_at hl 2 rfl) ?_
        refine lv_imul hx hb dJ6_stringSize_0f7a4_34 ?_
        refine r_eq (y := (-nI (10 ^ (k + 1 + 1)))) (by rw [jb_m10, Nat.mul_comm, ← Nat.pow_succ]) ?_
        refine lv_istore_n (lv' := [(2, .int (-nI (10 ^ (k + 1 + 1)))), (0, .int (-nI v)), (1, .int 0), (3, .int (nI (k + 1)))]) hx hb dJ6_stringSize_0f7a4_35 rfl hl (by decide) rfl (fun ls hl => ?_)
        refine lv_iinc (v := (nI ((k + 1) + 1))) (lv' := [(3, .int (nI ((k + 1) + 1))), (2, .int (-nI (10 ^ (k + 1 + 1)))), (0, .int (-nI v)), (1, .int 0)]) hx hb dJ6_stringSize_0f7a4_36 hl (k := 3) rfl (inc1 (k + 1)) (by decide) rfl (fun ls hl => ?_)
        refine lv_goto (tgt := 16) hx hb dJ6_stringSize_0f7a4_39 (by decide) ?_
        exact ihk _ _ _ ⟨w, lv_sub hl [2, 3, 1, 0] rfl, (Or.inl hle)⟩ (by omega)
      · have hlt : v < 10 ^ (k + 1) := Nat.lt_of_not_le (fun q => c24 ((sb_nle (by omega) (by omega)).mpr q))
        refine lv_iload_n hx hb dJ6_stringSize_0f7a4_27 rfl (lv_at hl 3 rfl) ?_
        refine lv_iload_n hx hb dJ6_stringSize_0f7a4_28 rfl (lv_at hl 1 rfl) ?_
        refine lv_iadd hx hb dJ6_stringSize_0f7a4_29 ?_
        refine r_eq (y := (nI ((k + 1) + 0))) (nI_add (k + 1) 0) ?_
        exact e_i hx hb hr hlocks w (by rw [dg_of (by omega) h10 hlt]) dJ6_stringSize_0f7a4_30 (Nat.le_refl _) (Nat.le_refl _)

theorem hdN_J6_getChars_ba4f3 : yJ6_getChars_ba4f3.cls ≠ "java/lang/invoke/MethodHandle" ∧ yJ6_getChars_ba4f3.cls ≠ "java/lang/invoke/VarHandle" ∧ (parseMethodDescriptor yJ6_getChars_ba4f3.desc).map (fun d => d.parameters.length) = some 3 := by decide +kernel
theorem hdS_J6_getChars_ba4f3 : yJ6_getChars_ba4f3.name ≠ "<init>" ∧ (parseMethodDescriptor yJ6_getChars_ba4f3.desc).map (fun d => d.parameters.length) = some 3 := by decide +kernel
set_option maxRecDepth 100000 in
set_option maxHeartbeats 4000000 in
theorem c_J6_getChars_ba4f3 (l : Launch) (J : Nat → Nat) (D : va_G) (ty : Nat → ClassId) (v : Nat) (hv : v < 10 ^ 7) (n va : Nat) (f : pS) (hn : n + (dgE 9 v + 1) ≤ 16) : Ji J l yJ6_getChars_ba4f3 wsJ6_getChars_ba4f3 (kR 0 0 0 0) D (kTY ty) [.int (nI v), .int (nI (n + (dgE 9 v + 1))), .ref va] [baB ty va f] [baB ty va (putL f n (dig v))] (nI n) 0 0 := by
  refine m_ji (cc := cJ6_getChars_ba4f3) (maxL := 7) (ret := (some .int)) (by decide +kernel) rfl (Nat.le_of_ble_eq_true rfl) ?_
  intro p e s m below meth c A ls hx hb hml hr hlocks hown hts hj w hl
  have hown : s.vm.findClass RJ6 = some m.cls := hown
  have hl : lv_has ls 7 [(0, .int (nI v)), (1, .int (nI (n + (dgE 9 v + 1)))), (2, .ref va)] := hl
  refine lv_iload_n hx hb dJ6_getChars_ba4f3_0 rfl (lv_at hl 1 rfl) ?_
  refine lv_istore (lv' := [(5, .int (nI (n + (dgE 9 v + 1)))), (0, .int (nI v)), (1, .int (nI (n + (dgE 9 v + 1)))), (2, .ref va)]) hx hb dJ6_getChars_ba4f3_1 hl (by decide) rfl (fun ls hl => ?_)
  refine lv_iload_n hx hb dJ6_getChars_ba4f3_3 rfl (lv_at hl 1 rfl) ?_
  refine lv_if_ge (tgt := 11) hx hb dJ6_getChars_ba4f3_4 (by decide) (fun c4 => ?_) (fun c4 => ?_)
  · refine lv_iconst (v := 0) hx hb dJ6_getChars_ba4f3_11 (by decide) ?_
    refine lv_istore (lv' := [(6, .int 0), (5, .int (nI (n + (dgE 9 v + 1)))), (0, .int (nI v)), (1, .int (nI (n + (dgE 9 v + 1)))), (2, .ref va)]) hx hb dJ6_getChars_ba4f3_12 hl (by decide) rfl (fun ls hl => ?_)
    refine lv_iload hx hb dJ6_getChars_ba4f3_14 (lv_at hl 0 rfl) ?_
    refine lv_if_ne (tgt := 22) hx hb dJ6_getChars_ba4f3_16 (by decide) (fun c16 => ?_) (fun c16 => ?_)
    · exact absurd c16 (by decide)
    · refine lv_iload_n hx hb dJ6_getChars_ba4f3_19 rfl (lv_at hl 2 rfl) ?_
      refine lv_ineg hx hb dJ6_getChars_ba4f3_20 ?_
      refine r_eq (y := (-nI (v / 10 ^ (2 * 0)))) (by rw [Nat.mul_zero, Nat.pow_zero, Nat.div_one]) ?_
      refine lv_istore_n (lv' := [(0, .int (-nI (v / 10 ^ (2 * 0)))), (6, .int 0), (5, .int (nI (n + (dgE 9 v + 1)))), (1, .int (nI (n + (dgE 9 v + 1)))), (2, .ref va)]) hx hb dJ6_getChars_ba4f3_21 rfl hl (by decide) rfl (fun ls hl => ?_)
      refine k_loop (fun k H locs ls => kW D (kTY ty) A s.heap s H locs [baB ty va (putL f ((n + (dgE 9 v + 1)) - 2 * k) (lsD v (2 * k)))] ∧ lv_has ls 7 [(0, .int (-nI (v / 10 ^ (2 * k)))), (2, .ref va), (5, .int (nI ((n + (dgE 9 v + 1)) - 2 * k))), (6, .int 0)] ∧ (2 * k ≤ dgE 9 v)) 4 0 (by omega) ⟨(w.cast (by rw [Nat.mul_zero, Nat.sub_zero, show lsD v 0 = [] from rfl, putL_0])), lv_sub hl [0, 4, 2, 1] rfl, (by omega)⟩ ?_
      intro k hk0 hk ihk H locs ls hI
      obtain ⟨w, hl, hE⟩ := hI
      refine lv_iload_n hx hb dJ6_getChars_ba4f3_22 rfl (lv_at hl 0 rfl) ?_
      refine lv_bipush (v := (-100)) hx hb dJ6_getChars_ba4f3_23 (by decide) ?_
      have hwv := Nat.div_le_self v (10 ^ (2 * k))
      refine lv_icmp_gt (tgt := 72) hx hb dJ6_getChars_ba4f3_25 (by decide) (fun c25 => ?_) (fun c25 => ?_)
      · have hw100 : v / 10 ^ (2 * k) < 100 := (sb_nlt (a := 100) (by omega) (by omega)).mp c25
        refine lv_aload_n hx hb dJ6_getChars_ba4f3_72 rfl (lv_at hl 1 rfl) ?_
        refine lv_iinc (v := (nI ((n + (dgE 9 v + 1)) - 2 * k - 1))) (lv' := [(5, .int (nI ((n + (dgE 9 v + 1)) - 2 * k - 1))), (0, .int (-nI (v / 10 ^ (2 * k)))), (2, .ref va), (6, .int 0)]) hx hb dJ6_getChars_ba4f3_73 hl (k := 2) rfl (sb_m1 (by omega)) (by decide) rfl (fun ls hl => ?_)
        refine lv_iload hx hb dJ6_getChars_ba4f3_76 (lv_at hl 0 rfl) ?_
        refine va_gets hx hb hj.2.1.1 w.2.2.2.1 hown (hts _ (List.mem_of_getElem? (i := 1) rfl)) (fun _ h => h) dJ6_getChars_ba4f3_78 ?_
        refine lv_iload_n hx hb dJ6_getChars_ba4f3_81 rfl (lv_at hl 1 rfl) ?_
        refine lv_ineg hx hb dJ6_getChars_ba4f3_82 ?_
        refine r_eq (y := (nI (v / 10 ^ (2 * k)))) jb_nneg ?_
        refine va_tb (v := .int (jT1 (v / 10 ^ (2 * k)))) hx hb hj.2.1.2 w.2.2.2.1 (vp_in_nI (by omega) (by omega)) (by rw [nI_clamp (by omega)]) dJ6_getChars_ba4f3_83 ?_
        refine r_bast hx hb w 0 0 rfl rfl 4 rfl ((n + (dgE 9 v + 1)) - 2 * k - 1) (by omega) (Nat.le_of_ble_eq_true rfl) rfl (jb_nar _ (by omega)) (baB ty va (upd (putL f ((n + (dgE 9 v + 1)) - 2 * k) (lsD v (2 * k))) ((n + (dgE 9 v + 1)) - 2 * k - 1) (jT1 (v / 10 ^ (2 * k))))) rfl [baB ty va (upd (putL f ((n + (dgE 9 v + 1)) - 2 * k) (lsD v (2 * k))) ((n + (dgE 9 v + 1)) - 2 * k - 1) (jT1 (v / 10 ^ (2 * k))))] rfl dJ6_getChars_ba4f3_84 (fun H locs w => ?_)
        refine lv_iload_n hx hb dJ6_getChars_ba4f3_85 rfl (lv_at hl 1 rfl) ?_
        refine lv_bipush (v := (-9)) hx hb dJ6_getChars_ba4f3_86 (by decide) ?_
        refine lv_icmp_ge (tgt := 104) hx hb dJ6_getChars_ba4f3_88 (by decide) (fun c88 => ?_) (fun c88 => ?_)
        · have hw9 : v / 10 ^ (2 * k) < 10 := by have := (sb_nle (a := 9) (by omega) (by omega)).mp c88; omega
          have hEe : dgE 9 v = 2 * k := by
            have h9 := (Nat.div_lt_iff_lt_mul (Nat.pow_pos (by omega))).mp hw9
            have := dg_hi (j := 2 * k) hv (by rw [Nat.pow_succ]; omega)
            omega
          refine lv_iload hx hb dJ6_getChars_ba4f3_104 (lv_at hl 3 rfl) ?_
          refine lv_if_eq (tgt := 118) hx hb dJ6_getChars_ba4f3_106 (by decide) (fun c106 => ?_) (fun c106 => ?_)
          · refine lv_iload hx hb dJ6_getChars_ba4f3_118 (lv_at hl 0 rfl) ?_
            exact e_i hx hb hr hlocks (w.cast (by rw [show (n + (dgE 9 v + 1)) - 2 * k = n + 1 by omega, ← gc_one rfl hEe]; rfl)) (congrArg nI (show (n + (dgE 9 v + 1)) - 2 * k - 1 = n by omega)) dJ6_getChars_ba4f3_120 (Nat.le_refl _) (Nat.le_refl _)
          · exact absurd c106 (by decide)
        · have hw9 : ¬ v / 10 ^ (2 * k) < 10 := fun q => c88 ((sb_nle (a := 9) (by omega) (by omega)).mpr (by omega))
          have hEe : dgE 9 v = 2 * k + 1 := by
            have h9 := (Nat.div_lt_iff_lt_mul (Nat.pow_pos (by omega))).mp hw100
            have h8 := (Nat.le_div_iff_mul_le (Nat.pow_pos (by omega))).mp (Nat.le_of_not_lt hw9)
            have h7 := dg_hi (j := 2 * k + 1) hv (by rw [Nat.pow_succ, Nat.pow_succ]; omega)
            have h6 := dg_lo (j := 2 * k + 1) hv (by rw [Nat.pow_succ]; omega)
            omega
          refine lv_aload_n hx hb dJ6_getChars_ba4f3_91 rfl (lv_at hl 2 rfl) ?_
          refine lv_iinc (v := (nI ((n + (dgE 9 v + 1)) - 2 * k - 1 - 1))) (lv' := [(5, .int (nI ((n + (dgE 9 v + 1)) - 2 * k - 1 - 1))), (0, .int (-nI (v / 10 ^ (2 * k)))), (2, .ref va), (6, .int 0)]) hx hb dJ6_getChars_ba4f3_92 hl (k := 0) rfl (sb_m1 (by omega)) (by decide) rfl (fun ls hl => ?_)
          refine lv_iload hx hb dJ6_getChars_ba4f3_95 (lv_at hl 0 rfl) ?_
          refine va_gets hx hb hj.2.2.1.1 w.2.2.2.1 hown (hts _ (List.mem_of_getElem? (i := 2) rfl)) (fun _ h => h) dJ6_getChars_ba4f3_97 ?_
          refine lv_iload_n hx hb dJ6_getChars_ba4f3_100 rfl (lv_at hl 1 rfl) ?_
          refine lv_ineg hx hb dJ6_getChars_ba4f3_101 ?_
          refine r_eq (y := (nI (v / 10 ^ (2 * k)))) jb_nneg ?_
          refine va_tb (v := .int (jT2 (v / 10 ^ (2 * k)))) hx hb hj.2.2.1.2 w.2.2.2.1 (vp_in_nI (by omega) (by omega)) (by rw [nI_clamp (by omega)]) dJ6_getChars_ba4f3_102 ?_
          refine r_bast hx hb w 0 0 rfl rfl 4 rfl ((n + (dgE 9 v + 1)) - 2 * k - 1 - 1) (by omega) (Nat.le_of_ble_eq_true rfl) rfl (jb_nar _ (by omega)) (baB ty va (upd (upd (putL f ((n + (dgE 9 v + 1)) - 2 * k) (lsD v (2 * k))) ((n + (dgE 9 v + 1)) - 2 * k - 1) (jT1 (v / 10 ^ (2 * k)))) ((n + (dgE 9 v + 1)) - 2 * k - 1 - 1) (jT2 (v / 10 ^ (2 * k))))) rfl [baB ty va (upd (upd (putL f ((n + (dgE 9 v + 1)) - 2 * k) (lsD v (2 * k))) ((n + (dgE 9 v + 1)) - 2 * k - 1) (jT1 (v / 10 ^ (2 * k)))) ((n + (dgE 9 v + 1)) - 2 * k - 1 - 1) (jT2 (v / 10 ^ (2 * k))))] rfl dJ6_getChars_ba4f3_103 (fun H locs w => ?_)
          refine lv_iload hx hb dJ6_getChars_ba4f3_104 (lv_at hl 3 rfl) ?_
          refine lv_if_eq (tgt := 118) hx hb dJ6_getChars_ba4f3_106 (by decide) (fun c106 => ?_) (fun c106 => ?_)
          · refine lv_iload hx hb dJ6_getChars_ba4f3_118 (lv_at hl 0 rfl) ?_
            exact e_i hx hb hr hlocks (w.cast (by rw [show (n + (dgE 9 v + 1)) - 2 * k = n + 2 by omega, ← gc_two rfl hEe hw100]; rfl)) (congrArg nI (show (n + (dgE 9 v + 1)) - 2 * k - 1 - 1 = n by omega)) dJ6_getChars_ba4f3_120 (Nat.le_refl _) (Nat.le_refl _)
          · exact absurd c106 (by decide)
      · have hw100 : 100 ≤ v / 10 ^ (2 * k) := Nat.le_of_not_lt (fun q => c25 ((sb_nlt (a := 100) (by omega) (by omega)).mpr q))
        have hle : 10 ^ (2 * k + 2) ≤ v := by
          have h9 := (Nat.le_div_iff_mul_le (Nat.pow_pos (by omega))).mp hw100
          rw [Nat.pow_add]
          omega
        have hE2 : 2 * (k + 1) ≤ dgE 9 v := dg_lo hv hle
        have hE6 := (dg_in hv).2.2
        refine lv_iload_n hx hb dJ6_getChars_ba4f3_28 rfl (lv_at hl 0 rfl) ?_
        refine lv_bipush (v := 100) hx hb dJ6_getChars_ba4f3_29 (by decide) ?_
        refine lv_idiv hx hb dJ6_getChars_ba4f3_31 (by decide) ?_
        refine r_eq (y := (-nI (v / 10 ^ (2 * (k + 1))))) (gc_div hv) ?_
        refine lv_istore_n (lv' := [(3, .int (-nI (v / 10 ^ (2 * (k + 1))))), (0, .int (-nI (v / 10 ^ (2 * k)))), (2, .ref va), (5, .int (nI ((n + (dgE 9 v + 1)) - 2 * k))), (6, .int 0)]) hx hb dJ6_getChars_ba4f3_32 rfl hl (by decide) rfl (fun ls hl => ?_)
        refine lv_iload_n hx hb dJ6_getChars_ba4f3_33 rfl (lv_at hl 0 rfl) ?_
        refine lv_bipush (v := 100) hx hb dJ6_getChars_ba4f3_34 (by decide) ?_
        refine lv_imul hx hb dJ6_getChars_ba4f3_36 ?_
        refine lv_iload_n hx hb dJ6_getChars_ba4f3_37 rfl (lv_at hl 1 rfl) ?_
        refine lv_isub hx hb dJ6_getChars_ba4f3_38 ?_
        refine r_eq (y := (nI ((v / 10 ^ (2 * k)) % 100))) (gc_rem hv) ?_
        refine lv_istore (lv' := [(4, .int (nI ((v / 10 ^ (2 * k)) % 100))), (3, .int (-nI (v / 10 ^ (2 * (k + 1))))), (0, .int (-nI (v / 10 ^ (2 * k)))), (2, .ref va), (5, .int (nI ((n + (dgE 9 v + 1)) - 2 * k))), (6, .int 0)]) hx hb dJ6_getChars_ba4f3_39 hl (by decide) rfl (fun ls hl => ?_)
        refine lv_iload_n hx hb dJ6_getChars_ba4f3_41 rfl (lv_at hl 1 rfl) ?_
        refine lv_istore_n (lv' := [(0, .int (-nI (v / 10 ^ (2 * (k + 1))))), (4, .int (nI ((v / 10 ^ (2 * k)) % 100))), (3, .int (-nI (v / 10 ^ (2 * (k + 1))))), (2, .ref va), (5, .int (nI ((n + (dgE 9 v + 1)) - 2 * k))), (6, .int 0)]) hx hb dJ6_getChars_ba4f3_42 rfl hl (by decide) rfl (fun ls hl => ?_)
        refine lv_aload_n hx hb dJ6_getChars_ba4f3_43 rfl (lv_at hl 3 rfl) ?_
        refine lv_iinc (v := (nI ((n + (dgE 9 v + 1)) - 2 * k - 1))) (lv' := [(5, .int (nI ((n + (dgE 9 v + 1)) - 2 * k - 1))), (0, .int (-nI (v / 10 ^ (2 * (k + 1))))), (4, .int (nI ((v / 10 ^ (2 * k)) % 100))), (3, .int (-nI (v / 10 ^ (2 * (k + 1))))), (2, .ref va), (6, .int 0)]) hx hb dJ6_getChars_ba4f3_44 hl (k := 4) rfl (sb_m1 (by omega)) (by decide) rfl (fun ls hl => ?_)
        refine lv_iload hx hb dJ6_getChars_ba4f3_47 (lv_at hl 0 rfl) ?_
        refine va_gets hx hb hj.2.1.1 w.2.2.2.1 hown (hts _ (List.mem_of_getElem? (i := 1) rfl)) (fun _ h => h) dJ6_getChars_ba4f3_49 ?_
        refine lv_iload hx hb dJ6_getChars_ba4f3_52 (lv_at hl 2 rfl) ?_
        refine va_tb (v := .int (jT1 ((v / 10 ^ (2 * k)) % 100))) hx hb hj.2.1.2 w.2.2.2.1 (vp_in_nI (by omega) (by omega)) (by rw [nI_clamp (by omega)]) dJ6_getChars_ba4f3_54 ?_
        refine r_bast hx hb w 0 0 rfl rfl 4 rfl ((n + (dgE 9 v + 1)) - 2 * k - 1) (by omega) (Nat.le_of_ble_eq_true rfl) rfl (jb_nar _ (by omega)) (baB ty va (upd (putL f ((n + (dgE 9 v + 1)) - 2 * k) (lsD v (2 * k))) ((n + (dgE 9 v + 1)) - 2 * k - 1) (jT1 ((v / 10 ^ (2 * k)) % 100)))) rfl [baB ty va (upd (putL f ((n + (dgE 9 v + 1)) - 2 * k) (lsD v (2 * k))) ((n + (dgE 9 v + 1)) - 2 * k - 1) (jT1 ((v / 10 ^ (2 * k)) % 100)))] rfl dJ6_getChars_ba4f3_55 (fun H locs w => ?_)
        refine lv_aload_n hx hb dJ6_getChars_ba4f3_56 rfl (lv_at hl 4 rfl) ?_
        refine lv_iinc (v := (nI ((n + (dgE 9 v + 1)) - 2 * k - 1 - 1))) (lv' := [(5, .int (nI ((n + (dgE 9 v + 1)) - 2 * k - 1 - 1))), (0, .int (-nI (v / 10 ^ (2 * (k + 1))))), (4, .int (nI ((v / 10 ^ (2 * k)) % 100))), (3, .int (-nI (v / 10 ^ (2 * (k + 1))))), (2, .ref va), (6, .int 0)]) hx hb dJ6_getChars_ba4f3_57 hl (k := 0) rfl (sb_m1 (by omega)) (by decide) rfl (fun ls hl => ?_)
        refine lv_iload hx hb dJ6_getChars_ba4f3_60 (lv_at hl 0 rfl) ?_
        refine va_gets hx hb hj.2.2.1.1 w.2.2.2.1 hown (hts _ (List.mem_of_getElem? (i := 2) rfl)) (fun _ h => h) dJ6_getChars_ba4f3_62 ?_
        refine lv_iload hx hb dJ6_getChars_ba4f3_65 (lv_at hl 2 rfl) ?_
        refine va_tb (v := .int (jT2 ((v / 10 ^ (2 * k)) % 100))) hx hb hj.2.2.1.2 w.2.2.2.1 (vp_in_nI (by omega) (by omega)) (by rw [nI_clamp (by omega)]) dJ6_getChars_ba4f3_67 ?_
        refine r_bast hx hb w 0 0 rfl rfl 4 rfl ((n + (dgE 9 v + 1)) - 2 * k - 1 - 1) (by omega) (Nat.le_of_ble_eq_true rfl) rfl (jb_nar _ (by omega)) (baB ty va (putL f ((n + (dgE 9 v + 1)) - 2 * k - 1 - 1) (lsD v (2 * (k + 1))))) (congrArg (baB ty va) (gc_step (by omega) rfl)) [baB ty va (putL f ((n + (dgE 9 v + 1)) - 2 * k - 1 - 1) (lsD v (2 * (k + 1))))] rfl dJ6_getChars_ba4f3_68 (fun H locs w => ?_)
        refine lv_goto (tgt := 22) hx hb dJ6_getChars_ba4f3_69 (by decide) ?_
        exact ihk _ _ _ ⟨w, lv_sub hl [1, 4, 0, 5] rfl, hE2⟩ (by omega)
  · exact absurd (Int32.not_lt.mp (nI_pos (by omega))) c4
