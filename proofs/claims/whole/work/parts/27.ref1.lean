theorem in_X9_thrown_X9 : ∀ w ∈ wsX90, w ∈ wsX9_thrown := by decide +kernel
theorem hdN_X9_thrown : yX9_thrown.cls ≠ "java/lang/invoke/MethodHandle" ∧ yX9_thrown.cls ≠ "java/lang/invoke/VarHandle" ∧ (parseMethodDescriptor yX9_thrown.desc).map (fun d => d.parameters.length) = some 0 := by decide +kernel
set_option maxRecDepth 100000 in
set_option maxHeartbeats 4000000 in
theorem c_X9_thrown (l : Launch) (D : va_G) (ty : Nat → ClassId) (r : Nat → Nat) (F : pS)  : Mi l yX9_thrown wsX9_thrown (kR 0 0 0 0) D (kTY ty) [.ref (r 0)] [moB r F] [moB r F] (F 7) 0 0 := by
  refine m_i (cc := cX9_thrown) (maxL := 1) (ret := (some .int)) (by decide +kernel) rfl (Nat.le_of_ble_eq_true rfl) ?_
  intro p e s m below meth c A ls hx hb hml hr hlocks hown hts w hl
  have hown : s.vm.findClass RX9 = some m.cls := hown
  have hl : lv_has ls 1 [(0, .ref (r 0))] := hl
  refine lv_aload_n hx hb dX9_thrown_0 rfl (lv_at hl 0 rfl) ?_
  refine r_get (v' := .int (F 7)) hx hb hts in_X9_thrown_X9 hown w 0 0 rfl rfl (ci := 13) rfl 7 (by decide) (hts _ (List.mem_of_getElem? (i := 1) rfl)) rfl rfl rfl dX9_thrown_1 ?_
  exact e_i hx hb hr hlocks w rfl dX9_thrown_4 (Nat.le_refl _) (Nat.le_refl _)

theorem hdN_X9_isIn : yX9_isIn.cls ≠ "java/lang/invoke/MethodHandle" ∧ yX9_isIn.cls ≠ "java/lang/invoke/VarHandle" ∧ (parseMethodDescriptor yX9_isIn.desc).map (fun d => d.parameters.length) = some 3 := by decide +kernel
set_option maxRecDepth 100000 in
set_option maxHeartbeats 4000000 in
theorem c_X9_isIn (l : Launch) (D : va_G) (ty : Nat → ClassId) (v x y : Int32)  : Mi l yX9_isIn wsX9_isIn (kR 0 0 0 0) D (kTY ty) [.int v, .int x, .int y] [] [] (bI (pIn v x y)) 0 0 := by
  refine m_i (cc := cX9_isIn) (maxL := 3) (ret := (some .boolean)) (by decide +kernel) rfl (Nat.le_of_ble_eq_true rfl) ?_
  intro p e s m below meth c A ls hx hb hml hr hlocks hown hts w hl
  have hown : s.vm.findClass RX9 = some m.cls := hown
  have hl : lv_has ls 3 [(0, .int v), (1, .int x), (2, .int y)] := hl
  refine lv_iload_n hx hb dX9_isIn_0 rfl (lv_at hl 0 rfl) ?_
  refine lv_iload_n hx hb dX9_isIn_1 rfl (lv_at hl 1 rfl) ?_
  refine lv_icmp_lt (tgt := 14) hx hb dX9_isIn_2 (by decide) (fun c2 => ?_) (fun c2 => ?_)
  · refine lv_iconst (v := 0) hx hb dX9_isIn_14 (by decide) ?_
    exact e_z (ty := .boolean) hx hb hr rfl hlocks w (ii_0 c2) dX9_isIn_15 (Nat.le_refl _) (Nat.le_refl _)
  · refine lv_iload_n hx hb dX9_isIn_5 rfl (lv_at hl 0 rfl) ?_
    refine lv_iload_n hx hb dX9_isIn_6 rfl (lv_at hl 2 rfl) ?_
    refine lv_icmp_gt (tgt := 14) hx hb dX9_isIn_7 (by decide) (fun c7 => ?_) (fun c7 => ?_)
    · refine lv_iconst (v := 0) hx hb dX9_isIn_14 (by decide) ?_
      exact e_z (ty := .boolean) hx hb hr rfl hlocks w (ii_1 c7) dX9_isIn_15 (Nat.le_refl _) (Nat.le_refl _)
    · refine lv_iconst (v := 1) hx hb dX9_isIn_10 (by decide) ?_
      refine lv_goto (tgt := 15) hx hb dX9_isIn_11 (by decide) ?_
      exact e_z (ty := .boolean) hx hb hr rfl hlocks w (ii_2 c2 c7) dX9_isIn_15 (Nat.le_refl _) (Nat.le_refl _)

theorem hdN_X9_copies : yX9_copies.cls ≠ "java/lang/invoke/MethodHandle" ∧ yX9_copies.cls ≠ "java/lang/invoke/VarHandle" ∧ (parseMethodDescriptor yX9_copies.desc).map (fun d => d.parameters.length) = some 4 := by decide +kernel
set_option maxRecDepth 100000 in
set_option maxHeartbeats 4000000 in
theorem c_X9_copies (l : Launch) (D : va_G) (ty : Nat → ClassId) (a b N M : Nat) (f g : Nat → Int32) (u v : Nat) (hu : u + 215 ≤ N) (hv : v + 215 ≤ M) (hN : N ≤ 1720) (hM : M ≤ 1720)  : Mv l yX9_copies wsX9_copies (kR 0 0 0 0) D (kTY ty) [.ref a, .int (nI u), .ref b, .int (nI v)] [arB ty a N f, arB ty b M g] [arB ty a N f, arB ty b M (cp3 f u g v 215)] 0 0 := by
  refine m_v (cc := cX9_copies) (maxL := 5) (ret := none) (by decide +kernel) rfl (Nat.le_of_ble_eq_true rfl) ?_
  intro p e s m below meth c A ls hx hb hml hr hlocks hown hts w hl
  have hown : s.vm.findClass RX9 = some m.cls := hown
  have hl : lv_has ls 5 [(0, .ref a), (1, .int (nI u)), (2, .ref b), (3, .int (nI v))] := hl
  refine lv_iconst (v := 0) hx hb dX9_copies_0 (by decide) ?_
  refine lv_istore (lv' := [(4, .int 0), (0, .ref a), (1, .int (nI u)), (2, .ref b), (3, .int (nI v))]) hx hb dX9_copies_1 hl (by decide) rfl (fun ls hl => ?_)
  refine k_loop (fun k H locs ls => kW D (kTY ty) A s.heap s H locs [arB ty a N f, arB ty b M (cp3 f u g v k)] ∧ lv_has ls 5 [(0, .ref a), (1, .int (nI u)), (2, .ref b), (3, .int (nI v)), (4, .int (nI k))]) 215 0 (by omega) ⟨(w.cast (by rw [cp3_0])), lv_sub hl [1, 2, 3, 4, 0] rfl⟩ ?_
  intro k hk0 hk ihk H locs ls hI
  obtain ⟨w, hl⟩ := hI
  refine lv_iload hx hb dX9_copies_3 (lv_at hl 4 rfl) ?_
  refine lv_sipush (v := 215) hx hb dX9_copies_5 (by decide) ?_
  refine lv_icmp_ge (tgt := 29) hx hb dX9_copies_8 (by decide) (fun c8 => ?_) (fun c8 => ?_)
  · have c8 := (nI_leI (a := 215) (b := k) (by omega) (by omega)).mp c8
    obtain rfl : 215 = k := by omega
    exact e_v hx hb hr hlocks w dX9_copies_29 (Nat.le_refl _) (Nat.le_refl _)
  · have c8 := mt (nI_leI (a := 215) (b := k) (by omega) (by omega)).mpr c8
    refine lv_aload_n hx hb dX9_copies_11 rfl (lv_at hl 2 rfl) ?_
    refine lv_iload_n hx hb dX9_copies_12 rfl (lv_at hl 3 rfl) ?_
    refine lv_iload hx hb dX9_copies_13 (lv_at hl 4 rfl) ?_
    refine lv_iadd hx hb dX9_copies_15 ?_
    refine r_eq (y := (nI (v + k))) (nI_add v k) ?_
    refine lv_aload_n hx hb dX9_copies_16 rfl (lv_at hl 0 rfl) ?_
    refine lv_iload_n hx hb dX9_copies_17 rfl (lv_at hl 1 rfl) ?_
    refine lv_iload hx hb dX9_copies_18 (lv_at hl 4 rfl) ?_
    refine lv_iadd hx hb dX9_copies_20 ?_
    refine r_eq (y := (nI (u + k))) (nI_add u k) ?_
    refine r_iald (v := (f (u + k))) hx hb w 0 0 rfl rfl 0 rfl (u + k) (by omega) (by omega) rfl rfl dX9_copies_21 ?_
    refine r_iast hx hb w 1 0 rfl rfl 0 rfl (v + k) (by omega) (by omega) rfl (arB ty b M (cp3 f u g v (k + 1))) (by rw [← cp3_s]; rfl) [arB ty a N f, arB ty b M (cp3 f u g v (k + 1))] rfl dX9_copies_22 (fun H locs w => ?_)
    refine lv_iinc (v := (nI (k + 1))) (lv' := [(4, .int (nI (k + 1))), (0, .ref a), (1, .int (nI u)), (2, .ref b), (3, .int (nI v))]) hx hb dX9_copies_23 hl (k := 4) rfl (inc1 k) (by decide) rfl (fun ls hl => ?_)
    refine lv_goto (tgt := 3) hx hb dX9_copies_26 (by decide) ?_
    exact ihk _ _ _ ⟨w, lv_sub hl [1, 2, 3, 4, 0] rfl⟩ (by omega)

theorem c_cpS (l : Launch) (D : va_G) (ty : Nat → ClassId) (a b : Nat) (S T : pS) : Mv l yX9_copies wsX9_copies (kR 0 0 0 0) D (kTY ty) [.ref a, .int 0, .ref b, .int 0] [arB ty a 215 (sqA 215 S), arB ty b 215 (sqA 215 T)] [arB ty a 215 (sqA 215 S), arB ty b 215 (sqA 215 S)] 0 0 := by
  have h := c_X9_copies l D ty a b 215 215 (sqA 215 S) (sqA 215 T) 0 0 (by omega) (by omega) (by omega) (by omega)
  rw [cp3_ss] at h
  exact h
theorem c_cpH (l : Launch) (D : va_G) (ty : Nat → ClassId) (a b : Nat) (S : pS) (HA : Nat → Int32) (k : Nat) (hk : k < 8) : Mv l yX9_copies wsX9_copies (kR 0 0 0 0) D (kTY ty) [.ref a, .int 0, .ref b, .int (nI (k * 215))] [arB ty a 215 (sqA 215 S), arB ty b 1720 HA] [arB ty a 215 (sqA 215 S), arB ty b 1720 (hPut HA k S)] 0 0 := by
  have h := c_X9_copies l D ty a b 215 1720 (sqA 215 S) HA 0 (k * 215) (by omega) (by omega) (by omega) (by omega)
  rw [cp3_sh] at h
  exact h
theorem c_cpG (l : Launch) (D : va_G) (ty : Nat → ClassId) (a b : Nat) (HA : Nat → Int32) (S : pS) (k : Nat) (hk : k < 8) : Mv l yX9_copies wsX9_copies (kR 0 0 0 0) D (kTY ty) [.ref a, .int (nI (k * 215)), .ref b, .int 0] [arB ty a 1720 HA, arB ty b 215 (sqA 215 S)] [arB ty a 1720 HA, arB ty b 215 (sqA 215 (hAt HA k))] 0 0 := by
  have h := c_X9_copies l D ty a b 1720 215 HA (sqA 215 S) (k * 215) 0 (by omega) (by omega) (by omega) (by omega)
  rw [cp3_hs] at h
  exact h

theorem in_X9_hinders_X9 : ∀ w ∈ wsX90, w ∈ wsX9_hinders := by decide +kernel
theorem hdN_X9_hinders : yX9_hinders.cls ≠ "java/lang/invoke/MethodHandle" ∧ yX9_hinders.cls ≠ "java/lang/invoke/VarHandle" ∧ (parseMethodDescriptor yX9_hinders.desc).map (fun d => d.parameters.length) = some 3 := by decide +kernel
set_option maxRecDepth 100000 in
set_option maxHeartbeats 4000000 in
theorem c_X9_hinders (l : Launch) (D : va_G) (ty : Nat → ClassId) (r : Nat → Nat) (F : pS) (b : Bool) (x y : Int32)  : Mv l yX9_hinders wsX9_hinders (kR 0 0 0 0) D (kTY ty) [.ref (r 0), .int (bI b), .int x, .int y] [moB r F] [moB r (hin b x y F)] 0 0 := by
  refine m_v (cc := cX9_hinders) (maxL := 4) (ret := none) (by decide +kernel) rfl (Nat.le_of_ble_eq_true rfl) ?_
  intro p e s m below meth c A ls hx hb hml hr hlocks hown hts w hl
  have hown : s.vm.findClass RX9 = some m.cls := hown
  have hl : lv_has ls 4 [(0, .ref (r 0)), (1, .int (bI b)), (2, .int x), (3, .int y)] := hl
  refine lv_iload_n hx hb dX9_hinders_0 rfl (lv_at hl 1 rfl) ?_
  refine lv_if_eq (tgt := 21) hx hb dX9_hinders_1 (by decide) (fun c1 => ?_) (fun c1 => ?_)
  · have c1 := bI_0.mp c1
    exact e_v hx hb hr hlocks (w.cast (by rw [← hin_0 c1])) dX9_hinders_21 (Nat.le_refl _) (Nat.le_refl _)
  · have c1 := bI_1.mp c1
    refine lv_aload_n hx hb dX9_hinders_4 rfl (lv_at hl 0 rfl) ?_
    refine r_get (v' := .int (F 16)) hx hb hts in_X9_hinders_X9 hown w 0 0 rfl rfl (ci := 13) rfl 16 (by decide) (hts _ (List.mem_of_getElem? (i := 1) rfl)) rfl rfl rfl dX9_hinders_5 ?_
    refine lv_if_ne (tgt := 21) hx hb dX9_hinders_8 (by decide) (fun c8 => ?_) (fun c8 => ?_)
    · exact e_v hx hb hr hlocks (w.cast (by rw [← hin_1 c8])) dX9_hinders_21 (Nat.le_refl _) (Nat.le_refl _)
    · refine lv_aload_n hx hb dX9_hinders_11 rfl (lv_at hl 0 rfl) ?_
      refine lv_iload_n hx hb dX9_hinders_12 rfl (lv_at hl 2 rfl) ?_
      refine r_put hx hb hts in_X9_hinders_X9 tyX9 tyX9_ok nmX9 hown w 0 0 rfl rfl (ci := 13) rfl 16 (by decide) (hts _ (List.mem_of_getElem? (i := 1) rfl)) rfl rfl (ty := .int) (by decide +kernel) rfl rfl (Nat.le_of_ble_eq_true rfl) (moB r (upd F 16 x)) rfl [moB r (upd F 16 x)] rfl dX9_hinders_13 (fun H locs w => ?_)
      refine lv_aload_n hx hb dX9_hinders_16 rfl (lv_at hl 0 rfl) ?_
      refine lv_iload_n hx hb dX9_hinders_17 rfl (lv_at hl 3 rfl) ?_
      refine r_put hx hb hts in_X9_hinders_X9 tyX9 tyX9_ok nmX9 hown w 0 0 rfl rfl (ci := 13) rfl 17 (by decide) (hts _ (List.mem_of_getElem? (i := 2) rfl)) rfl rfl (ty := .int) (by decide +kernel) rfl rfl (Nat.le_of_ble_eq_true rfl) (moB r (upd (upd F 16 x) 17 y)) rfl [moB r (upd (upd F 16 x) 17 y)] rfl dX9_hinders_18 (fun H locs w => ?_)
      exact e_v hx hb hr hlocks (w.cast (by rw [hin_2 c1 c8])) dX9_hinders_21 (Nat.le_refl _) (Nat.le_refl _)

theorem in_X9_begins_X9 : ∀ w ∈ wsX90, w ∈ wsX9_begins := by decide +kernel
theorem hdN_X9_begins : yX9_begins.cls ≠ "java/lang/invoke/MethodHandle" ∧ yX9_begins.cls ≠ "java/lang/invoke/VarHandle" ∧ (parseMethodDescriptor yX9_begins.desc).map (fun d => d.parameters.length) = some 0 := by decide +kernel
set_option maxRecDepth 100000 in
set_option maxHeartbeats 4000000 in
theorem c_X9_begins (l : Launch) (D : va_G) (ty : Nat → ClassId) (r : Nat → Nat) (F S T : pS)  : Mv l yX9_begins wsX9_begins (kR 1 24 0 0) D (kTY ty) [.ref (r 0)] [moB r F, arB ty (r 1) 215 (sqA 215 S), arB ty (r 2) 215 (sqA 215 T)] [moB r (upd F 16 0), arB ty (r 1) 215 (sqA 215 S), arB ty (r 2) 215 (sqA 215 S)] 0 0 := by
  refine m_v (cc := cX9_begins) (maxL := 1) (ret := none) (by decide +kernel) rfl (Nat.le_of_ble_eq_true rfl) ?_
  intro p e s m below meth c A ls hx hb hml hr hlocks hown hts w hl
  have hown : s.vm.findClass RX9 = some m.cls := hown
  have hl : lv_has ls 1 [(0, .ref (r 0))] := hl
  refine lv_aload_n hx hb dX9_begins_0 rfl (lv_at hl 0 rfl) ?_
  refine r_get (v' := .ref (r 1)) hx hb hts in_X9_begins_X9 hown w 0 0 rfl rfl (ci := 13) rfl 0 (by decide) (hts _ (List.mem_of_getElem? (i := 1) rfl)) rfl rfl rfl dX9_begins_1 ?_
  refine lv_iconst (v := 0) hx hb dX9_begins_4 (by decide) ?_
  refine lv_aload_n hx hb dX9_begins_5 rfl (lv_at hl 0 rfl) ?_
  refine r_get (v' := .ref (r 2)) hx hb hts in_X9_begins_X9 hown w 0 0 rfl rfl (ci := 13) rfl 1 (by decide) (hts _ (List.mem_of_getElem? (i := 2) rfl)) rfl rfl rfl dX9_begins_6 ?_
  refine lv_iconst (v := 0) hx hb dX9_begins_9 (by decide) ?_
  refine k_vS (As := [.ref (r 1), .int 0, .ref (r 2), .int 0]) (rest := []) (Rs := [moB r F]) (Bs' := [moB r F, arB ty (r 1) 215 (sqA 215 S), arB ty (r 2) 215 (sqA 215 S)]) ⟨hx, hb, hml, hown, hts⟩ w (c_cpS l D ty (r 1) (r 2) S T) (va_cwS 4 hts gX9_begins_X9_copies rfl rfl rfl hdN_X9_copies ⟨Nat.le_of_ble_eq_true rfl, Nat.le_of_ble_eq_true rfl⟩) [1, 2, 0] (nB := 3) (by decide) rfl rfl rfl rfl rfl hl.1 rfl (Nat.le_of_ble_eq_true rfl) dX9_begins_10 ⟨(Nat.zero_le _), (Nat.zero_le _)⟩ (fun H locs w => ?_)
  refine lv_aload_n hx hb dX9_begins_13 rfl (lv_at hl 0 rfl) ?_
  refine lv_iconst (v := 0) hx hb dX9_begins_14 (by decide) ?_
  refine r_put hx hb hts in_X9_begins_X9 tyX9 tyX9_ok nmX9 hown w 0 0 rfl rfl (ci := 13) rfl 16 (by decide) (hts _ (List.mem_of_getElem? (i := 3) rfl)) rfl rfl (ty := .int) (by decide +kernel) rfl rfl (Nat.le_of_ble_eq_true rfl) (moB r (upd F 16 0)) rfl [moB r (upd F 16 0), arB ty (r 1) 215 (sqA 215 S), arB ty (r 2) 215 (sqA 215 S)] rfl dX9_begins_15 (fun H locs w => ?_)
  exact e_v hx hb hr hlocks w dX9_begins_18 (Nat.le_refl _) (Nat.le_refl _)

theorem in_X9_remembers_X9 : ∀ w ∈ wsX90, w ∈ wsX9_remembers := by decide +kernel
theorem hdN_X9_remembers : yX9_remembers.cls ≠ "java/lang/invoke/MethodHandle" ∧ yX9_remembers.cls ≠ "java/lang/invoke/VarHandle" ∧ (parseMethodDescriptor yX9_remembers.desc).map (fun d => d.parameters.length) = some 0 := by decide +kernel
set_option maxRecDepth 100000 in
set_option maxHeartbeats 4000000 in
theorem c_X9_remembers (l : Launch) (D : va_G) (ty : Nat → ClassId) (r : Nat → Nat) (F T : pS) (HA : Nat → Int32) (z : Nat) (hz : z ≤ 8) (h6 : F 6 = nI z)  : Mv l yX9_remembers wsX9_remembers (kR 1 24 0 0) D (kTY ty) [.ref (r 0)] [moB r F, arB ty (r 2) 215 (sqA 215 T), arB ty (r 5) 1720 HA] [moB r (upd F 6 (nI (hKn z))), arB ty (r 2) 215 (sqA 215 T), arB ty (r 5) 1720 (hKp HA T z)] 0 0 := by
  refine m_v (cc := cX9_remembers) (maxL := 2) (ret := none) (by decide +kernel) rfl (Nat.le_of_ble_eq_true rfl) ?_
  intro p e s m below meth c A ls hx hb hml hr hlocks hown hts w hl
  have hown : s.vm.findClass RX9 = some m.cls := hown
  have hl : lv_has ls 2 [(0, .ref (r 0))] := hl
  refine lv_aload_n hx hb dX9_remembers_0 rfl (lv_at hl 0 rfl) ?_
  refine r_get (v' := .int (nI z)) hx hb hts in_X9_remembers_X9 hown w 0 0 rfl rfl (ci := 13) rfl 6 (by decide) (hts _ (List.mem_of_getElem? (i := 1) rfl)) rfl rfl (congrArg Value.int h6) dX9_remembers_1 ?_
  refine lv_bipush (v := 8) hx hb dX9_remembers_4 (by decide) ?_
  refine lv_icmp_ne (tgt := 50) hx hb dX9_remembers_6 (by decide) (fun c6 => ?_) (fun c6 => ?_)
  · have c6 := mt (nI_eq (a := z) (b := 8) (by omega) (by omega)).mpr c6
    refine lv_aload_n hx hb dX9_remembers_50 rfl (lv_at hl 0 rfl) ?_
    refine r_get (v' := .ref (r 2)) hx hb hts in_X9_remembers_X9 hown w 0 0 rfl rfl (ci := 13) rfl 1 (by decide) (hts _ (List.mem_of_getElem? (i := 3) rfl)) rfl rfl rfl dX9_remembers_51 ?_
    refine lv_iconst (v := 0) hx hb dX9_remembers_54 (by decide) ?_
    refine lv_aload_n hx hb dX9_remembers_55 rfl (lv_at hl 0 rfl) ?_
    refine r_get (v' := .ref (r 5)) hx hb hts in_X9_remembers_X9 hown w 0 0 rfl rfl (ci := 13) rfl 4 (by decide) (hts _ (List.mem_of_getElem? (i := 2) rfl)) rfl rfl rfl dX9_remembers_56 ?_
    refine lv_aload_n hx hb dX9_remembers_59 rfl (lv_at hl 0 rfl) ?_
    refine r_get (v' := .int (nI z)) hx hb hts in_X9_remembers_X9 hown w 0 0 rfl rfl (ci := 13) rfl 6 (by decide) (hts _ (List.mem_of_getElem? (i := 1) rfl)) rfl rfl (congrArg Value.int h6) dX9_remembers_60 ?_
    refine lv_sipush (v := 215) hx hb dX9_remembers_63 (by decide) ?_
    refine lv_imul hx hb dX9_remembers_66 ?_
    refine r_eq (y := (nI (z * 215))) (pk_mul z 215) ?_
    refine k_vS (As := [.ref (r 2), .int 0, .ref (r 5), .int (nI (z * 215))]) (rest := []) (Rs := [moB r F]) (Bs' := [moB r F, arB ty (r 2) 215 (sqA 215 T), arB ty (r 5) 1720 (hPut HA z T)]) ⟨hx, hb, hml, hown, hts⟩ w (c_cpH l D ty (r 2) (r 5) T HA z (by omega)) (va_cwS 4 hts gX9_remembers_X9_copies rfl rfl rfl hdN_X9_copies ⟨Nat.le_of_ble_eq_true rfl, Nat.le_of_ble_eq_true rfl⟩) [1, 2, 0] (nB := 3) (by decide) rfl rfl rfl rfl rfl hl.1 rfl (Nat.le_of_ble_eq_true rfl) dX9_remembers_67 ⟨(Nat.zero_le _), (Nat.zero_le _)⟩ (fun H locs w => ?_)
    refine lv_aload_n hx hb dX9_remembers_70 rfl (lv_at hl 0 rfl) ?_
    refine lv_dup hx hb dX9_remembers_71 rfl ?_
    refine r_get (v' := .int (nI z)) hx hb hts in_X9_remembers_X9 hown w 0 0 rfl rfl (ci := 13) rfl 6 (by decide) (hts _ (List.mem_of_getElem? (i := 1) rfl)) rfl rfl (congrArg Value.int h6) dX9_remembers_72 ?_
    refine lv_iconst (v := 1) hx hb dX9_remembers_75 (by decide) ?_
    refine lv_iadd hx hb dX9_remembers_76 ?_
    refine r_eq (y := (nI (z + 1))) (nI_add z 1) ?_
    refine r_put hx hb hts in_X9_remembers_X9 tyX9 tyX9_ok nmX9 hown w 0 0 rfl rfl (ci := 13) rfl 6 (by decide) (hts _ (List.mem_of_getElem? (i := 1) rfl)) rfl rfl (ty := .int) (by decide +kernel) rfl rfl (Nat.le_of_ble_eq_true rfl) (moB r (upd F 6 (nI (z + 1)))) rfl [moB r (upd F 6 (nI (z + 1))), arB ty (r 2) 215 (sqA 215 T), arB ty (r 5) 1720 (hPut HA z T)] rfl dX9_remembers_77 (fun H locs w => ?_)
    exact e_v hx hb hr hlocks (w.cast (by rw [rm_n c6, rh_n c6])) dX9_remembers_80 (Nat.le_refl _) (Nat.le_refl _)
  · have c6 := (nI_eq (a := z) (b := 8) (by omega) (by omega)).mp c6
    refine lv_iconst (v := 0) hx hb dX9_remembers_9 (by decide) ?_
    refine lv_istore_n (lv' := [(1, .int 0), (0, .ref (r 0))]) hx hb dX9_remembers_10 rfl hl (by decide) rfl (fun ls hl => ?_)
    refine k_loop (fun k H locs ls => kW D (kTY ty) A s.heap s H locs [moB r F, arB ty (r 2) 215 (sqA 215 T), arB ty (r 5) 1720 (shH HA k)] ∧ lv_has ls 2 [(0, .ref (r 0)), (1, .int (nI k))]) 1505 0 (by omega) ⟨(w.cast (by rw [shH_0])), lv_sub hl [1, 0] rfl⟩ ?_
    intro k hk0 hk ihk H locs ls hI
    obtain ⟨w, hl⟩ := hI
    refine lv_iload_n hx hb dX9_remembers_11 rfl (lv_at hl 1 rfl) ?_
    refine lv_sipush (v := 1505) hx hb dX9_remembers_12 (by decide) ?_
    refine lv_icmp_ge (tgt := 40) hx hb dX9_remembers_15 (by decide) (fun c15 => ?_) (fun c15 => ?_)
    · have c15 := (nI_leI (a := 1505) (b := k) (by omega) (by omega)).mp c15
      obtain rfl : 1505 = k := by omega
      refine lv_aload_n hx hb dX9_remembers_40 rfl (lv_at hl 0 rfl) ?_
      refine lv_dup hx hb dX9_remembers_41 rfl ?_
      refine r_get (v' := .int (nI z)) hx hb hts in_X9_remembers_X9 hown w 0 0 rfl rfl (ci := 13) rfl 6 (by decide) (hts _ (List.mem_of_getElem? (i := 1) rfl)) rfl rfl (congrArg Value.int h6) dX9_remembers_42 ?_
      refine lv_iconst (v := 1) hx hb dX9_remembers_45 (by decide) ?_
      refine lv_isub hx hb dX9_remembers_46 ?_
      refine r_eq (y := (nI (z - 1))) (pk_sub (a := z) (b := 1) (by omega)) ?_
      refine r_put hx hb hts in_X9_remembers_X9 tyX9 tyX9_ok nmX9 hown w 0 0 rfl rfl (ci := 13) rfl 6 (by decide) (hts _ (List.mem_of_getElem? (i := 1) rfl)) rfl rfl (ty := .int) (by decide +kernel) rfl rfl (Nat.le_of_ble_eq_true rfl) (moB r (upd F 6 (nI (z - 1)))) rfl [moB r (upd F 6 (nI (z - 1))), arB ty (r 2) 215 (sqA 215 T), arB ty (r 5) 1720 (shH HA 1505)] rfl dX9_remembers_47 (fun H locs w => ?_)
      refine lv_aload_n hx hb dX9_remembers_50 rfl (lv_at hl 0 rfl) ?_
      refine r_get (v' := .ref (r 2)) hx hb hts in_X9_remembers_X9 hown w 0 0 rfl rfl (ci := 13) rfl 1 (by decide) (hts _ (List.mem_of_getElem? (i := 3) rfl)) rfl rfl rfl dX9_remembers_51 ?_
      refine lv_iconst (v := 0) hx hb dX9_remembers_54 (by decide) ?_
      refine lv_aload_n hx hb dX9_remembers_55 rfl (lv_at hl 0 rfl) ?_
      refine r_get (v' := .ref (r 5)) hx hb hts in_X9_remembers_X9 hown w 0 0 rfl rfl (ci := 13) rfl 4 (by decide) (hts _ (List.mem_of_getElem? (i := 2) rfl)) rfl rfl rfl dX9_remembers_56 ?_
      refine lv_aload_n hx hb dX9_remembers_59 rfl (lv_at hl 0 rfl) ?_
      refine r_get (v' := .int (nI (z - 1))) hx hb hts in_X9_remembers_X9 hown w 0 0 rfl rfl (ci := 13) rfl 6 (by decide) (hts _ (List.mem_of_getElem? (i := 1) rfl)) rfl rfl rfl dX9_remembers_60 ?_
      refine lv_sipush (v := 215) hx hb dX9_remembers_63 (by decide) ?_
      refine lv_imul hx hb dX9_remembers_66 ?_
      refine r_eq (y := (nI ((z - 1) * 215))) (pk_mul (z - 1) 215) ?_
      refine k_vS (As := [.ref (r 2), .int 0, .ref (r 5), .int (nI ((z - 1) * 215))]) (rest := []) (Rs := [moB r (upd F 6 (nI (z - 1)))]) (Bs' := [moB r (upd F 6 (nI (z - 1))), arB ty (r 2) 215 (sqA 215 T), arB ty (r 5) 1720 (hPut (shH HA 1505) (z - 1) T)]) ⟨hx, hb, hml, hown, hts⟩ w (c_cpH l D ty (r 2) (r 5) T (shH HA 1505) (z - 1) (by omega)) (va_cwS 4 hts gX9_remembers_X9_copies rfl rfl rfl hdN_X9_copies ⟨Nat.le_of_ble_eq_true rfl, Nat.le_of_ble_eq_true rfl⟩) [1, 2, 0] (nB := 3) (by decide) rfl rfl rfl rfl rfl hl.1 rfl (Nat.le_of_ble_eq_true rfl) dX9_remembers_67 ⟨(Nat.zero_le _), (Nat.zero_le _)⟩ (fun H locs w => ?_)
      refine lv_aload_n hx hb dX9_remembers_70 rfl (lv_at hl 0 rfl) ?_
      refine lv_dup hx hb dX9_remembers_71 rfl ?_
      refine r_get (v' := .int (nI (z - 1))) hx hb hts in_X9_remembers_X9 hown w 0 0 rfl rfl (ci := 13) rfl 6 (by decide) (hts _ (List.mem_of_getElem? (i := 1) rfl)) rfl rfl rfl dX9_remembers_72 ?_
      refine lv_iconst (v := 1) hx hb dX9_remembers_75 (by decide) ?_
      refine lv_iadd hx hb dX9_remembers_76 ?_
      refine r_eq (y := (nI ((z - 1) + 1))) (nI_add (z - 1) 1) ?_
      refine r_put hx hb hts in_X9_remembers_X9 tyX9 tyX9_ok nmX9 hown w 0 0 rfl rfl (ci := 13) rfl 6 (by decide) (hts _ (List.mem_of_getElem? (i := 1) rfl)) rfl rfl (ty := .int) (by decide +kernel) rfl rfl (Nat.le_of_ble_eq_true rfl) (moB r (upd F 6 (nI ((z - 1) + 1)))) rfl [moB r (upd F 6 (nI ((z - 1) + 1))), arB ty (r 2) 215 (sqA 215 T), arB ty (r 5) 1720 (hPut (shH HA 1505) (z - 1) T)] rfl dX9_remembers_77 (fun H locs w => ?_)
      exact e_v hx hb hr hlocks (w.cast (by rw [rm_8 c6, rh_8 c6])) dX9_remembers_80 (Nat.le_refl _) (Nat.le_refl _)
    · have c15 := mt (nI_leI (a := 1505) (b := k) (by omega) (by omega)).mpr c15
      refine lv_aload_n hx hb dX9_remembers_18 rfl (lv_at hl 0 rfl) ?_
      refine r_get (v' := .ref (r 5)) hx hb hts in_X9_remembers_X9 hown w 0 0 rfl rfl (ci := 13) rfl 4 (by decide) (hts _ (List.mem_of_getElem? (i := 2) rfl)) rfl rfl rfl dX9_remembers_19 ?_
      refine lv_iload_n hx hb dX9_remembers_22 rfl (lv_at hl 1 rfl) ?_
      refine lv_aload_n hx hb dX9_remembers_23 rfl (lv_at hl 0 rfl) ?_
      refine r_get (v' := .ref (r 5)) hx hb hts in_X9_remembers_X9 hown w 0 0 rfl rfl (ci := 13) rfl 4 (by decide) (hts _ (List.mem_of_getElem? (i := 2) rfl)) rfl rfl rfl dX9_remembers_24 ?_
      refine lv_iload_n hx hb dX9_remembers_27 rfl (lv_at hl 1 rfl) ?_
      refine lv_sipush (v := 215) hx hb dX9_remembers_28 (by decide) ?_
      refine lv_iadd hx hb dX9_remembers_31 ?_
      refine r_eq (y := (nI (k + 215))) (nI_add k 215) ?_
      refine r_iald (v := ((shH HA k) (k + 215))) hx hb w 2 0 rfl rfl 0 rfl (k + 215) (by omega) (by omega) rfl rfl dX9_remembers_32 ?_
      refine r_iast hx hb w 2 0 rfl rfl 0 rfl k (by omega) (by omega) rfl (arB ty (r 5) 1720 (shH HA (k + 1))) (by rw [← shH_s]; rfl) [moB r F, arB ty (r 2) 215 (sqA 215 T), arB ty (r 5) 1720 (shH HA (k + 1))] rfl dX9_remembers_33 (fun H locs w => ?_)
      refine lv_iinc (v := (nI (k + 1))) (lv' := [(1, .int (nI (k + 1))), (0, .ref (r 0))]) hx hb dX9_remembers_34 hl (k := 1) rfl (inc1 k) (by decide) rfl (fun ls hl => ?_)
      refine lv_goto (tgt := 11) hx hb dX9_remembers_37 (by decide) ?_
      exact ihk _ _ _ ⟨w, lv_sub hl [1, 0] rfl⟩ (by omega)

theorem in_X9_ends_X9 : ∀ w ∈ wsX90, w ∈ wsX9_ends := by decide +kernel
theorem hdN_X9_ends : yX9_ends.cls ≠ "java/lang/invoke/MethodHandle" ∧ yX9_ends.cls ≠ "java/lang/invoke/VarHandle" ∧ (parseMethodDescriptor yX9_ends.desc).map (fun d => d.parameters.length) = some 3 := by decide +kernel
set_option maxRecDepth 100000 in
set_option maxHeartbeats 4000000 in
theorem c_X9_ends (l : Launch) (D : va_G) (ty : Nat → ClassId) (r : Nat → Nat) (F S T : pS) (HA : Nat → Int32) (z : Nat) (hz : z ≤ 8) (h6 : F 6 = nI z) (v ex cmd : Int32)  : Mi l yX9_ends wsX9_ends (kR 2 45 0 0) D (kTY ty) [.ref (r 0), .int v, .int ex, .int cmd] [moB r F, arB ty (r 1) 215 (sqA 215 S), arB ty (r 2) 215 (sqA 215 T), arB ty (r 5) 1720 HA] [moB r (enF F ex cmd z), arB ty (r 1) 215 (sqA 215 (enS F S T)), arB ty (r 2) 215 (sqA 215 T), arB ty (r 5) 1720 (enH F HA T z)] (enV F v) 0 0 := by
  refine m_i (cc := cX9_ends) (maxL := 4) (ret := (some .int)) (by decide +kernel) rfl (Nat.le_of_ble_eq_true rfl) ?_
  intro p e s m below meth c A ls hx hb hml hr hlocks hown hts w hl
  have hown : s.vm.findClass RX9 = some m.cls := hown
  have hl : lv_has ls 4 [(0, .ref (r 0)), (1, .int v), (2, .int ex), (3, .int cmd)] := hl
  refine lv_aload_n hx hb dX9_ends_0 rfl (lv_at hl 0 rfl) ?_
  refine lv_aload_n hx hb dX9_ends_1 rfl (lv_at hl 0 rfl) ?_
  refine r_get (v' := .int (F 16)) hx hb hts in_X9_ends_X9 hown w 0 0 rfl rfl (ci := 13) rfl 16 (by decide) (hts _ (List.mem_of_getElem? (i := 1) rfl)) rfl rfl rfl dX9_ends_2 ?_
  refine lv_if_ne (tgt := 12) hx hb dX9_ends_5 (by decide) (fun c5 => ?_) (fun c5 => ?_)
  · refine lv_iload_n hx hb dX9_ends_12 rfl (lv_at hl 2 rfl) ?_
    refine r_put hx hb hts in_X9_ends_X9 tyX9 tyX9_ok nmX9 hown w 0 0 rfl rfl (ci := 13) rfl 7 (by decide) (hts _ (List.mem_of_getElem? (i := 2) rfl)) rfl rfl (ty := .int) (by decide +kernel) rfl rfl (Nat.le_of_ble_eq_true rfl) (moB r (upd F 7 ex)) rfl [moB r (upd F 7 ex), arB ty (r 1) 215 (sqA 215 S), arB ty (r 2) 215 (sqA 215 T), arB ty (r 5) 1720 HA] rfl dX9_ends_13 (fun H locs w => ?_)
    refine lv_aload_n hx hb dX9_ends_16 rfl (lv_at hl 0 rfl) ?_
    refine r_get (v' := .int (F 16)) hx hb hts in_X9_ends_X9 hown w 0 0 rfl rfl (ci := 13) rfl 16 (by decide) (hts _ (List.mem_of_getElem? (i := 1) rfl)) rfl rfl rfl dX9_ends_17 ?_
    refine lv_if_eq (tgt := 59) hx hb dX9_ends_20 (by decide) (fun c20 => ?_) (fun c20 => ?_)
    · exact absurd c20 c5
    · refine lv_aload_n hx hb dX9_ends_23 rfl (lv_at hl 0 rfl) ?_
      refine lv_aload_n hx hb dX9_ends_24 rfl (lv_at hl 0 rfl) ?_
      refine r_get (v' := .int (F 16)) hx hb hts in_X9_ends_X9 hown w 0 0 rfl rfl (ci := 13) rfl 16 (by decide) (hts _ (List.mem_of_getElem? (i := 1) rfl)) rfl rfl rfl dX9_ends_25 ?_
      refine r_put hx hb hts in_X9_ends_X9 tyX9 tyX9_ok nmX9 hown w 0 0 rfl rfl (ci := 13) rfl 8 (by decide) (hts _ (List.mem_of_getElem? (i := 3) rfl)) rfl rfl (ty := .int) (by decide +kernel) rfl rfl (Nat.le_of_ble_eq_true rfl) (moB r (upd (upd F 7 ex) 8 (F 16))) rfl [moB r (upd (upd F 7 ex) 8 (F 16)), arB ty (r 1) 215 (sqA 215 S), arB ty (r 2) 215 (sqA 215 T), arB ty (r 5) 1720 HA] rfl dX9_ends_28 (fun H locs w => ?_)
      refine lv_aload_n hx hb dX9_ends_31 rfl (lv_at hl 0 rfl) ?_
      refine lv_aload_n hx hb dX9_ends_32 rfl (lv_at hl 0 rfl) ?_
      refine r_get (v' := .int (F 17)) hx hb hts in_X9_ends_X9 hown w 0 0 rfl rfl (ci := 13) rfl 17 (by decide) (hts _ (List.mem_of_getElem? (i := 4) rfl)) rfl rfl rfl dX9_ends_33 ?_
      refine r_put hx hb hts in_X9_ends_X9 tyX9 tyX9_ok nmX9 hown w 0 0 rfl rfl (ci := 13) rfl 9 (by decide) (hts _ (List.mem_of_getElem? (i := 5) rfl)) rfl rfl (ty := .int) (by decide +kernel) rfl rfl (Nat.le_of_ble_eq_true rfl) (moB r (upd (upd (upd F 7 ex) 8 (F 16)) 9 (F 17))) rfl [moB r (upd (upd (upd F 7 ex) 8 (F 16)) 9 (F 17)), arB ty (r 1) 215 (sqA 215 S), arB ty (r 2) 215 (sqA 215 T), arB ty (r 5) 1720 HA] rfl dX9_ends_36 (fun H locs w => ?_)
      refine lv_aload_n hx hb dX9_ends_39 rfl (lv_at hl 0 rfl) ?_
      refine lv_iload_n hx hb dX9_ends_40 rfl (lv_at hl 3 rfl) ?_
      refine r_put hx hb hts in_X9_ends_X9 tyX9 tyX9_ok nmX9 hown w 0 0 rfl rfl (ci := 13) rfl 10 (by decide) (hts _ (List.mem_of_getElem? (i := 6) rfl)) rfl rfl (ty := .int) (by decide +kernel) rfl rfl (Nat.le_of_ble_eq_true rfl) (moB r (upd (upd (upd (upd F 7 ex) 8 (F 16)) 9 (F 17)) 10 cmd)) rfl [moB r (upd (upd (upd (upd F 7 ex) 8 (F 16)) 9 (F 17)) 10 cmd), arB ty (r 1) 215 (sqA 215 S), arB ty (r 2) 215 (sqA 215 T), arB ty (r 5) 1720 HA] rfl dX9_ends_41 (fun H locs w => ?_)
      refine lv_aload_n hx hb dX9_ends_44 rfl (lv_at hl 0 rfl) ?_
      refine r_get (v' := .ref (r 2)) hx hb hts in_X9_ends_X9 hown w 0 0 rfl rfl (ci := 13) rfl 1 (by decide) (hts _ (List.mem_of_getElem? (i := 7) rfl)) rfl rfl rfl dX9_ends_45 ?_
      refine lv_iconst (v := 0) hx hb dX9_ends_48 (by decide) ?_
      refine lv_aload_n hx hb dX9_ends_49 rfl (lv_at hl 0 rfl) ?_
      refine r_get (v' := .ref (r 1)) hx hb hts in_X9_ends_X9 hown w 0 0 rfl rfl (ci := 13) rfl 0 (by decide) (hts _ (List.mem_of_getElem? (i := 8) rfl)) rfl rfl rfl dX9_ends_50 ?_
      refine lv_iconst (v := 0) hx hb dX9_ends_53 (by decide) ?_
      refine k_vS (As := [.ref (r 2), .int 0, .ref (r 1), .int 0]) (rest := []) (Rs := [moB r (upd (upd (upd (upd F 7 ex) 8 (F 16)) 9 (F 17)) 10 cmd), arB ty (r 5) 1720 HA]) (Bs' := [moB r (upd (upd (upd (upd F 7 ex) 8 (F 16)) 9 (F 17)) 10 cmd), arB ty (r 1) 215 (sqA 215 T), arB ty (r 2) 215 (sqA 215 T), arB ty (r 5) 1720 HA]) ⟨hx, hb, hml, hown, hts⟩ w (c_cpS l D ty (r 2) (r 1) T S) (va_cwS 4 hts gX9_ends_X9_copies rfl rfl rfl hdN_X9_copies ⟨Nat.le_of_ble_eq_true rfl, Nat.le_of_ble_eq_true rfl⟩) [2, 1, 0, 3] (nB := 4) (by decide) rfl rfl rfl rfl rfl hl.1 rfl (Nat.le_of_ble_eq_true rfl) dX9_ends_54 ⟨(Nat.zero_le _), (Nat.zero_le _)⟩ (fun H locs w => ?_)
      refine lv_iconst (v := 0) hx hb dX9_ends_57 (by decide) ?_
      exact e_i hx hb hr hlocks (w.cast (by rw [enF, enS, enH, if_neg c5, if_neg c5, if_neg c5])) (by rw [enV, if_neg c5]) dX9_ends_58 (Nat.le_refl _) (Nat.le_refl _)
  · refine lv_iconst (v := 0) hx hb dX9_ends_8 (by decide) ?_
    refine lv_goto (tgt := 13) hx hb dX9_ends_9 (by decide) ?_
    refine r_put hx hb hts in_X9_ends_X9 tyX9 tyX9_ok nmX9 hown w 0 0 rfl rfl (ci := 13) rfl 7 (by decide) (hts _ (List.mem_of_getElem? (i := 2) rfl)) rfl rfl (ty := .int) (by decide +kernel) rfl rfl (Nat.le_of_ble_eq_true rfl) (moB r (upd F 7 0)) rfl [moB r (upd F 7 0), arB ty (r 1) 215 (sqA 215 S), arB ty (r 2) 215 (sqA 215 T), arB ty (r 5) 1720 HA] rfl dX9_ends_13 (fun H locs w => ?_)
    refine lv_aload_n hx hb dX9_ends_16 rfl (lv_at hl 0 rfl) ?_
    refine r_get (v' := .int (F 16)) hx hb hts in_X9_ends_X9 hown w 0 0 rfl rfl (ci := 13) rfl 16 (by decide) (hts _ (List.mem_of_getElem? (i := 1) rfl)) rfl rfl rfl dX9_ends_17 ?_
    refine lv_if_eq (tgt := 59) hx hb dX9_ends_20 (by decide) (fun c20 => ?_) (fun c20 => ?_)
    · refine lv_aload_n hx hb dX9_ends_59 rfl (lv_at hl 0 rfl) ?_
      refine k_vV (As := []) (rest := []) (Rs := [arB ty (r 1) 215 (sqA 215 S)]) (Bs' := [moB r (upd (upd F 7 0) 6 (nI (hKn z))), arB ty (r 1) 215 (sqA 215 S), arB ty (r 2) 215 (sqA 215 T), arB ty (r 5) 1720 (hKp HA T z)]) ⟨hx, hb, hml, hown, hts⟩ w (c_X9_remembers l D ty r (upd F 7 0) T HA z hz h6) (cwV 0 hts gX9_ends_X9_remembers rfl rfl rfl ⟨rfl, hdN_X9_remembers⟩ ⟨Nat.le_of_ble_eq_true rfl, Nat.le_of_ble_eq_true rfl⟩) [0, 2, 3, 1] (nB := 4) (by decide) rfl rfl rfl rfl 0 rfl rfl (ci := 13) rfl rfl rfl hl.1 rfl (Nat.le_of_ble_eq_true rfl) dX9_ends_60 ⟨(Nat.zero_le _), (Nat.zero_le _)⟩ (fun H locs w => ?_)
      refine lv_iload_n hx hb dX9_ends_63 rfl (lv_at hl 1 rfl) ?_
      exact e_i hx hb hr hlocks (w.cast (by rw [enF, enS, enH, if_pos c5, if_pos c5, if_pos c5])) (by rw [enV, if_pos c5]) dX9_ends_64 (Nat.le_refl _) (Nat.le_refl _)
    · exact absurd c5 c20

theorem in_X9_isHousehold_X9 : ∀ w ∈ wsX90, w ∈ wsX9_isHousehold := by decide +kernel
theorem hdN_X9_isHousehold : yX9_isHousehold.cls ≠ "java/lang/invoke/MethodHandle" ∧ yX9_isHousehold.cls ≠ "java/lang/invoke/VarHandle" ∧ (parseMethodDescriptor yX9_isHousehold.desc).map (fun d => d.parameters.length) = some 1 := by decide +kernel
set_option maxRecDepth 100000 in
set_option maxHeartbeats 4000000 in
theorem c_X9_isHousehold (l : Launch) (D : va_G) (ty : Nat → ClassId) (r : Nat → Nat) (F S : pS) (n : Nat) (h0 : S 0 = nI n) (hn : n ≤ 8) (h : Int32)  : Mi l yX9_isHousehold wsX9_isHousehold (kR 1 22 0 0) D (kTY ty) [.ref (r 0), .int h] [moB r F, arB ty (r 1) 215 (sqA 215 S)] [moB r F, arB ty (r 1) 215 (sqA 215 S)] (bI (pHas h n)) 0 0 := by
  refine m_i (cc := cX9_isHousehold) (maxL := 2) (ret := (some .boolean)) (by decide +kernel) rfl (Nat.le_of_ble_eq_true rfl) ?_
  intro p e s m below meth c A ls hx hb hml hr hlocks hown hts w hl
  have hown : s.vm.findClass RX9 = some m.cls := hown
  have hl : lv_has ls 2 [(0, .ref (r 0)), (1, .int h)] := hl
  refine lv_iload_n hx hb dX9_isHousehold_0 rfl (lv_at hl 1 rfl) ?_
  refine lv_iconst (v := 0) hx hb dX9_isHousehold_1 (by decide) ?_
  refine lv_aload_n hx hb dX9_isHousehold_2 rfl (lv_at hl 0 rfl) ?_
  refine r_get (v' := .ref (r 1)) hx hb hts in_X9_isHousehold_X9 hown w 0 0 rfl rfl (ci := 13) rfl 0 (by decide) (hts _ (List.mem_of_getElem? (i := 1) rfl)) rfl rfl rfl dX9_isHousehold_3 ?_
  refine lv_iconst (v := 0) hx hb dX9_isHousehold_6 (by decide) ?_
  refine r_iald (v := (S 0)) hx hb w 1 0 rfl rfl 0 rfl 0 (by omega) (Nat.le_of_ble_eq_true rfl) rfl (sqA_at (by omega)) dX9_isHousehold_7 ?_
  refine r_eq (y := (nI n)) h0 ?_
  refine lv_iconst (v := 1) hx hb dX9_isHousehold_8 (by decide) ?_
  refine lv_isub hx hb dX9_isHousehold_9 ?_
  refine k_iS (As := [.int h, .int 0, .int ((nI n) - 1)]) (rest := []) (Rs := [moB r F, arB ty (r 1) 215 (sqA 215 S)]) (Bs' := [moB r F, arB ty (r 1) 215 (sqA 215 S)]) ⟨hx, hb, hml, hown, hts⟩ w (c_X9_isIn l D ty h 0 ((nI n) - 1)) (va_cwS 3 hts gX9_isHousehold_X9_isIn rfl rfl rfl hdN_X9_isIn ⟨Nat.le_of_ble_eq_true rfl, Nat.le_of_ble_eq_true rfl⟩) [0, 1] (nB := 2) (by decide) rfl rfl rfl rfl rfl hl.1 rfl (Nat.le_of_ble_eq_true rfl) dX9_isHousehold_10 ⟨(Nat.zero_le _), (Nat.zero_le _)⟩ (fun H locs w => ?_)
  exact e_z (ty := .boolean) hx hb hr (bI_nar _) hlocks w (congrArg bI (pIn_has hn)) dX9_isHousehold_13 (Nat.le_refl _) (Nat.le_refl _)

theorem in_X9_of_X9 : ∀ w ∈ wsX90, w ∈ wsX9_of := by decide +kernel
theorem hdN_X9_of : yX9_of.cls ≠ "java/lang/invoke/MethodHandle" ∧ yX9_of.cls ≠ "java/lang/invoke/VarHandle" ∧ (parseMethodDescriptor yX9_of.desc).map (fun d => d.parameters.length) = some 2 := by decide +kernel
set_option maxRecDepth 100000 in
set_option maxHeartbeats 4000000 in
theorem c_X9_of (l : Launch) (D : va_G) (ty : Nat → ClassId) (r : Nat → Nat) (F S : pS) (h x : Nat) (hbd : 1 + 6 * h + x < 215)  : Mi l yX9_of wsX9_of (kR 0 0 0 0) D (kTY ty) [.ref (r 0), .int (nI h), .int (nI x)] [moB r F, arB ty (r 1) 215 (sqA 215 S)] [moB r F, arB ty (r 1) 215 (sqA 215 S)] (S (1 + 6 * h + x)) 0 0 := by
  refine m_i (cc := cX9_of) (maxL := 3) (ret := (some .int)) (by decide +kernel) rfl (Nat.le_of_ble_eq_true rfl) ?_
  intro p e s m below meth c A ls hx hb hml hr hlocks hown hts w hl
  have hown : s.vm.findClass RX9 = some m.cls := hown
  have hl : lv_has ls 3 [(0, .ref (r 0)), (1, .int (nI h)), (2, .int (nI x))] := hl
  refine lv_aload_n hx hb dX9_of_0 rfl (lv_at hl 0 rfl) ?_
  refine r_get (v' := .ref (r 1)) hx hb hts in_X9_of_X9 hown w 0 0 rfl rfl (ci := 13) rfl 0 (by decide) (hts _ (List.mem_of_getElem? (i := 1) rfl)) rfl rfl rfl dX9_of_1 ?_
  refine lv_iconst (v := 1) hx hb dX9_of_4 (by decide) ?_
  refine lv_bipush (v := 6) hx hb dX9_of_5 (by decide) ?_
  refine lv_iload_n hx hb dX9_of_7 rfl (lv_at hl 1 rfl) ?_
  refine lv_imul hx hb dX9_of_8 ?_
  refine r_eq (y := (nI (6 * h))) (pk_mul 6 h) ?_
  refine lv_iadd hx hb dX9_of_9 ?_
  refine r_eq (y := (nI (1 + (6 * h)))) (nI_add 1 (6 * h)) ?_
  refine lv_iload_n hx hb dX9_of_10 rfl (lv_at hl 2 rfl) ?_
  refine lv_iadd hx hb dX9_of_11 ?_
  refine r_eq (y := (nI ((1 + (6 * h)) + x))) (nI_add (1 + (6 * h)) x) ?_
  refine r_iald (v := (S ((1 + (6 * h)) + x))) hx hb w 1 0 rfl rfl 0 rfl ((1 + (6 * h)) + x) (by omega) (Nat.le_of_ble_eq_true rfl) rfl (sqA_at (by omega)) dX9_of_12 ?_
  exact e_i hx hb hr hlocks w rfl dX9_of_13 (Nat.le_refl _) (Nat.le_refl _)

theorem in_X9_becomes_X9 : ∀ w ∈ wsX90, w ∈ wsX9_becomes := by decide +kernel
theorem hdN_X9_becomes : yX9_becomes.cls ≠ "java/lang/invoke/MethodHandle" ∧ yX9_becomes.cls ≠ "java/lang/invoke/VarHandle" ∧ (parseMethodDescriptor yX9_becomes.desc).map (fun d => d.parameters.length) = some 3 := by decide +kernel
set_option maxRecDepth 100000 in
set_option maxHeartbeats 4000000 in
theorem c_X9_becomes (l : Launch) (D : va_G) (ty : Nat → ClassId) (r : Nat → Nat) (F S : pS) (h x : Nat) (hbd : 1 + 6 * h + x < 215) (v : Int32)  : Mv l yX9_becomes wsX9_becomes (kR 0 0 0 0) D (kTY ty) [.ref (r 0), .int (nI h), .int (nI x), .int v] [moB r F, arB ty (r 1) 215 (sqA 215 S)] [moB r F, arB ty (r 1) 215 (sqA 215 (upd S (1 + 6 * h + x) v))] 0 0 := by
  refine m_v (cc := cX9_becomes) (maxL := 4) (ret := none) (by decide +kernel) rfl (Nat.le_of_ble_eq_true rfl) ?_
  intro p e s m below meth c A ls hx hb hml hr hlocks hown hts w hl
  have hown : s.vm.findClass RX9 = some m.cls := hown
  have hl : lv_has ls 4 [(0, .ref (r 0)), (1, .int (nI h)), (2, .int (nI x)), (3, .int v)] := hl
  refine lv_aload_n hx hb dX9_becomes_0 rfl (lv_at hl 0 rfl) ?_
  refine r_get (v' := .ref (r 1)) hx hb hts in_X9_becomes_X9 hown w 0 0 rfl rfl (ci := 13) rfl 0 (by decide) (hts _ (List.mem_of_getElem? (i := 1) rfl)) rfl rfl rfl dX9_becomes_1 ?_
  refine lv_iconst (v := 1) hx hb dX9_becomes_4 (by decide) ?_
  refine lv_bipush (v := 6) hx hb dX9_becomes_5 (by decide) ?_
  refine lv_iload_n hx hb dX9_becomes_7 rfl (lv_at hl 1 rfl) ?_
  refine lv_imul hx hb dX9_becomes_8 ?_
  refine r_eq (y := (nI (6 * h))) (pk_mul 6 h) ?_
  refine lv_iadd hx hb dX9_becomes_9 ?_
  refine r_eq (y := (nI (1 + (6 * h)))) (nI_add 1 (6 * h)) ?_
  refine lv_iload_n hx hb dX9_becomes_10 rfl (lv_at hl 2 rfl) ?_
  refine lv_iadd hx hb dX9_becomes_11 ?_
  refine r_eq (y := (nI ((1 + (6 * h)) + x))) (nI_add (1 + (6 * h)) x) ?_
  refine lv_iload_n hx hb dX9_becomes_12 rfl (lv_at hl 3 rfl) ?_
  refine r_iast hx hb w 1 0 rfl rfl 0 rfl ((1 + (6 * h)) + x) (by omega) (Nat.le_of_ble_eq_true rfl) rfl (arB ty (r 1) 215 (sqA 215 (upd S ((1 + (6 * h)) + x) v))) (arB_st (by omega)) [moB r F, arB ty (r 1) 215 (sqA 215 (upd S ((1 + (6 * h)) + x) v))] rfl dX9_becomes_13 (fun H locs w => ?_)
  exact e_v hx hb hr hlocks w dX9_becomes_14 (Nat.le_refl _) (Nat.le_refl _)

theorem hdN_X9_turnsByLaw : yX9_turnsByLaw.cls ≠ "java/lang/invoke/MethodHandle" ∧ yX9_turnsByLaw.cls ≠ "java/lang/invoke/VarHandle" ∧ (parseMethodDescriptor yX9_turnsByLaw.desc).map (fun d => d.parameters.length) = some 2 := by decide +kernel
set_option maxRecDepth 100000 in
set_option maxHeartbeats 4000000 in
theorem c_X9_turnsByLaw (l : Launch) (D : va_G) (ty : Nat → ClassId) (r : Nat → Nat) (F S : pS) (i : Nat) (hi : i < 8) (v : Int32)  : Mi l yX9_turnsByLaw wsX9_turnsByLaw (kR 1 22 0 0) D (kTY ty) [.ref (r 0), .int (nI i), .int v] [moB r F, arB ty (r 1) 215 (sqA 215 S)] [moB r F, arB ty (r 1) 215 (sqA 215 S)] (pTbl S i v) 0 0 := by
  refine m_i (cc := cX9_turnsByLaw) (maxL := 3) (ret := (some .int)) (by decide +kernel) rfl (Nat.le_of_ble_eq_true rfl) ?_
  intro p e s m below meth c A ls hx hb hml hr hlocks hown hts w hl
  have hown : s.vm.findClass RX9 = some m.cls := hown
  have hl : lv_has ls 3 [(0, .ref (r 0)), (1, .int (nI i)), (2, .int v)] := hl
  refine lv_iload_n hx hb dX9_turnsByLaw_0 rfl (lv_at hl 2 rfl) ?_
  refine lv_if_ne (tgt := 17) hx hb dX9_turnsByLaw_1 (by decide) (fun c1 => ?_) (fun c1 => ?_)
  · refine lv_iload_n hx hb dX9_turnsByLaw_17 rfl (lv_at hl 2 rfl) ?_
    refine lv_iconst (v := 1) hx hb dX9_turnsByLaw_18 (by decide) ?_
    refine lv_icmp_ne (tgt := 26) hx hb dX9_turnsByLaw_19 (by decide) (fun c19 => ?_) (fun c19 => ?_)
    · refine lv_iload_n hx hb dX9_turnsByLaw_26 rfl (lv_at hl 2 rfl) ?_
      refine lv_iconst (v := 2) hx hb dX9_turnsByLaw_27 (by decide) ?_
      refine lv_icmp_ne (tgt := 44) hx hb dX9_turnsByLaw_28 (by decide) (fun c28 => ?_) (fun c28 => ?_)
      · refine lv_iconst (v := 1) hx hb dX9_turnsByLaw_44 (by decide) ?_
        exact e_i hx hb hr hlocks w (by rw [pTbl, if_neg c1, if_neg c19, if_neg c28]) dX9_turnsByLaw_45 (Nat.le_refl _) (Nat.le_refl _)
      · refine lv_iconst (v := 4) hx hb dX9_turnsByLaw_31 (by decide) ?_
        refine lv_aload_n hx hb dX9_turnsByLaw_32 rfl (lv_at hl 0 rfl) ?_
        refine lv_iload_n hx hb dX9_turnsByLaw_33 rfl (lv_at hl 1 rfl) ?_
        refine lv_iconst (v := 2) hx hb dX9_turnsByLaw_34 (by decide) ?_
        refine k_iV (As := [.int (nI i), .int 2]) (rest := [.int 4]) (Rs := []) (Bs' := [moB r F, arB ty (r 1) 215 (sqA 215 S)]) ⟨hx, hb, hml, hown, hts⟩ w (c_X9_of l D ty r F S i 2 (by omega)) (cwV 2 hts gX9_turnsByLaw_X9_of rfl rfl rfl ⟨rfl, hdN_X9_of⟩ ⟨Nat.le_of_ble_eq_true rfl, Nat.le_of_ble_eq_true rfl⟩) [0, 1] (nB := 2) (by decide) rfl rfl rfl rfl 0 rfl rfl (ci := 13) rfl rfl rfl hl.1 rfl (Nat.le_of_ble_eq_true rfl) dX9_turnsByLaw_35 ⟨(Nat.zero_le _), (Nat.zero_le _)⟩ (fun H locs w => ?_)
        refine lv_iconst (v := 3) hx hb dX9_turnsByLaw_38 (by decide) ?_
        refine lv_idiv hx hb dX9_turnsByLaw_39 (by decide) ?_
        refine lv_isub hx hb dX9_turnsByLaw_40 ?_
        refine lv_goto (tgt := 45) hx hb dX9_turnsByLaw_41 (by decide) ?_
        exact e_i hx hb hr hlocks w (pTbl_2 c1 c19 c28) dX9_turnsByLaw_45 (Nat.le_refl _) (Nat.le_refl _)
    · refine lv_iconst (v := 3) hx hb dX9_turnsByLaw_22 (by decide) ?_
      refine lv_goto (tgt := 45) hx hb dX9_turnsByLaw_23 (by decide) ?_
      exact e_i hx hb hr hlocks w (pTbl_1 c1 c19) dX9_turnsByLaw_45 (Nat.le_refl _) (Nat.le_refl _)
  · refine lv_aload_n hx hb dX9_turnsByLaw_4 rfl (lv_at hl 0 rfl) ?_
    refine lv_iload_n hx hb dX9_turnsByLaw_5 rfl (lv_at hl 1 rfl) ?_
    refine lv_iconst (v := 0) hx hb dX9_turnsByLaw_6 (by decide) ?_
    refine k_iV (As := [.int (nI i), .int 0]) (rest := []) (Rs := []) (Bs' := [moB r F, arB ty (r 1) 215 (sqA 215 S)]) ⟨hx, hb, hml, hown, hts⟩ w (c_X9_of l D ty r F S i 0 (by omega)) (cwV 2 hts gX9_turnsByLaw_X9_of rfl rfl rfl ⟨rfl, hdN_X9_of⟩ ⟨Nat.le_of_ble_eq_true rfl, Nat.le_of_ble_eq_true rfl⟩) [0, 1] (nB := 2) (by decide) rfl rfl rfl rfl 0 rfl rfl (ci := 13) rfl rfl rfl hl.1 rfl (Nat.le_of_ble_eq_true rfl) dX9_turnsByLaw_7 ⟨(Nat.zero_le _), (Nat.zero_le _)⟩ (fun H locs w => ?_)
    refine lv_iconst (v := 1) hx hb dX9_turnsByLaw_10 (by decide) ?_
    refine lv_iadd hx hb dX9_turnsByLaw_11 ?_
    refine lv_iconst (v := 2) hx hb dX9_turnsByLaw_12 (by decide) ?_
    refine lv_idiv hx hb dX9_turnsByLaw_13 (by decide) ?_
    refine lv_goto (tgt := 45) hx hb dX9_turnsByLaw_14 (by decide) ?_
    exact e_i hx hb hr hlocks w (pTbl_0 c1) dX9_turnsByLaw_45 (Nat.le_refl _) (Nat.le_refl _)

theorem in_X9_turns_X9 : ∀ w ∈ wsX90, w ∈ wsX9_turns := by decide +kernel
theorem hdN_X9_turns : yX9_turns.cls ≠ "java/lang/invoke/MethodHandle" ∧ yX9_turns.cls ≠ "java/lang/invoke/VarHandle" ∧ (parseMethodDescriptor yX9_turns.desc).map (fun d => d.parameters.length) = some 1 := by decide +kernel
set_option maxRecDepth 100000 in
set_option maxHeartbeats 4000000 in
theorem c_X9_turns (l : Launch) (D : va_G) (ty : Nat → ClassId) (r : Nat → Nat) (F S : pS) (i : Nat) (hi : i < 8)  : Mi l yX9_turns wsX9_turns (kR 2 44 0 0) D (kTY ty) [.ref (r 0), .int (nI i)] [moB r F, arB ty (r 1) 215 (sqA 215 S)] [moB r F, arB ty (r 1) 215 (sqA 215 S)] (pTurns S i) 0 0 := by
  refine m_i (cc := cX9_turns) (maxL := 3) (ret := (some .int)) (by decide +kernel) rfl (Nat.le_of_ble_eq_true rfl) ?_
  intro p e s m below meth c A ls hx hb hml hr hlocks hown hts w hl
  have hown : s.vm.findClass RX9 = some m.cls := hown
  have hl : lv_has ls 3 [(0, .ref (r 0)), (1, .int (nI i))] := hl
  refine lv_aload_n hx hb dX9_turns_0 rfl (lv_at hl 0 rfl) ?_
  refine lv_iload_n hx hb dX9_turns_1 rfl (lv_at hl 1 rfl) ?_
  refine lv_aload_n hx hb dX9_turns_2 rfl (lv_at hl 0 rfl) ?_
  refine r_get (v' := .ref (r 1)) hx hb hts in_X9_turns_X9 hown w 0 0 rfl rfl (ci := 13) rfl 0 (by decide) (hts _ (List.mem_of_getElem? (i := 1) rfl)) rfl rfl rfl dX9_turns_3 ?_
  refine lv_sipush (v := 203) hx hb dX9_turns_6 (by decide) ?_
  refine r_iald (v := (S 203)) hx hb w 1 0 rfl rfl 0 rfl 203 (by omega) (Nat.le_of_ble_eq_true rfl) rfl (sqA_at (by omega)) dX9_turns_9 ?_
  refine k_iV (As := [.int (nI i), .int (S 203)]) (rest := []) (Rs := []) (Bs' := [moB r F, arB ty (r 1) 215 (sqA 215 S)]) ⟨hx, hb, hml, hown, hts⟩ w (c_X9_turnsByLaw l D ty r F S i (by omega) (S 203)) (cwV 2 hts gX9_turns_X9_turnsByLaw rfl rfl rfl ⟨rfl, hdN_X9_turnsByLaw⟩ ⟨Nat.le_of_ble_eq_true rfl, Nat.le_of_ble_eq_true rfl⟩) [0, 1] (nB := 2) (by decide) rfl rfl rfl rfl 0 rfl rfl (ci := 13) rfl rfl rfl hl.1 rfl (Nat.le_of_ble_eq_true rfl) dX9_turns_10 ⟨(Nat.zero_le _), (Nat.zero_le _)⟩ (fun H locs w => ?_)
  refine lv_istore_n (lv' := [(2, .int (pTbl S i (S 203))), (0, .ref (r 0)), (1, .int (nI i))]) hx hb dX9_turns_13 rfl hl (by decide) rfl (fun ls hl => ?_)
  refine lv_aload_n hx hb dX9_turns_14 rfl (lv_at hl 1 rfl) ?_
  refine r_get (v' := .ref (r 1)) hx hb hts in_X9_turns_X9 hown w 0 0 rfl rfl (ci := 13) rfl 0 (by decide) (hts _ (List.mem_of_getElem? (i := 1) rfl)) rfl rfl rfl dX9_turns_15 ?_
  refine lv_sipush (v := 207) hx hb dX9_turns_18 (by decide) ?_
  refine r_iald (v := (S 207)) hx hb w 1 0 rfl rfl 0 rfl 207 (by omega) (Nat.le_of_ble_eq_true rfl) rfl (sqA_at (by omega)) dX9_turns_21 ?_
  refine lv_iconst (v := 1) hx hb dX9_turns_22 (by decide) ?_
  refine lv_icmp_ne (tgt := 34) hx hb dX9_turns_23 (by decide) (fun c23 => ?_) (fun c23 => ?_)
  · refine lv_iload_n hx hb dX9_turns_34 rfl (lv_at hl 0 rfl) ?_
    exact e_i hx hb hr hlocks w (by rw [pTurns, if_neg c23]) dX9_turns_35 (Nat.le_refl _) (Nat.le_refl _)
  · refine lv_iload_n hx hb dX9_turns_26 rfl (lv_at hl 0 rfl) ?_
    refine lv_iconst (v := 1) hx hb dX9_turns_27 (by decide) ?_
    refine lv_iadd hx hb dX9_turns_28 ?_
    refine lv_iconst (v := 2) hx hb dX9_turns_29 (by decide) ?_
    refine lv_idiv hx hb dX9_turns_30 (by decide) ?_
    refine lv_goto (tgt := 35) hx hb dX9_turns_31 (by decide) ?_
    exact e_i hx hb hr hlocks w (by rw [pTurns, if_pos c23]) dX9_turns_35 (Nat.le_refl _) (Nat.le_refl _)

theorem hdN_X9_left : yX9_left.cls ≠ "java/lang/invoke/MethodHandle" ∧ yX9_left.cls ≠ "java/lang/invoke/VarHandle" ∧ (parseMethodDescriptor yX9_left.desc).map (fun d => d.parameters.length) = some 1 := by decide +kernel
set_option maxRecDepth 100000 in
set_option maxHeartbeats 4000000 in
theorem c_X9_left (l : Launch) (D : va_G) (ty : Nat → ClassId) (r : Nat → Nat) (F S : pS) (i : Nat) (hi : i < 8)  : Mi l yX9_left wsX9_left (kR 3 66 0 0) D (kTY ty) [.ref (r 0), .int (nI i)] [moB r F, arB ty (r 1) 215 (sqA 215 S)] [moB r F, arB ty (r 1) 215 (sqA 215 S)] (pLeft S i) 0 0 := by
  refine m_i (cc := cX9_left) (maxL := 2) (ret := (some .int)) (by decide +kernel) rfl (Nat.le_of_ble_eq_true rfl) ?_
  intro p e s m below meth c A ls hx hb hml hr hlocks hown hts w hl
  have hown : s.vm.findClass RX9 = some m.cls := hown
  have hl : lv_has ls 2 [(0, .ref (r 0)), (1, .int (nI i))] := hl
  refine lv_iconst (v := 0) hx hb dX9_left_0 (by decide) ?_
  refine lv_aload_n hx hb dX9_left_1 rfl (lv_at hl 0 rfl) ?_
  refine lv_iload_n hx hb dX9_left_2 rfl (lv_at hl 1 rfl) ?_
  refine k_iV (As := [.int (nI i)]) (rest := [.int 0]) (Rs := []) (Bs' := [moB r F, arB ty (r 1) 215 (sqA 215 S)]) ⟨hx, hb, hml, hown, hts⟩ w (c_X9_turns l D ty r F S i (by omega)) (cwV 1 hts gX9_left_X9_turns rfl rfl rfl ⟨rfl, hdN_X9_turns⟩ ⟨Nat.le_of_ble_eq_true rfl, Nat.le_of_ble_eq_true rfl⟩) [0, 1] (nB := 2) (by decide) rfl rfl rfl rfl 0 rfl rfl (ci := 13) rfl rfl rfl hl.1 rfl (Nat.le_of_ble_eq_true rfl) dX9_left_3 ⟨(Nat.zero_le _), (Nat.zero_le _)⟩ (fun H locs w => ?_)
  refine lv_aload_n hx hb dX9_left_6 rfl (lv_at hl 0 rfl) ?_
  refine lv_iload_n hx hb dX9_left_7 rfl (lv_at hl 1 rfl) ?_
  refine lv_iconst (v := 3) hx hb dX9_left_8 (by decide) ?_
  refine k_iV (As := [.int (nI i), .int 3]) (rest := [.int (pTurns S i), .int 0]) (Rs := []) (Bs' := [moB r F, arB ty (r 1) 215 (sqA 215 S)]) ⟨hx, hb, hml, hown, hts⟩ w (c_X9_of l D ty r F S i 3 (by omega)) (cwV 2 hts gX9_left_X9_of rfl rfl rfl ⟨rfl, hdN_X9_of⟩ ⟨Nat.le_of_ble_eq_true rfl, Nat.le_of_ble_eq_true rfl⟩) [0, 1] (nB := 2) (by decide) rfl rfl rfl rfl 0 rfl rfl (ci := 13) rfl rfl rfl hl.1 rfl (Nat.le_of_ble_eq_true rfl) dX9_left_9 ⟨(Nat.zero_le _), (Nat.zero_le _)⟩ (fun H locs w => ?_)
  refine lv_isub hx hb dX9_left_12 ?_
  refine lv_aload_n hx hb dX9_left_13 rfl (lv_at hl 0 rfl) ?_
  refine lv_iload_n hx hb dX9_left_14 rfl (lv_at hl 1 rfl) ?_
  refine lv_iconst (v := 4) hx hb dX9_left_15 (by decide) ?_
  refine k_iV (As := [.int (nI i), .int 4]) (rest := [.int ((pTurns S i) - (S (1 + 6 * i + 3))), .int 0]) (Rs := []) (Bs' := [moB r F, arB ty (r 1) 215 (sqA 215 S)]) ⟨hx, hb, hml, hown, hts⟩ w (c_X9_of l D ty r F S i 4 (by omega)) (cwV 2 hts gX9_left_X9_of rfl rfl rfl ⟨rfl, hdN_X9_of⟩ ⟨Nat.le_of_ble_eq_true rfl, Nat.le_of_ble_eq_true rfl⟩) [0, 1] (nB := 2) (by decide) rfl rfl rfl rfl 0 rfl rfl (ci := 13) rfl rfl rfl hl.1 rfl (Nat.le_of_ble_eq_true rfl) dX9_left_16 ⟨(Nat.zero_le _), (Nat.zero_le _)⟩ (fun H locs w => ?_)
  refine lv_isub hx hb dX9_left_19 ?_
  refine va_mmax hx hb (hml.trans hl.1.symm) hown (hts _ (List.mem_of_getElem? (i := 1) rfl)) (hts _ (List.mem_of_getElem? (i := 2) rfl)) (hts _ (List.mem_of_getElem? (i := 3) rfl)) (hts _ (List.mem_of_getElem? (i := 4) rfl)) (Nat.le_of_ble_eq_true rfl) (Nat.le_of_ble_eq_true rfl) (Nat.zero_le _) (Nat.zero_le _) dX9_left_20 ?_
  refine r_eq (y := (jmax 0 (((pTurns S i) - (S (1 + 6 * i + 3))) - (S (1 + 6 * i + 4))))) rfl ?_
  exact e_i hx hb hr hlocks w rfl dX9_left_23 (Nat.le_refl _) (Nat.le_refl _)

theorem in_X9_placeOf_X9 : ∀ w ∈ wsX90, w ∈ wsX9_placeOf := by decide +kernel
theorem hdN_X9_placeOf : yX9_placeOf.cls ≠ "java/lang/invoke/MethodHandle" ∧ yX9_placeOf.cls ≠ "java/lang/invoke/VarHandle" ∧ (parseMethodDescriptor yX9_placeOf.desc).map (fun d => d.parameters.length) = some 1 := by decide +kernel
set_option maxRecDepth 100000 in
set_option maxHeartbeats 4000000 in
theorem c_X9_placeOf (l : Launch) (D : va_G) (ty : Nat → ClassId) (r : Nat → Nat) (F S : pS) (q : Nat) (h1 : S 49 = nI q) (hq : q ≤ 8) (h : Int32)  : Mi l yX9_placeOf wsX9_placeOf (kR 0 0 0 0) D (kTY ty) [.ref (r 0), .int h] [moB r F, arB ty (r 1) 215 (sqA 215 S)] [moB r F, arB ty (r 1) 215 (sqA 215 S)] (pPl S h q) 0 0 := by
  refine m_i (cc := cX9_placeOf) (maxL := 4) (ret := (some .int)) (by decide +kernel) rfl (Nat.le_of_ble_eq_true rfl) ?_
  intro p e s m below meth c A ls hx hb hml hr hlocks hown hts w hl
  have hown : s.vm.findClass RX9 = some m.cls := hown
  have hl : lv_has ls 4 [(0, .ref (r 0)), (1, .int h)] := hl
  refine lv_iconst (v := (-1)) hx hb dX9_placeOf_0 (by decide) ?_
  refine lv_istore_n (lv' := [(2, .int (-1)), (0, .ref (r 0)), (1, .int h)]) hx hb dX9_placeOf_1 rfl hl (by decide) rfl (fun ls hl => ?_)
  refine lv_iconst (v := 0) hx hb dX9_placeOf_2 (by decide) ?_
  refine lv_istore_n (lv' := [(3, .int 0), (2, .int (-1)), (0, .ref (r 0)), (1, .int h)]) hx hb dX9_placeOf_3 rfl hl (by decide) rfl (fun ls hl => ?_)
  refine k_loop (fun k H locs ls => kW D (kTY ty) A s.heap s H locs [moB r F, arB ty (r 1) 215 (sqA 215 S)] ∧ lv_has ls 4 [(0, .ref (r 0)), (1, .int h), (2, .int (pPl S h k)), (3, .int (nI k))]) q 0 (by omega) ⟨w, lv_sub hl [2, 3, 1, 0] rfl⟩ ?_
  intro k hk0 hk ihk H locs ls hI
  obtain ⟨w, hl⟩ := hI
  refine lv_iload_n hx hb dX9_placeOf_4 rfl (lv_at hl 3 rfl) ?_
  refine lv_aload_n hx hb dX9_placeOf_5 rfl (lv_at hl 0 rfl) ?_
  refine r_get (v' := .ref (r 1)) hx hb hts in_X9_placeOf_X9 hown w 0 0 rfl rfl (ci := 13) rfl 0 (by decide) (hts _ (List.mem_of_getElem? (i := 1) rfl)) rfl rfl rfl dX9_placeOf_6 ?_
  refine lv_bipush (v := 49) hx hb dX9_placeOf_9 (by decide) ?_
  refine r_iald (v := (S 49)) hx hb w 1 0 rfl rfl 0 rfl 49 (by omega) (Nat.le_of_ble_eq_true rfl) rfl (sqA_at (by omega)) dX9_placeOf_11 ?_
  refine r_eq (y := (nI q)) h1 ?_
  refine lv_icmp_ge (tgt := 40) hx hb dX9_placeOf_12 (by decide) (fun c12 => ?_) (fun c12 => ?_)
  · have c12 := (nI_leI (a := q) (b := k) (by omega) (by omega)).mp c12
    obtain rfl : q = k := by omega
    refine lv_iload_n hx hb dX9_placeOf_40 rfl (lv_at hl 2 rfl) ?_
    exact e_i hx hb hr hlocks w rfl dX9_placeOf_41 (Nat.le_refl _) (Nat.le_refl _)
  · have c12 := mt (nI_leI (a := q) (b := k) (by omega) (by omega)).mpr c12
    refine lv_aload_n hx hb dX9_placeOf_15 rfl (lv_at hl 0 rfl) ?_
    refine r_get (v' := .ref (r 1)) hx hb hts in_X9_placeOf_X9 hown w 0 0 rfl rfl (ci := 13) rfl 0 (by decide) (hts _ (List.mem_of_getElem? (i := 1) rfl)) rfl rfl rfl dX9_placeOf_16 ?_
    refine lv_bipush (v := 50) hx hb dX9_placeOf_19 (by decide) ?_
    refine lv_iload_n hx hb dX9_placeOf_21 rfl (lv_at hl 3 rfl) ?_
    refine lv_iadd hx hb dX9_placeOf_22 ?_
    refine r_eq (y := (nI (50 + k))) (nI_add 50 k) ?_
    refine r_iald (v := (S (50 + k))) hx hb w 1 0 rfl rfl 0 rfl (50 + k) (by omega) (Nat.le_of_ble_eq_true rfl) rfl (sqA_at (by omega)) dX9_placeOf_23 ?_
    refine lv_iload_n hx hb dX9_placeOf_24 rfl (lv_at hl 1 rfl) ?_
    refine lv_icmp_ne (tgt := 32) hx hb dX9_placeOf_25 (by decide) (fun c25 => ?_) (fun c25 => ?_)
    · refine lv_iload_n hx hb dX9_placeOf_32 rfl (lv_at hl 2 rfl) ?_
      refine r_eq (y := (pPl S h (k + 1))) (by rw [pPl, if_neg c25]) ?_
      refine lv_istore_n (lv' := [(2, .int (pPl S h (k + 1))), (0, .ref (r 0)), (1, .int h), (3, .int (nI k))]) hx hb dX9_placeOf_33 rfl hl (by decide) rfl (fun ls hl => ?_)
      refine lv_iinc (v := (nI (k + 1))) (lv' := [(3, .int (nI (k + 1))), (2, .int (pPl S h (k + 1))), (0, .ref (r 0)), (1, .int h)]) hx hb dX9_placeOf_34 hl (k := 3) rfl (inc1 k) (by decide) rfl (fun ls hl => ?_)
      refine lv_goto (tgt := 4) hx hb dX9_placeOf_37 (by decide) ?_
      exact ihk _ _ _ ⟨w, lv_sub hl [2, 3, 1, 0] rfl⟩ (by omega)
    · refine lv_iload_n hx hb dX9_placeOf_28 rfl (lv_at hl 3 rfl) ?_
      refine lv_goto (tgt := 33) hx hb dX9_placeOf_29 (by decide) ?_
      refine r_eq (y := (pPl S h (k + 1))) (by rw [pPl, if_pos c25]) ?_
      refine lv_istore_n (lv' := [(2, .int (pPl S h (k + 1))), (0, .ref (r 0)), (1, .int h), (3, .int (nI k))]) hx hb dX9_placeOf_33 rfl hl (by decide) rfl (fun ls hl => ?_)
      refine lv_iinc (v := (nI (k + 1))) (lv' := [(3, .int (nI (k + 1))), (2, .int (pPl S h (k + 1))), (0, .ref (r 0)), (1, .int h)]) hx hb dX9_placeOf_34 hl (k := 3) rfl (inc1 k) (by decide) rfl (fun ls hl => ?_)
      refine lv_goto (tgt := 4) hx hb dX9_placeOf_37 (by decide) ?_
      exact ihk _ _ _ ⟨w, lv_sub hl [2, 3, 1, 0] rfl⟩ (by omega)

theorem in_X9_goesFrom_X9 : ∀ w ∈ wsX90, w ∈ wsX9_goesFrom := by decide +kernel
theorem hdN_X9_goesFrom : yX9_goesFrom.cls ≠ "java/lang/invoke/MethodHandle" ∧ yX9_goesFrom.cls ≠ "java/lang/invoke/VarHandle" ∧ (parseMethodDescriptor yX9_goesFrom.desc).map (fun d => d.parameters.length) = some 1 := by decide +kernel
set_option maxRecDepth 100000 in
set_option maxHeartbeats 4000000 in
theorem c_X9_goesFrom (l : Launch) (D : va_G) (ty : Nat → ClassId) (r : Nat → Nat) (F S : pS) (q : Nat) (h1 : S 49 = nI q) (hq : q ≤ 8) (u : Nat) (hu : u < q)  : Mv l yX9_goesFrom wsX9_goesFrom (kR 0 0 0 0) D (kTY ty) [.ref (r 0), .int (nI u)] [moB r F, arB ty (r 1) 215 (sqA 215 S)] [moB r F, arB ty (r 1) 215 (sqA 215 (sGo S q u))] 0 0 := by
  refine m_v (cc := cX9_goesFrom) (maxL := 3) (ret := none) (by decide +kernel) rfl (Nat.le_of_ble_eq_true rfl) ?_
  intro p e s m below meth c A ls hx hb hml hr hlocks hown hts w hl
  have hown : s.vm.findClass RX9 = some m.cls := hown
  have hl : lv_has ls 3 [(0, .ref (r 0)), (1, .int (nI u))] := hl
  refine lv_iload_n hx hb dX9_goesFrom_0 rfl (lv_at hl 1 rfl) ?_
  refine lv_istore_n (lv' := [(2, .int (nI u)), (0, .ref (r 0)), (1, .int (nI u))]) hx hb dX9_goesFrom_1 rfl hl (by decide) rfl (fun ls hl => ?_)
  refine k_loop (fun k H locs ls => kW D (kTY ty) A s.heap s H locs [moB r F, arB ty (r 1) 215 (sqA 215 (shf S u k))] ∧ lv_has ls 3 [(0, .ref (r 0)), (1, .int (nI u)), (2, .int (nI k))]) (q - 1) u (by omega) ⟨(w.cast (by rw [shf_0])), lv_sub hl [1, 2, 0] rfl⟩ ?_
  intro k hk0 hk ihk H locs ls hI
  obtain ⟨w, hl⟩ := hI
  refine lv_iload_n hx hb dX9_goesFrom_2 rfl (lv_at hl 2 rfl) ?_
  refine lv_iconst (v := 1) hx hb dX9_goesFrom_3 (by decide) ?_
  refine lv_iadd hx hb dX9_goesFrom_4 ?_
  refine r_eq (y := (nI (k + 1))) (nI_add k 1) ?_
  refine lv_aload_n hx hb dX9_goesFrom_5 rfl (lv_at hl 0 rfl) ?_
  refine r_get (v' := .ref (r 1)) hx hb hts in_X9_goesFrom_X9 hown w 0 0 rfl rfl (ci := 13) rfl 0 (by decide) (hts _ (List.mem_of_getElem? (i := 1) rfl)) rfl rfl rfl dX9_goesFrom_6 ?_
  refine lv_bipush (v := 49) hx hb dX9_goesFrom_9 (by decide) ?_
  refine r_iald (v := ((shf S u k) 49)) hx hb w 1 0 rfl rfl 0 rfl 49 (by omega) (Nat.le_of_ble_eq_true rfl) rfl (sqA_at (by omega)) dX9_goesFrom_11 ?_
  refine r_eq (y := (nI q)) ((shf_off (by omega)).trans h1) ?_
  refine lv_icmp_ge (tgt := 41) hx hb dX9_goesFrom_12 (by decide) (fun c12 => ?_) (fun c12 => ?_)
  · have c12 := (nI_leI (a := q) (b := (k + 1)) (by omega) (by omega)).mp c12
    obtain rfl : q - 1 = k := by omega
    refine lv_aload_n hx hb dX9_goesFrom_41 rfl (lv_at hl 0 rfl) ?_
    refine r_get (v' := .ref (r 1)) hx hb hts in_X9_goesFrom_X9 hown w 0 0 rfl rfl (ci := 13) rfl 0 (by decide) (hts _ (List.mem_of_getElem? (i := 1) rfl)) rfl rfl rfl dX9_goesFrom_42 ?_
    refine lv_bipush (v := 49) hx hb dX9_goesFrom_45 (by decide) ?_
    refine lv_dup2_11 hx hb dX9_goesFrom_47 rfl rfl ?_
    refine r_iald (v := ((shf S u (q - 1)) 49)) hx hb w 1 0 rfl rfl 0 rfl 49 (by omega) (Nat.le_of_ble_eq_true rfl) rfl (sqA_at (by omega)) dX9_goesFrom_48 ?_
    refine r_eq (y := (nI q)) ((shf_off (by omega)).trans h1) ?_
    refine lv_iconst (v := 1) hx hb dX9_goesFrom_49 (by decide) ?_
    refine lv_isub hx hb dX9_goesFrom_50 ?_
    refine r_eq (y := (nI (q - 1))) (pk_sub (a := q) (b := 1) (by omega)) ?_
    refine r_iast hx hb w 1 0 rfl rfl 0 rfl 49 (by omega) (Nat.le_of_ble_eq_true rfl) rfl (arB ty (r 1) 215 (sqA 215 (sGo S q u))) ((arB_st (by omega)).trans (by rw [shf_go (by omega)])) [moB r F, arB ty (r 1) 215 (sqA 215 (sGo S q u))] rfl dX9_goesFrom_51 (fun H locs w => ?_)
    exact e_v hx hb hr hlocks w dX9_goesFrom_52 (Nat.le_refl _) (Nat.le_refl _)
  · have c12 := mt (nI_leI (a := q) (b := (k + 1)) (by omega) (by omega)).mpr c12
    refine lv_aload_n hx hb dX9_goesFrom_15 rfl (lv_at hl 0 rfl) ?_
    refine r_get (v' := .ref (r 1)) hx hb hts in_X9_goesFrom_X9 hown w 0 0 rfl rfl (ci := 13) rfl 0 (by decide) (hts _ (List.mem_of_getElem? (i := 1) rfl)) rfl rfl rfl dX9_goesFrom_16 ?_
    refine lv_bipush (v := 50) hx hb dX9_goesFrom_19 (by decide) ?_
    refine lv_iload_n hx hb dX9_goesFrom_21 rfl (lv_at hl 2 rfl) ?_
    refine lv_iadd hx hb dX9_goesFrom_22 ?_
    refine r_eq (y := (nI (50 + k))) (nI_add 50 k) ?_
    refine lv_aload_n hx hb dX9_goesFrom_23 rfl (lv_at hl 0 rfl) ?_
    refine r_get (v' := .ref (r 1)) hx hb hts in_X9_goesFrom_X9 hown w 0 0 rfl rfl (ci := 13) rfl 0 (by decide) (hts _ (List.mem_of_getElem? (i := 1) rfl)) rfl rfl rfl dX9_goesFrom_24 ?_
    refine lv_bipush (v := 50) hx hb dX9_goesFrom_27 (by decide) ?_
    refine lv_iload_n hx hb dX9_goesFrom_29 rfl (lv_at hl 2 rfl) ?_
    refine lv_iadd hx hb dX9_goesFrom_30 ?_
    refine r_eq (y := (nI (50 + k))) (nI_add 50 k) ?_
    refine lv_iconst (v := 1) hx hb dX9_goesFrom_31 (by decide) ?_
    refine lv_iadd hx hb dX9_goesFrom_32 ?_
    refine r_eq (y := (nI ((50 + k) + 1))) (nI_add (50 + k) 1) ?_
    refine r_iald (v := ((shf S u k) ((50 + k) + 1))) hx hb w 1 0 rfl rfl 0 rfl ((50 + k) + 1) (by omega) (Nat.le_of_ble_eq_true rfl) rfl (sqA_at (by omega)) dX9_goesFrom_33 ?_
    refine r_iast hx hb w 1 0 rfl rfl 0 rfl (50 + k) (by omega) (Nat.le_of_ble_eq_true rfl) rfl (arB ty (r 1) 215 (sqA 215 (shf S u (k + 1)))) ((arB_st (by omega)).trans (by rw [shf_s (by omega)])) [moB r F, arB ty (r 1) 215 (sqA 215 (shf S u (k + 1)))] rfl dX9_goesFrom_34 (fun H locs w => ?_)
    refine lv_iinc (v := (nI (k + 1))) (lv' := [(2, .int (nI (k + 1))), (0, .ref (r 0)), (1, .int (nI u))]) hx hb dX9_goesFrom_35 hl (k := 2) rfl (inc1 k) (by decide) rfl (fun ls hl => ?_)
    refine lv_goto (tgt := 2) hx hb dX9_goesFrom_38 (by decide) ?_
    exact ihk _ _ _ ⟨w, lv_sub hl [1, 2, 0] rfl⟩ (by omega)

theorem in_X9_comesTo_X9 : ∀ w ∈ wsX90, w ∈ wsX9_comesTo := by decide +kernel
theorem hdN_X9_comesTo : yX9_comesTo.cls ≠ "java/lang/invoke/MethodHandle" ∧ yX9_comesTo.cls ≠ "java/lang/invoke/VarHandle" ∧ (parseMethodDescriptor yX9_comesTo.desc).map (fun d => d.parameters.length) = some 1 := by decide +kernel
set_option maxRecDepth 100000 in
set_option maxHeartbeats 4000000 in
theorem c_X9_comesTo (l : Launch) (D : va_G) (ty : Nat → ClassId) (r : Nat → Nat) (F S : pS) (q : Nat) (h1 : S 49 = nI q) (hq : q < 8) (i : Nat)  : Mv l yX9_comesTo wsX9_comesTo (kR 0 0 0 0) D (kTY ty) [.ref (r 0), .int (nI i)] [moB r F, arB ty (r 1) 215 (sqA 215 S)] [moB r F, arB ty (r 1) 215 (sqA 215 (sCome S q i))] 0 0 := by
  refine m_v (cc := cX9_comesTo) (maxL := 2) (ret := none) (by decide +kernel) rfl (Nat.le_of_ble_eq_true rfl) ?_
  intro p e s m below meth c A ls hx hb hml hr hlocks hown hts w hl
  have hown : s.vm.findClass RX9 = some m.cls := hown
  have hl : lv_has ls 2 [(0, .ref (r 0)), (1, .int (nI i))] := hl
  refine lv_aload_n hx hb dX9_comesTo_0 rfl (lv_at hl 0 rfl) ?_
  refine r_get (v' := .ref (r 1)) hx hb hts in_X9_comesTo_X9 hown w 0 0 rfl rfl (ci := 13) rfl 0 (by decide) (hts _ (List.mem_of_getElem? (i := 1) rfl)) rfl rfl rfl dX9_comesTo_1 ?_
  refine lv_bipush (v := 50) hx hb dX9_comesTo_4 (by decide) ?_
  refine lv_aload_n hx hb dX9_comesTo_6 rfl (lv_at hl 0 rfl) ?_
  refine r_get (v' := .ref (r 1)) hx hb hts in_X9_comesTo_X9 hown w 0 0 rfl rfl (ci := 13) rfl 0 (by decide) (hts _ (List.mem_of_getElem? (i := 1) rfl)) rfl rfl rfl dX9_comesTo_7 ?_
  refine lv_bipush (v := 49) hx hb dX9_comesTo_10 (by decide) ?_
  refine r_iald (v := (S 49)) hx hb w 1 0 rfl rfl 0 rfl 49 (by omega) (Nat.le_of_ble_eq_true rfl) rfl (sqA_at (by omega)) dX9_comesTo_12 ?_
  refine r_eq (y := (nI q)) h1 ?_
  refine lv_iadd hx hb dX9_comesTo_13 ?_
  refine r_eq (y := (nI (50 + q))) (nI_add 50 q) ?_
  refine lv_iload_n hx hb dX9_comesTo_14 rfl (lv_at hl 1 rfl) ?_
  refine r_iast hx hb w 1 0 rfl rfl 0 rfl (50 + q) (by omega) (Nat.le_of_ble_eq_true rfl) rfl (arB ty (r 1) 215 (sqA 215 (upd S (50 + q) (nI i)))) (arB_st (by omega)) [moB r F, arB ty (r 1) 215 (sqA 215 (upd S (50 + q) (nI i)))] rfl dX9_comesTo_15 (fun H locs w => ?_)
  refine lv_aload_n hx hb dX9_comesTo_16 rfl (lv_at hl 0 rfl) ?_
  refine r_get (v' := .ref (r 1)) hx hb hts in_X9_comesTo_X9 hown w 0 0 rfl rfl (ci := 13) rfl 0 (by decide) (hts _ (List.mem_of_getElem? (i := 1) rfl)) rfl rfl rfl dX9_comesTo_17 ?_
  refine lv_bipush (v := 49) hx hb dX9_comesTo_20 (by decide) ?_
  refine lv_dup2_11 hx hb dX9_comesTo_22 rfl rfl ?_
  refine r_iald (v := ((upd S (50 + q) (nI i)) 49)) hx hb w 1 0 rfl rfl 0 rfl 49 (by omega) (Nat.le_of_ble_eq_true rfl) rfl (sqA_at (by omega)) dX9_comesTo_23 ?_
  refine r_eq (y := (nI q)) ((updn (by omega)).trans h1) ?_
  refine lv_iconst (v := 1) hx hb dX9_comesTo_24 (by decide) ?_
  refine lv_iadd hx hb dX9_comesTo_25 ?_
  refine r_eq (y := (nI (q + 1))) (nI_add q 1) ?_
  refine r_iast hx hb w 1 0 rfl rfl 0 rfl 49 (by omega) (Nat.le_of_ble_eq_true rfl) rfl (arB ty (r 1) 215 (sqA 215 (upd (upd S (50 + q) (nI i)) 49 (nI (q + 1))))) (arB_st (by omega)) [moB r F, arB ty (r 1) 215 (sqA 215 (upd (upd S (50 + q) (nI i)) 49 (nI (q + 1))))] rfl dX9_comesTo_26 (fun H locs w => ?_)
  exact e_v hx hb hr hlocks w dX9_comesTo_27 (Nat.le_refl _) (Nat.le_refl _)

theorem in_X9_notes_X9 : ∀ w ∈ wsX90, w ∈ wsX9_notes := by decide +kernel
theorem hdN_X9_notes : yX9_notes.cls ≠ "java/lang/invoke/MethodHandle" ∧ yX9_notes.cls ≠ "java/lang/invoke/VarHandle" ∧ (parseMethodDescriptor yX9_notes.desc).map (fun d => d.parameters.length) = some 3 := by decide +kernel
set_option maxRecDepth 100000 in
set_option maxHeartbeats 4000000 in
theorem c_X9_notes (l : Launch) (D : va_G) (ty : Nat → ClassId) (r : Nat → Nat) (F S : pS) (mm : Nat) (h2 : S 122 = nI mm) (hc : mm ≤ 20) (kd o t : Int32)  : Mv l yX9_notes wsX9_notes (kR 0 0 0 0) D (kTY ty) [.ref (r 0), .int kd, .int o, .int t] [moB r F, arB ty (r 1) 215 (sqA 215 S)] [moB r F, arB ty (r 1) 215 (sqA 215 (sNote S kd o t))] 0 0 := by
  refine m_v (cc := cX9_notes) (maxL := 5) (ret := none) (by decide +kernel) rfl (Nat.le_of_ble_eq_true rfl) ?_
  intro p e s m below meth c A ls hx hb hml hr hlocks hown hts w hl
  have hown : s.vm.findClass RX9 = some m.cls := hown
  have hl : lv_has ls 5 [(0, .ref (r 0)), (1, .int kd), (2, .int o), (3, .int t)] := hl
  refine lv_aload_n hx hb dX9_notes_0 rfl (lv_at hl 0 rfl) ?_
  refine r_get (v' := .ref (r 1)) hx hb hts in_X9_notes_X9 hown w 0 0 rfl rfl (ci := 13) rfl 0 (by decide) (hts _ (List.mem_of_getElem? (i := 1) rfl)) rfl rfl rfl dX9_notes_1 ?_
  refine lv_bipush (v := 122) hx hb dX9_notes_4 (by decide) ?_
  refine r_iald (v := (S 122)) hx hb w 1 0 rfl rfl 0 rfl 122 (by omega) (Nat.le_of_ble_eq_true rfl) rfl (sqA_at (by omega)) dX9_notes_6 ?_
  refine r_eq (y := (nI mm)) h2 ?_
  refine lv_bipush (v := 20) hx hb dX9_notes_7 (by decide) ?_
  refine lv_icmp_ne (tgt := 57) hx hb dX9_notes_9 (by decide) (fun c9 => ?_) (fun c9 => ?_)
  · have c9 := mt (nI_eq (a := mm) (b := 20) (by omega) (by omega)).mpr c9
    refine lv_bipush (v := 123) hx hb dX9_notes_57 (by decide) ?_
    refine lv_iconst (v := 4) hx hb dX9_notes_59 (by decide) ?_
    refine lv_aload_n hx hb dX9_notes_60 rfl (lv_at hl 0 rfl) ?_
    refine r_get (v' := .ref (r 1)) hx hb hts in_X9_notes_X9 hown w 0 0 rfl rfl (ci := 13) rfl 0 (by decide) (hts _ (List.mem_of_getElem? (i := 1) rfl)) rfl rfl rfl dX9_notes_61 ?_
    refine lv_bipush (v := 122) hx hb dX9_notes_64 (by decide) ?_
    refine r_iald (v := (S 122)) hx hb w 1 0 rfl rfl 0 rfl 122 (by omega) (Nat.le_of_ble_eq_true rfl) rfl (sqA_at (by omega)) dX9_notes_66 ?_
    refine r_eq (y := (nI mm)) h2 ?_
    refine lv_imul hx hb dX9_notes_67 ?_
    refine r_eq (y := (nI (4 * mm))) (pk_mul 4 mm) ?_
    refine lv_iadd hx hb dX9_notes_68 ?_
    refine r_eq (y := (nI (123 + (4 * mm)))) (nI_add 123 (4 * mm)) ?_
    refine lv_istore (lv' := [(4, .int (nI (123 + (4 * mm)))), (0, .ref (r 0)), (1, .int kd), (2, .int o), (3, .int t)]) hx hb dX9_notes_69 hl (by decide) rfl (fun ls hl => ?_)
    refine lv_aload_n hx hb dX9_notes_71 rfl (lv_at hl 1 rfl) ?_
    refine r_get (v' := .ref (r 1)) hx hb hts in_X9_notes_X9 hown w 0 0 rfl rfl (ci := 13) rfl 0 (by decide) (hts _ (List.mem_of_getElem? (i := 1) rfl)) rfl rfl rfl dX9_notes_72 ?_
    refine lv_iload hx hb dX9_notes_75 (lv_at hl 0 rfl) ?_
    refine lv_iload_n hx hb dX9_notes_77 rfl (lv_at hl 2 rfl) ?_
    refine r_iast hx hb w 1 0 rfl rfl 0 rfl (123 + (4 * mm)) (by omega) (Nat.le_of_ble_eq_true rfl) rfl (arB ty (r 1) 215 (sqA 215 (upd S (123 + (4 * mm)) kd))) (arB_st (by omega)) [moB r F, arB ty (r 1) 215 (sqA 215 (upd S (123 + (4 * mm)) kd))] rfl dX9_notes_78 (fun H locs w => ?_)
    refine lv_aload_n hx hb dX9_notes_79 rfl (lv_at hl 1 rfl) ?_
    refine r_get (v' := .ref (r 1)) hx hb hts in_X9_notes_X9 hown w 0 0 rfl rfl (ci := 13) rfl 0 (by decide) (hts _ (List.mem_of_getElem? (i := 1) rfl)) rfl rfl rfl dX9_notes_80 ?_
    refine lv_iload hx hb dX9_notes_83 (lv_at hl 0 rfl) ?_
    refine lv_iconst (v := 1) hx hb dX9_notes_85 (by decide) ?_
    refine lv_iadd hx hb dX9_notes_86 ?_
    refine r_eq (y := (nI ((123 + (4 * mm)) + 1))) (nI_add (123 + (4 * mm)) 1) ?_
    refine lv_aload_n hx hb dX9_notes_87 rfl (lv_at hl 1 rfl) ?_
    refine r_get (v' := .ref (r 1)) hx hb hts in_X9_notes_X9 hown w 0 0 rfl rfl (ci := 13) rfl 0 (by decide) (hts _ (List.mem_of_getElem? (i := 1) rfl)) rfl rfl rfl dX9_notes_88 ?_
    refine lv_sipush (v := 206) hx hb dX9_notes_91 (by decide) ?_
    refine r_iald (v := ((upd S (123 + (4 * mm)) kd) 206)) hx hb w 1 0 rfl rfl 0 rfl 206 (by omega) (Nat.le_of_ble_eq_true rfl) rfl (sqA_at (by omega)) dX9_notes_94 ?_
    refine r_eq (y := (S 206)) ((updn (by omega)).trans rfl) ?_
    refine r_iast hx hb w 1 0 rfl rfl 0 rfl ((123 + (4 * mm)) + 1) (by omega) (Nat.le_of_ble_eq_true rfl) rfl (arB ty (r 1) 215 (sqA 215 (upd (upd S (123 + (4 * mm)) kd) ((123 + (4 * mm)) + 1) (S 206)))) (arB_st (by omega)) [moB r F, arB ty (r 1) 215 (sqA 215 (upd (upd S (123 + (4 * mm)) kd) ((123 + (4 * mm)) + 1) (S 206)))] rfl dX9_notes_95 (fun H locs w => ?_)
    refine lv_aload_n hx hb dX9_notes_96 rfl (lv_at hl 1 rfl) ?_
    refine r_get (v' := .ref (r 1)) hx hb hts in_X9_notes_X9 hown w 0 0 rfl rfl (ci := 13) rfl 0 (by decide) (hts _ (List.mem_of_getElem? (i := 1) rfl)) rfl rfl rfl dX9_notes_97 ?_
    refine lv_iload hx hb dX9_notes_100 (lv_at hl 0 rfl) ?_
    refine lv_iconst (v := 2) hx hb dX9_notes_102 (by decide) ?_
    refine lv_iadd hx hb dX9_notes_103 ?_
    refine r_eq (y := (nI ((123 + (4 * mm)) + 2))) (nI_add (123 + (4 * mm)) 2) ?_
    refine lv_iload_n hx hb dX9_notes_104 rfl (lv_at hl 3 rfl) ?_
    refine r_iast hx hb w 1 0 rfl rfl 0 rfl ((123 + (4 * mm)) + 2) (by omega) (Nat.le_of_ble_eq_true rfl) rfl (arB ty (r 1) 215 (sqA 215 (upd (upd (upd S (123 + (4 * mm)) kd) ((123 + (4 * mm)) + 1) (S 206)) ((123 + (4 * mm)) + 2) o))) (arB_st (by omega)) [moB r F, arB ty (r 1) 215 (sqA 215 (upd (upd (upd S (123 + (4 * mm)) kd) ((123 + (4 * mm)) + 1) (S 206)) ((123 + (4 * mm)) + 2) o))] rfl dX9_notes_105 (fun H locs w => ?_)
    refine lv_aload_n hx hb dX9_notes_106 rfl (lv_at hl 1 rfl) ?_
    refine r_get (v' := .ref (r 1)) hx hb hts in_X9_notes_X9 hown w 0 0 rfl rfl (ci := 13) rfl 0 (by decide) (hts _ (List.mem_of_getElem? (i := 1) rfl)) rfl rfl rfl dX9_notes_107 ?_
    refine lv_iload hx hb dX9_notes_110 (lv_at hl 0 rfl) ?_
    refine lv_iconst (v := 3) hx hb dX9_notes_112 (by decide) ?_
    refine lv_iadd hx hb dX9_notes_113 ?_
    refine r_eq (y := (nI ((123 + (4 * mm)) + 3))) (nI_add (123 + (4 * mm)) 3) ?_
    refine lv_iload_n hx hb dX9_notes_114 rfl (lv_at hl 4 rfl) ?_
    refine r_iast hx hb w 1 0 rfl rfl 0 rfl ((123 + (4 * mm)) + 3) (by omega) (Nat.le_of_ble_eq_true rfl) rfl (arB ty (r 1) 215 (sqA 215 (upd (upd (upd (upd S (123 + (4 * mm)) kd) ((123 + (4 * mm)) + 1) (S 206)) ((123 + (4 * mm)) + 2) o) ((123 + (4 * mm)) + 3) t))) (arB_st (by omega)) [moB r F, arB ty (r 1) 215 (sqA 215 (upd (upd (upd (upd S (123 + (4 * mm)) kd) ((123 + (4 * mm)) + 1) (S 206)) ((123 + (4 * mm)) + 2) o) ((123 + (4 * mm)) + 3) t))] rfl dX9_notes_115 (fun H locs w => ?_)
    refine lv_aload_n hx hb dX9_notes_116 rfl (lv_at hl 1 rfl) ?_
    refine r_get (v' := .ref (r 1)) hx hb hts in_X9_notes_X9 hown w 0 0 rfl rfl (ci := 13) rfl 0 (by decide) (hts _ (List.mem_of_getElem? (i := 1) rfl)) rfl rfl rfl dX9_notes_117 ?_
    refine lv_bipush (v := 122) hx hb dX9_notes_120 (by decide) ?_
    refine lv_dup2_11 hx hb dX9_notes_122 rfl rfl ?_
    refine r_iald (v := ((upd (upd (upd (upd S (123 + (4 * mm)) kd) ((123 + (4 * mm)) + 1) (S 206)) ((123 + (4 * mm)) + 2) o) ((123 + (4 * mm)) + 3) t) 122)) hx hb w 1 0 rfl rfl 0 rfl 122 (by omega) (Nat.le_of_ble_eq_true rfl) rfl (sqA_at (by omega)) dX9_notes_123 ?_
    refine r_eq (y := (nI mm)) ((updn (by omega)).trans ((updn (by omega)).trans ((updn (by omega)).trans ((updn (by omega)).trans h2)))) ?_
    refine lv_iconst (v := 1) hx hb dX9_notes_124 (by decide) ?_
    refine lv_iadd hx hb dX9_notes_125 ?_
    refine r_eq (y := (nI (mm + 1))) (nI_add mm 1) ?_
    refine r_iast hx hb w 1 0 rfl rfl 0 rfl 122 (by omega) (Nat.le_of_ble_eq_true rfl) rfl (arB ty (r 1) 215 (sqA 215 (upd (upd (upd (upd (upd S (123 + (4 * mm)) kd) ((123 + (4 * mm)) + 1) (S 206)) ((123 + (4 * mm)) + 2) o) ((123 + (4 * mm)) + 3) t) 122 (nI (mm + 1))))) (arB_st (by omega)) [moB r F, arB ty (r 1) 215 (sqA 215 (upd (upd (upd (upd (upd S (123 + (4 * mm)) kd) ((123 + (4 * mm)) + 1) (S 206)) ((123 + (4 * mm)) + 2) o) ((123 + (4 * mm)) + 3) t) 122 (nI (mm + 1))))] rfl dX9_notes_126 (fun H locs w => ?_)
    exact e_v hx hb hr hlocks (w.cast (by rw [← note_n h2 hc c9]; rfl)) dX9_notes_127 (Nat.le_refl _) (Nat.le_refl _)
  · have c9 := (nI_eq (a := mm) (b := 20) (by omega) (by omega)).mp c9
    refine lv_bipush (v := 123) hx hb dX9_notes_12 (by decide) ?_
    refine lv_istore (lv' := [(4, .int 123), (0, .ref (r 0)), (1, .int kd), (2, .int o), (3, .int t)]) hx hb dX9_notes_14 hl (by decide) rfl (fun ls hl => ?_)
    refine k_loop (fun k H locs ls => kW D (kTY ty) A s.heap s H locs [moB r F, arB ty (r 1) 215 (sqA 215 (shN S k))] ∧ lv_has ls 5 [(0, .ref (r 0)), (1, .int kd), (2, .int o), (3, .int t), (4, .int (nI (123 + k)))]) 76 0 (by omega) ⟨(w.cast (by rw [shN_0])), lv_sub hl [1, 2, 3, 4, 0] rfl⟩ ?_
    intro k hk0 hk ihk H locs ls hI
    obtain ⟨w, hl⟩ := hI
    refine lv_iload hx hb dX9_notes_16 (lv_at hl 4 rfl) ?_
    refine lv_sipush (v := 199) hx hb dX9_notes_18 (by decide) ?_
    refine lv_icmp_ge (tgt := 46) hx hb dX9_notes_21 (by decide) (fun c21 => ?_) (fun c21 => ?_)
    · have c21 := (nI_leI (a := 199) (b := (123 + k)) (by omega) (by omega)).mp c21
      obtain rfl : 76 = k := by omega
      refine lv_aload_n hx hb dX9_notes_46 rfl (lv_at hl 0 rfl) ?_
      refine r_get (v' := .ref (r 1)) hx hb hts in_X9_notes_X9 hown w 0 0 rfl rfl (ci := 13) rfl 0 (by decide) (hts _ (List.mem_of_getElem? (i := 1) rfl)) rfl rfl rfl dX9_notes_47 ?_
      refine lv_bipush (v := 122) hx hb dX9_notes_50 (by decide) ?_
      refine lv_dup2_11 hx hb dX9_notes_52 rfl rfl ?_
      refine r_iald (v := ((shN S 76) 122)) hx hb w 1 0 rfl rfl 0 rfl 122 (by omega) (Nat.le_of_ble_eq_true rfl) rfl (sqA_at (by omega)) dX9_notes_53 ?_
      refine r_eq (y := (nI mm)) ((shN_off (by omega)).trans h2) ?_
      refine lv_iconst (v := 1) hx hb dX9_notes_54 (by decide) ?_
      refine lv_isub hx hb dX9_notes_55 ?_
      refine r_eq (y := (nI (mm - 1))) (pk_sub (a := mm) (b := 1) (by omega)) ?_
      refine r_iast hx hb w 1 0 rfl rfl 0 rfl 122 (by omega) (Nat.le_of_ble_eq_true rfl) rfl (arB ty (r 1) 215 (sqA 215 (upd (shN S 76) 122 (nI (mm - 1))))) (arB_st (by omega)) [moB r F, arB ty (r 1) 215 (sqA 215 (upd (shN S 76) 122 (nI (mm - 1))))] rfl dX9_notes_56 (fun H locs w => ?_)
      refine lv_bipush (v := 123) hx hb dX9_notes_57 (by decide) ?_
      refine lv_iconst (v := 4) hx hb dX9_notes_59 (by decide) ?_
      refine lv_aload_n hx hb dX9_notes_60 rfl (lv_at hl 0 rfl) ?_
      refine r_get (v' := .ref (r 1)) hx hb hts in_X9_notes_X9 hown w 0 0 rfl rfl (ci := 13) rfl 0 (by decide) (hts _ (List.mem_of_getElem? (i := 1) rfl)) rfl rfl rfl dX9_notes_61 ?_
      refine lv_bipush (v := 122) hx hb dX9_notes_64 (by decide) ?_
      refine r_iald (v := (nI (mm - 1))) hx hb w 1 0 rfl rfl 0 rfl 122 (by omega) (Nat.le_of_ble_eq_true rfl) rfl (sqA_at (by omega)) dX9_notes_66 ?_
      refine lv_imul hx hb dX9_notes_67 ?_
      refine r_eq (y := (nI (4 * (mm - 1)))) (pk_mul 4 (mm - 1)) ?_
      refine lv_iadd hx hb dX9_notes_68 ?_
      refine r_eq (y := (nI (123 + (4 * (mm - 1))))) (nI_add 123 (4 * (mm - 1))) ?_
      refine lv_istore (lv' := [(4, .int (nI (123 + (4 * (mm - 1))))), (0, .ref (r 0)), (1, .int kd), (2, .int o), (3, .int t)]) hx hb dX9_notes_69 hl (by decide) rfl (fun ls hl => ?_)
      refine lv_aload_n hx hb dX9_notes_71 rfl (lv_at hl 1 rfl) ?_
      refine r_get (v' := .ref (r 1)) hx hb hts in_X9_notes_X9 hown w 0 0 rfl rfl (ci := 13) rfl 0 (by decide) (hts _ (List.mem_of_getElem? (i := 1) rfl)) rfl rfl rfl dX9_notes_72 ?_
      refine lv_iload hx hb dX9_notes_75 (lv_at hl 0 rfl) ?_
      refine lv_iload_n hx hb dX9_notes_77 rfl (lv_at hl 2 rfl) ?_
      refine r_iast hx hb w 1 0 rfl rfl 0 rfl (123 + (4 * (mm - 1))) (by omega) (Nat.le_of_ble_eq_true rfl) rfl (arB ty (r 1) 215 (sqA 215 (upd (upd (shN S 76) 122 (nI (mm - 1))) (123 + (4 * (mm - 1))) kd))) (arB_st (by omega)) [moB r F, arB ty (r 1) 215 (sqA 215 (upd (upd (shN S 76) 122 (nI (mm - 1))) (123 + (4 * (mm - 1))) kd))] rfl dX9_notes_78 (fun H locs w => ?_)
      refine lv_aload_n hx hb dX9_notes_79 rfl (lv_at hl 1 rfl) ?_
      refine r_get (v' := .ref (r 1)) hx hb hts in_X9_notes_X9 hown w 0 0 rfl rfl (ci := 13) rfl 0 (by decide) (hts _ (List.mem_of_getElem? (i := 1) rfl)) rfl rfl rfl dX9_notes_80 ?_
      refine lv_iload hx hb dX9_notes_83 (lv_at hl 0 rfl) ?_
      refine lv_iconst (v := 1) hx hb dX9_notes_85 (by decide) ?_
      refine lv_iadd hx hb dX9_notes_86 ?_
      refine r_eq (y := (nI ((123 + (4 * (mm - 1))) + 1))) (nI_add (123 + (4 * (mm - 1))) 1) ?_
      refine lv_aload_n hx hb dX9_notes_87 rfl (lv_at hl 1 rfl) ?_
      refine r_get (v' := .ref (r 1)) hx hb hts in_X9_notes_X9 hown w 0 0 rfl rfl (ci := 13) rfl 0 (by decide) (hts _ (List.mem_of_getElem? (i := 1) rfl)) rfl rfl rfl dX9_notes_88 ?_
      refine lv_sipush (v := 206) hx hb dX9_notes_91 (by decide) ?_
      refine r_iald (v := ((upd (upd (shN S 76) 122 (nI (mm - 1))) (123 + (4 * (mm - 1))) kd) 206)) hx hb w 1 0 rfl rfl 0 rfl 206 (by omega) (Nat.le_of_ble_eq_true rfl) rfl (sqA_at (by omega)) dX9_notes_94 ?_
      refine r_eq (y := (S 206)) ((updn (by omega)).trans ((updn (by omega)).trans (shN_off (by omega)))) ?_
      refine r_iast hx hb w 1 0 rfl rfl 0 rfl ((123 + (4 * (mm - 1))) + 1) (by omega) (Nat.le_of_ble_eq_true rfl) rfl (arB ty (r 1) 215 (sqA 215 (upd (upd (upd (shN S 76) 122 (nI (mm - 1))) (123 + (4 * (mm - 1))) kd) ((123 + (4 * (mm - 1))) + 1) (S 206)))) (arB_st (by omega)) [moB r F, arB ty (r 1) 215 (sqA 215 (upd (upd (upd (shN S 76) 122 (nI (mm - 1))) (123 + (4 * (mm - 1))) kd) ((123 + (4 * (mm - 1))) + 1) (S 206)))] rfl dX9_notes_95 (fun H locs w => ?_)
      refine lv_aload_n hx hb dX9_notes_96 rfl (lv_at hl 1 rfl) ?_
      refine r_get (v' := .ref (r 1)) hx hb hts in_X9_notes_X9 hown w 0 0 rfl rfl (ci := 13) rfl 0 (by decide) (hts _ (List.mem_of_getElem? (i := 1) rfl)) rfl rfl rfl dX9_notes_97 ?_
      refine lv_iload hx hb dX9_notes_100 (lv_at hl 0 rfl) ?_
      refine lv_iconst (v := 2) hx hb dX9_notes_102 (by decide) ?_
      refine lv_iadd hx hb dX9_notes_103 ?_
      refine r_eq (y := (nI ((123 + (4 * (mm - 1))) + 2))) (nI_add (123 + (4 * (mm - 1))) 2) ?_
      refine lv_iload_n hx hb dX9_notes_104 rfl (lv_at hl 3 rfl) ?_
      refine r_iast hx hb w 1 0 rfl rfl 0 rfl ((123 + (4 * (mm - 1))) + 2) (by omega) (Nat.le_of_ble_eq_true rfl) rfl (arB ty (r 1) 215 (sqA 215 (upd (upd (upd (upd (shN S 76) 122 (nI (mm - 1))) (123 + (4 * (mm - 1))) kd) ((123 + (4 * (mm - 1))) + 1) (S 206)) ((123 + (4 * (mm - 1))) + 2) o))) (arB_st (by omega)) [moB r F, arB ty (r 1) 215 (sqA 215 (upd (upd (upd (upd (shN S 76) 122 (nI (mm - 1))) (123 + (4 * (mm - 1))) kd) ((123 + (4 * (mm - 1))) + 1) (S 206)) ((123 + (4 * (mm - 1))) + 2) o))] rfl dX9_notes_105 (fun H locs w => ?_)
      refine lv_aload_n hx hb dX9_notes_106 rfl (lv_at hl 1 rfl) ?_
      refine r_get (v' := .ref (r 1)) hx hb hts in_X9_notes_X9 hown w 0 0 rfl rfl (ci := 13) rfl 0 (by decide) (hts _ (List.mem_of_getElem? (i := 1) rfl)) rfl rfl rfl dX9_notes_107 ?_
      refine lv_iload hx hb dX9_notes_110 (lv_at hl 0 rfl) ?_
      refine lv_iconst (v := 3) hx hb dX9_notes_112 (by decide) ?_
      refine lv_iadd hx hb dX9_notes_113 ?_
      refine r_eq (y := (nI ((123 + (4 * (mm - 1))) + 3))) (nI_add (123 + (4 * (mm - 1))) 3) ?_
      refine lv_iload_n hx hb dX9_notes_114 rfl (lv_at hl 4 rfl) ?_
      refine r_iast hx hb w 1 0 rfl rfl 0 rfl ((123 + (4 * (mm - 1))) + 3) (by omega) (Nat.le_of_ble_eq_true rfl) rfl (arB ty (r 1) 215 (sqA 215 (upd (upd (upd (upd (upd (shN S 76) 122 (nI (mm - 1))) (123 + (4 * (mm - 1))) kd) ((123 + (4 * (mm - 1))) + 1) (S 206)) ((123 + (4 * (mm - 1))) + 2) o) ((123 + (4 * (mm - 1))) + 3) t))) (arB_st (by omega)) [moB r F, arB ty (r 1) 215 (sqA 215 (upd (upd (upd (upd (upd (shN S 76) 122 (nI (mm - 1))) (123 + (4 * (mm - 1))) kd) ((123 + (4 * (mm - 1))) + 1) (S 206)) ((123 + (4 * (mm - 1))) + 2) o) ((123 + (4 * (mm - 1))) + 3) t))] rfl dX9_notes_115 (fun H locs w => ?_)
      refine lv_aload_n hx hb dX9_notes_116 rfl (lv_at hl 1 rfl) ?_
      refine r_get (v' := .ref (r 1)) hx hb hts in_X9_notes_X9 hown w 0 0 rfl rfl (ci := 13) rfl 0 (by decide) (hts _ (List.mem_of_getElem? (i := 1) rfl)) rfl rfl rfl dX9_notes_117 ?_
      refine lv_bipush (v := 122) hx hb dX9_notes_120 (by decide) ?_
      refine lv_dup2_11 hx hb dX9_notes_122 rfl rfl ?_
      refine r_iald (v := ((upd (upd (upd (upd (upd (shN S 76) 122 (nI (mm - 1))) (123 + (4 * (mm - 1))) kd) ((123 + (4 * (mm - 1))) + 1) (S 206)) ((123 + (4 * (mm - 1))) + 2) o) ((123 + (4 * (mm - 1))) + 3) t) 122)) hx hb w 1 0 rfl rfl 0 rfl 122 (by omega) (Nat.le_of_ble_eq_true rfl) rfl (sqA_at (by omega)) dX9_notes_123 ?_
      refine r_eq (y := (nI (mm - 1))) ((updn (by omega)).trans ((updn (by omega)).trans ((updn (by omega)).trans ((updn (by omega)).trans (upds rfl))))) ?_
      refine lv_iconst (v := 1) hx hb dX9_notes_124 (by decide) ?_
      refine lv_iadd hx hb dX9_notes_125 ?_
      refine r_eq (y := (nI ((mm - 1) + 1))) (nI_add (mm - 1) 1) ?_
      refine r_iast hx hb w 1 0 rfl rfl 0 rfl 122 (by omega) (Nat.le_of_ble_eq_true rfl) rfl (arB ty (r 1) 215 (sqA 215 (upd (upd (upd (upd (upd (upd (shN S 76) 122 (nI (mm - 1))) (123 + (4 * (mm - 1))) kd) ((123 + (4 * (mm - 1))) + 1) (S 206)) ((123 + (4 * (mm - 1))) + 2) o) ((123 + (4 * (mm - 1))) + 3) t) 122 (nI ((mm - 1) + 1))))) (arB_st (by omega)) [moB r F, arB ty (r 1) 215 (sqA 215 (upd (upd (upd (upd (upd (upd (shN S 76) 122 (nI (mm - 1))) (123 + (4 * (mm - 1))) kd) ((123 + (4 * (mm - 1))) + 1) (S 206)) ((123 + (4 * (mm - 1))) + 2) o) ((123 + (4 * (mm - 1))) + 3) t) 122 (nI ((mm - 1) + 1))))] rfl dX9_notes_126 (fun H locs w => ?_)
      exact e_v hx hb hr hlocks (w.cast (by rw [← note_20 h2 c9]; rfl)) dX9_notes_127 (Nat.le_refl _) (Nat.le_refl _)
    · have c21 := mt (nI_leI (a := 199) (b := (123 + k)) (by omega) (by omega)).mpr c21
      refine lv_aload_n hx hb dX9_notes_24 rfl (lv_at hl 0 rfl) ?_
      refine r_get (v' := .ref (r 1)) hx hb hts in_X9_notes_X9 hown w 0 0 rfl rfl (ci := 13) rfl 0 (by decide) (hts _ (List.mem_of_getElem? (i := 1) rfl)) rfl rfl rfl dX9_notes_25 ?_
      refine lv_iload hx hb dX9_notes_28 (lv_at hl 4 rfl) ?_
      refine lv_aload_n hx hb dX9_notes_30 rfl (lv_at hl 0 rfl) ?_
      refine r_get (v' := .ref (r 1)) hx hb hts in_X9_notes_X9 hown w 0 0 rfl rfl (ci := 13) rfl 0 (by decide) (hts _ (List.mem_of_getElem? (i := 1) rfl)) rfl rfl rfl dX9_notes_31 ?_
      refine lv_iload hx hb dX9_notes_34 (lv_at hl 4 rfl) ?_
      refine lv_iconst (v := 4) hx hb dX9_notes_36 (by decide) ?_
      refine lv_iadd hx hb dX9_notes_37 ?_
      refine r_eq (y := (nI ((123 + k) + 4))) (nI_add (123 + k) 4) ?_
      refine r_iald (v := ((shN S k) ((123 + k) + 4))) hx hb w 1 0 rfl rfl 0 rfl ((123 + k) + 4) (by omega) (Nat.le_of_ble_eq_true rfl) rfl (sqA_at (by omega)) dX9_notes_38 ?_
      refine r_iast hx hb w 1 0 rfl rfl 0 rfl (123 + k) (by omega) (Nat.le_of_ble_eq_true rfl) rfl (arB ty (r 1) 215 (sqA 215 (shN S (k + 1)))) ((arB_st (by omega)).trans (by rw [shN_s])) [moB r F, arB ty (r 1) 215 (sqA 215 (shN S (k + 1)))] rfl dX9_notes_39 (fun H locs w => ?_)
      refine lv_iinc (v := (nI ((123 + k) + 1))) (lv' := [(4, .int (nI ((123 + k) + 1))), (0, .ref (r 0)), (1, .int kd), (2, .int o), (3, .int t)]) hx hb dX9_notes_40 hl (k := 4) rfl (inc1 (123 + k)) (by decide) rfl (fun ls hl => ?_)
      refine lv_goto (tgt := 16) hx hb dX9_notes_43 (by decide) ?_
      exact ihk _ _ _ ⟨w, lv_sub hl [1, 2, 3, 4, 0] rfl⟩ (by omega)

theorem hdN_X9_far : yX9_far.cls ≠ "java/lang/invoke/MethodHandle" ∧ yX9_far.cls ≠ "java/lang/invoke/VarHandle" ∧ (parseMethodDescriptor yX9_far.desc).map (fun d => d.parameters.length) = some 2 := by decide +kernel
set_option maxRecDepth 100000 in
set_option maxHeartbeats 4000000 in
theorem c_X9_far (l : Launch) (D : va_G) (ty : Nat → ClassId) (r : Nat → Nat) (F S : pS) (i j : Nat) (hi : i < 8) (hj : j < 8)  : Mi l yX9_far wsX9_far (kR 1 22 0 0) D (kTY ty) [.ref (r 0), .int (nI i), .int (nI j)] [moB r F, arB ty (r 1) 215 (sqA 215 S)] [moB r F, arB ty (r 1) 215 (sqA 215 S)] (pFar S i j) 0 0 := by
  refine m_i (cc := cX9_far) (maxL := 3) (ret := (some .int)) (by decide +kernel) rfl (Nat.le_of_ble_eq_true rfl) ?_
  intro p e s m below meth c A ls hx hb hml hr hlocks hown hts w hl
  have hown : s.vm.findClass RX9 = some m.cls := hown
  have hl : lv_has ls 3 [(0, .ref (r 0)), (1, .int (nI i)), (2, .int (nI j))] := hl
  refine lv_aload_n hx hb dX9_far_0 rfl (lv_at hl 0 rfl) ?_
  refine lv_iload_n hx hb dX9_far_1 rfl (lv_at hl 1 rfl) ?_
  refine lv_iconst (v := 1) hx hb dX9_far_2 (by decide) ?_
  refine k_iV (As := [.int (nI i), .int 1]) (rest := []) (Rs := []) (Bs' := [moB r F, arB ty (r 1) 215 (sqA 215 S)]) ⟨hx, hb, hml, hown, hts⟩ w (c_X9_of l D ty r F S i 1 (by omega)) (cwV 2 hts gX9_far_X9_of rfl rfl rfl ⟨rfl, hdN_X9_of⟩ ⟨Nat.le_of_ble_eq_true rfl, Nat.le_of_ble_eq_true rfl⟩) [0, 1] (nB := 2) (by decide) rfl rfl rfl rfl 0 rfl rfl (ci := 13) rfl rfl rfl hl.1 rfl (Nat.le_of_ble_eq_true rfl) dX9_far_3 ⟨(Nat.zero_le _), (Nat.zero_le _)⟩ (fun H locs w => ?_)
  refine lv_aload_n hx hb dX9_far_6 rfl (lv_at hl 0 rfl) ?_
  refine lv_iload_n hx hb dX9_far_7 rfl (lv_at hl 2 rfl) ?_
  refine lv_iconst (v := 1) hx hb dX9_far_8 (by decide) ?_
  refine k_iV (As := [.int (nI j), .int 1]) (rest := [.int (S (1 + 6 * i + 1))]) (Rs := []) (Bs' := [moB r F, arB ty (r 1) 215 (sqA 215 S)]) ⟨hx, hb, hml, hown, hts⟩ w (c_X9_of l D ty r F S j 1 (by omega)) (cwV 2 hts gX9_far_X9_of rfl rfl rfl ⟨rfl, hdN_X9_of⟩ ⟨Nat.le_of_ble_eq_true rfl, Nat.le_of_ble_eq_true rfl⟩) [0, 1] (nB := 2) (by decide) rfl rfl rfl rfl 0 rfl rfl (ci := 13) rfl rfl rfl hl.1 rfl (Nat.le_of_ble_eq_true rfl) dX9_far_9 ⟨(Nat.zero_le _), (Nat.zero_le _)⟩ (fun H locs w => ?_)
  refine lv_isub hx hb dX9_far_12 ?_
  refine va_mabs hx hb (hml.trans hl.1.symm) hown (hts _ (List.mem_of_getElem? (i := 1) rfl)) (hts _ (List.mem_of_getElem? (i := 2) rfl)) (hts _ (List.mem_of_getElem? (i := 3) rfl)) (hts _ (List.mem_of_getElem? (i := 4) rfl)) (Nat.le_of_ble_eq_true rfl) (Nat.le_of_ble_eq_true rfl) (Nat.zero_le _) (Nat.zero_le _) dX9_far_13 ?_
  refine r_eq (y := (jabs ((S (1 + 6 * i + 1)) - (S (1 + 6 * j + 1))))) rfl ?_
  exact e_i hx hb hr hlocks w rfl dX9_far_16 (Nat.le_refl _) (Nat.le_refl _)

theorem hdN_X9_areNear : yX9_areNear.cls ≠ "java/lang/invoke/MethodHandle" ∧ yX9_areNear.cls ≠ "java/lang/invoke/VarHandle" ∧ (parseMethodDescriptor yX9_areNear.desc).map (fun d => d.parameters.length) = some 2 := by decide +kernel
set_option maxRecDepth 100000 in
set_option maxHeartbeats 4000000 in
theorem c_X9_areNear (l : Launch) (D : va_G) (ty : Nat → ClassId) (r : Nat → Nat) (F S : pS) (i j : Nat) (hi : i < 8) (hj : j < 8)  : Mi l yX9_areNear wsX9_areNear (kR 2 44 0 0) D (kTY ty) [.ref (r 0), .int (nI i), .int (nI j)] [moB r F, arB ty (r 1) 215 (sqA 215 S)] [moB r F, arB ty (r 1) 215 (sqA 215 S)] (bI (pNear S i j)) 0 0 := by
  refine m_i (cc := cX9_areNear) (maxL := 3) (ret := (some .boolean)) (by decide +kernel) rfl (Nat.le_of_ble_eq_true rfl) ?_
  intro p e s m below meth c A ls hx hb hml hr hlocks hown hts w hl
  have hown : s.vm.findClass RX9 = some m.cls := hown
  have hl : lv_has ls 3 [(0, .ref (r 0)), (1, .int (nI i)), (2, .int (nI j))] := hl
  refine lv_iload_n hx hb dX9_areNear_0 rfl (lv_at hl 1 rfl) ?_
  refine lv_iload_n hx hb dX9_areNear_1 rfl (lv_at hl 2 rfl) ?_
  refine lv_icmp_eq (tgt := 19) hx hb dX9_areNear_2 (by decide) (fun c2 => ?_) (fun c2 => ?_)
  · have c2 := (nI_eq (a := i) (b := j) (by omega) (by omega)).mp c2
    refine lv_iconst (v := 0) hx hb dX9_areNear_19 (by decide) ?_
    exact e_z (ty := .boolean) hx hb hr rfl hlocks w (near_0 c2) dX9_areNear_20 (Nat.le_refl _) (Nat.le_refl _)
  · have c2 := mt (nI_eq (a := i) (b := j) (by omega) (by omega)).mpr c2
    refine lv_aload_n hx hb dX9_areNear_5 rfl (lv_at hl 0 rfl) ?_
    refine lv_iload_n hx hb dX9_areNear_6 rfl (lv_at hl 1 rfl) ?_
    refine lv_iload_n hx hb dX9_areNear_7 rfl (lv_at hl 2 rfl) ?_
    refine k_iV (As := [.int (nI i), .int (nI j)]) (rest := []) (Rs := []) (Bs' := [moB r F, arB ty (r 1) 215 (sqA 215 S)]) ⟨hx, hb, hml, hown, hts⟩ w (c_X9_far l D ty r F S i j (by omega) (by omega)) (cwV 2 hts gX9_areNear_X9_far rfl rfl rfl ⟨rfl, hdN_X9_far⟩ ⟨Nat.le_of_ble_eq_true rfl, Nat.le_of_ble_eq_true rfl⟩) [0, 1] (nB := 2) (by decide) rfl rfl rfl rfl 0 rfl rfl (ci := 13) rfl rfl rfl hl.1 rfl (Nat.le_of_ble_eq_true rfl) dX9_areNear_8 ⟨(Nat.zero_le _), (Nat.zero_le _)⟩ (fun H locs w => ?_)
    refine lv_iconst (v := 2) hx hb dX9_areNear_11 (by decide) ?_
    refine lv_icmp_gt (tgt := 19) hx hb dX9_areNear_12 (by decide) (fun c12 => ?_) (fun c12 => ?_)
    · refine lv_iconst (v := 0) hx hb dX9_areNear_19 (by decide) ?_
      exact e_z (ty := .boolean) hx hb hr rfl hlocks w (near_1 (Int32.not_le.mpr c12)) dX9_areNear_20 (Nat.le_refl _) (Nat.le_refl _)
    · refine lv_iconst (v := 1) hx hb dX9_areNear_15 (by decide) ?_
      refine lv_goto (tgt := 20) hx hb dX9_areNear_16 (by decide) ?_
      exact e_z (ty := .boolean) hx hb hr rfl hlocks w (near_2 c2 (Int32.not_lt.mp c12)) dX9_areNear_20 (Nat.le_refl _) (Nat.le_refl _)

theorem in_X9_winner_X9 : ∀ w ∈ wsX90, w ∈ wsX9_winner := by decide +kernel
theorem hdN_X9_winner : yX9_winner.cls ≠ "java/lang/invoke/MethodHandle" ∧ yX9_winner.cls ≠ "java/lang/invoke/VarHandle" ∧ (parseMethodDescriptor yX9_winner.desc).map (fun d => d.parameters.length) = some 2 := by decide +kernel
set_option maxRecDepth 100000 in
set_option maxHeartbeats 4000000 in
theorem c_X9_winner (l : Launch) (D : va_G) (ty : Nat → ClassId) (r : Nat → Nat) (F S : pS) (n : Nat) (h0 : S 0 = nI n) (hn : n ≤ 8) (i j : Nat) (hi : i < 8) (hj : j < 8)  : Mi l yX9_winner wsX9_winner (kR 2 44 0 0) D (kTY ty) [.ref (r 0), .int (nI i), .int (nI j)] [moB r F, arB ty (r 1) 215 (sqA 215 S)] [moB r F, arB ty (r 1) 215 (sqA 215 S)] (nI (pWin S n i j)) 0 0 := by
  refine m_i (cc := cX9_winner) (maxL := 5) (ret := (some .int)) (by decide +kernel) rfl (Nat.le_of_ble_eq_true rfl) ?_
  intro p e s m below meth c A ls hx hb hml hr hlocks hown hts w hl
  have hown : s.vm.findClass RX9 = some m.cls := hown
  have hl : lv_has ls 5 [(0, .ref (r 0)), (1, .int (nI i)), (2, .int (nI j))] := hl
  refine lv_iconst (v := 0) hx hb dX9_winner_0 (by decide) ?_
  refine lv_istore_n (lv' := [(3, .int 0), (0, .ref (r 0)), (1, .int (nI i)), (2, .int (nI j))]) hx hb dX9_winner_1 rfl hl (by decide) rfl (fun ls hl => ?_)
  refine lv_iconst (v := 0) hx hb dX9_winner_2 (by decide) ?_
  refine lv_istore (lv' := [(4, .int 0), (3, .int 0), (0, .ref (r 0)), (1, .int (nI i)), (2, .int (nI j))]) hx hb dX9_winner_3 hl (by decide) rfl (fun ls hl => ?_)
  refine k_loop (fun k H locs ls => kW D (kTY ty) A s.heap s H locs [moB r F, arB ty (r 1) 215 (sqA 215 S)] ∧ lv_has ls 5 [(0, .ref (r 0)), (1, .int (nI i)), (2, .int (nI j)), (3, .int (zI (pVotes S i j k))), (4, .int (nI k))]) n 0 (by omega) ⟨w, lv_sub hl [2, 3, 4, 1, 0] rfl⟩ ?_
  intro k hk0 hk ihk H locs ls hI
  obtain ⟨w, hl⟩ := hI
  refine lv_iload hx hb dX9_winner_5 (lv_at hl 4 rfl) ?_
  refine lv_aload_n hx hb dX9_winner_7 rfl (lv_at hl 0 rfl) ?_
  refine r_get (v' := .ref (r 1)) hx hb hts in_X9_winner_X9 hown w 0 0 rfl rfl (ci := 13) rfl 0 (by decide) (hts _ (List.mem_of_getElem? (i := 1) rfl)) rfl rfl rfl dX9_winner_8 ?_
  refine lv_iconst (v := 0) hx hb dX9_winner_11 (by decide) ?_
  refine r_iald (v := (S 0)) hx hb w 1 0 rfl rfl 0 rfl 0 (by omega) (Nat.le_of_ble_eq_true rfl) rfl (sqA_at (by omega)) dX9_winner_12 ?_
  refine r_eq (y := (nI n)) h0 ?_
  refine lv_icmp_ge (tgt := 59) hx hb dX9_winner_13 (by decide) (fun c13 => ?_) (fun c13 => ?_)
  · have c13 := (nI_leI (a := n) (b := k) (by omega) (by omega)).mp c13
    obtain rfl : n = k := by omega
    refine lv_iload_n hx hb dX9_winner_59 rfl (lv_at hl 3 rfl) ?_
    refine lv_if_le (tgt := 67) hx hb dX9_winner_60 (by decide) (fun c60 => ?_) (fun c60 => ?_)
    · refine lv_iload_n hx hb dX9_winner_67 rfl (lv_at hl 1 rfl) ?_
      exact e_i hx hb hr hlocks w (pw_f hn c60) dX9_winner_68 (Nat.le_refl _) (Nat.le_refl _)
    · refine lv_iload_n hx hb dX9_winner_63 rfl (lv_at hl 2 rfl) ?_
      refine lv_goto (tgt := 68) hx hb dX9_winner_64 (by decide) ?_
      exact e_i hx hb hr hlocks w (pw_t hn c60) dX9_winner_68 (Nat.le_refl _) (Nat.le_refl _)
  · have c13 := mt (nI_leI (a := n) (b := k) (by omega) (by omega)).mpr c13
    refine lv_iload hx hb dX9_winner_16 (lv_at hl 4 rfl) ?_
    refine lv_iload_n hx hb dX9_winner_18 rfl (lv_at hl 1 rfl) ?_
    refine lv_icmp_eq (tgt := 53) hx hb dX9_winner_19 (by decide) (fun c19 => ?_) (fun c19 => ?_)
    · have c19 := (nI_eq (a := k) (b := i) (by omega) (by omega)).mp c19
      rw [pw_skip (S := S) (a := i) (j := j) (Or.inl c19)] at hl
      refine lv_iinc (v := (nI (k + 1))) (lv' := [(4, .int (nI (k + 1))), (0, .ref (r 0)), (1, .int (nI i)), (2, .int (nI j)), (3, .int (zI (pVotes S i j (k + 1))))]) hx hb dX9_winner_53 hl (k := 4) rfl (inc1 k) (by decide) rfl (fun ls hl => ?_)
      refine lv_goto (tgt := 5) hx hb dX9_winner_56 (by decide) ?_
      exact ihk _ _ _ ⟨w, lv_sub hl [1, 2, 3, 4, 0] rfl⟩ (by omega)
    · have c19 := mt (nI_eq (a := k) (b := i) (by omega) (by omega)).mpr c19
      refine lv_iload hx hb dX9_winner_22 (lv_at hl 4 rfl) ?_
      refine lv_iload_n hx hb dX9_winner_24 rfl (lv_at hl 2 rfl) ?_
      refine lv_icmp_eq (tgt := 53) hx hb dX9_winner_25 (by decide) (fun c25 => ?_) (fun c25 => ?_)
      · have c25 := (nI_eq (a := k) (b := j) (by omega) (by omega)).mp c25
        rw [pw_skip (S := S) (a := i) (j := j) (Or.inr c25)] at hl
        refine lv_iinc (v := (nI (k + 1))) (lv' := [(4, .int (nI (k + 1))), (0, .ref (r 0)), (1, .int (nI i)), (2, .int (nI j)), (3, .int (zI (pVotes S i j (k + 1))))]) hx hb dX9_winner_53 hl (k := 4) rfl (inc1 k) (by decide) rfl (fun ls hl => ?_)
        refine lv_goto (tgt := 5) hx hb dX9_winner_56 (by decide) ?_
        exact ihk _ _ _ ⟨w, lv_sub hl [1, 2, 3, 4, 0] rfl⟩ (by omega)
      · have c25 := mt (nI_eq (a := k) (b := j) (by omega) (by omega)).mpr c25
        refine lv_iload_n hx hb dX9_winner_28 rfl (lv_at hl 3 rfl) ?_
        refine lv_aload_n hx hb dX9_winner_29 rfl (lv_at hl 0 rfl) ?_
        refine lv_iload hx hb dX9_winner_30 (lv_at hl 4 rfl) ?_
        refine lv_iload_n hx hb dX9_winner_32 rfl (lv_at hl 2 rfl) ?_
        refine k_iV (As := [.int (nI k), .int (nI j)]) (rest := [.int (zI (pVotes S i j k))]) (Rs := []) (Bs' := [moB r F, arB ty (r 1) 215 (sqA 215 S)]) ⟨hx, hb, hml, hown, hts⟩ w (c_X9_far l D ty r F S k j (by omega) (by omega)) (cwV 2 hts gX9_winner_X9_far rfl rfl rfl ⟨rfl, hdN_X9_far⟩ ⟨Nat.le_of_ble_eq_true rfl, Nat.le_of_ble_eq_true rfl⟩) [0, 1] (nB := 2) (by decide) rfl rfl rfl rfl 0 rfl rfl (ci := 13) rfl rfl rfl hl.1 rfl (Nat.le_of_ble_eq_true rfl) dX9_winner_33 ⟨(Nat.zero_le _), (Nat.zero_le _)⟩ (fun H locs w => ?_)
        refine lv_aload_n hx hb dX9_winner_36 rfl (lv_at hl 0 rfl) ?_
        refine lv_iload hx hb dX9_winner_37 (lv_at hl 4 rfl) ?_
        refine lv_iload_n hx hb dX9_winner_39 rfl (lv_at hl 1 rfl) ?_
        refine k_iV (As := [.int (nI k), .int (nI i)]) (rest := [.int (pFar S k j), .int (zI (pVotes S i j k))]) (Rs := []) (Bs' := [moB r F, arB ty (r 1) 215 (sqA 215 S)]) ⟨hx, hb, hml, hown, hts⟩ w (c_X9_far l D ty r F S k i (by omega) (by omega)) (cwV 2 hts gX9_winner_X9_far rfl rfl rfl ⟨rfl, hdN_X9_far⟩ ⟨Nat.le_of_ble_eq_true rfl, Nat.le_of_ble_eq_true rfl⟩) [0, 1] (nB := 2) (by decide) rfl rfl rfl rfl 0 rfl rfl (ci := 13) rfl rfl rfl hl.1 rfl (Nat.le_of_ble_eq_true rfl) dX9_winner_40 ⟨(Nat.zero_le _), (Nat.zero_le _)⟩ (fun H locs w => ?_)
        refine lv_icmp_ge (tgt := 50) hx hb dX9_winner_43 (by decide) (fun c43 => ?_) (fun c43 => ?_)
        · refine lv_iconst (v := (-1)) hx hb dX9_winner_50 (by decide) ?_
          refine lv_iadd hx hb dX9_winner_51 ?_
          refine r_eq (y := (zI (pVotes S i j (k + 1)))) (pw_le c19 c25 c43) ?_
          refine lv_istore_n (lv' := [(3, .int (zI (pVotes S i j (k + 1)))), (0, .ref (r 0)), (1, .int (nI i)), (2, .int (nI j)), (4, .int (nI k))]) hx hb dX9_winner_52 rfl hl (by decide) rfl (fun ls hl => ?_)
          refine lv_iinc (v := (nI (k + 1))) (lv' := [(4, .int (nI (k + 1))), (3, .int (zI (pVotes S i j (k + 1)))), (0, .ref (r 0)), (1, .int (nI i)), (2, .int (nI j))]) hx hb dX9_winner_53 hl (k := 4) rfl (inc1 k) (by decide) rfl (fun ls hl => ?_)
          refine lv_goto (tgt := 5) hx hb dX9_winner_56 (by decide) ?_
          exact ihk _ _ _ ⟨w, lv_sub hl [2, 3, 4, 1, 0] rfl⟩ (by omega)
        · refine lv_iconst (v := 1) hx hb dX9_winner_46 (by decide) ?_
          refine lv_goto (tgt := 51) hx hb dX9_winner_47 (by decide) ?_
          refine lv_iadd hx hb dX9_winner_51 ?_
          refine r_eq (y := (zI (pVotes S i j (k + 1)))) (pw_gt c19 c25 c43) ?_
          refine lv_istore_n (lv' := [(3, .int (zI (pVotes S i j (k + 1)))), (0, .ref (r 0)), (1, .int (nI i)), (2, .int (nI j)), (4, .int (nI k))]) hx hb dX9_winner_52 rfl hl (by decide) rfl (fun ls hl => ?_)
          refine lv_iinc (v := (nI (k + 1))) (lv' := [(4, .int (nI (k + 1))), (3, .int (zI (pVotes S i j (k + 1)))), (0, .ref (r 0)), (1, .int (nI i)), (2, .int (nI j))]) hx hb dX9_winner_53 hl (k := 4) rfl (inc1 k) (by decide) rfl (fun ls hl => ?_)
          refine lv_goto (tgt := 5) hx hb dX9_winner_56 (by decide) ?_
          exact ihk _ _ _ ⟨w, lv_sub hl [2, 3, 4, 1, 0] rfl⟩ (by omega)

theorem hdN_X9_doQuarrel : yX9_doQuarrel.cls ≠ "java/lang/invoke/MethodHandle" ∧ yX9_doQuarrel.cls ≠ "java/lang/invoke/VarHandle" ∧ (parseMethodDescriptor yX9_doQuarrel.desc).map (fun d => d.parameters.length) = some 2 := by decide +kernel
set_option maxRecDepth 100000 in
set_option maxHeartbeats 4000000 in
theorem c_X9_doQuarrel (l : Launch) (D : va_G) (ty : Nat → ClassId) (r : Nat → Nat) (F S : pS) (i j : Nat) (hi : i < 8) (hj : j < 8)  : Mi l yX9_doQuarrel wsX9_doQuarrel (kR 3 66 0 0) D (kTY ty) [.ref (r 0), .int (nI i), .int (nI j)] [moB r F, arB ty (r 1) 215 (sqA 215 S)] [moB r F, arB ty (r 1) 215 (sqA 215 S)] (bI (pDoQ S i j)) 0 0 := by
  refine m_i (cc := cX9_doQuarrel) (maxL := 3) (ret := (some .boolean)) (by decide +kernel) rfl (Nat.le_of_ble_eq_true rfl) ?_
  intro p e s m below meth c A ls hx hb hml hr hlocks hown hts w hl
  have hown : s.vm.findClass RX9 = some m.cls := hown
  have hl : lv_has ls 3 [(0, .ref (r 0)), (1, .int (nI i)), (2, .int (nI j))] := hl
  refine lv_aload_n hx hb dX9_doQuarrel_0 rfl (lv_at hl 0 rfl) ?_
  refine lv_iload_n hx hb dX9_doQuarrel_1 rfl (lv_at hl 1 rfl) ?_
  refine lv_iload_n hx hb dX9_doQuarrel_2 rfl (lv_at hl 2 rfl) ?_
  refine k_iV (As := [.int (nI i), .int (nI j)]) (rest := []) (Rs := []) (Bs' := [moB r F, arB ty (r 1) 215 (sqA 215 S)]) ⟨hx, hb, hml, hown, hts⟩ w (c_X9_areNear l D ty r F S i j (by omega) (by omega)) (cwV 2 hts gX9_doQuarrel_X9_areNear rfl rfl rfl ⟨rfl, hdN_X9_areNear⟩ ⟨Nat.le_of_ble_eq_true rfl, Nat.le_of_ble_eq_true rfl⟩) [0, 1] (nB := 2) (by decide) rfl rfl rfl rfl 0 rfl rfl (ci := 13) rfl rfl rfl hl.1 rfl (Nat.le_of_ble_eq_true rfl) dX9_doQuarrel_3 ⟨(Nat.zero_le _), (Nat.zero_le _)⟩ (fun H locs w => ?_)
  refine lv_if_eq (tgt := 31) hx hb dX9_doQuarrel_6 (by decide) (fun c6 => ?_) (fun c6 => ?_)
  · have c6 := bI_0.mp c6
    refine lv_iconst (v := 0) hx hb dX9_doQuarrel_31 (by decide) ?_
    exact e_z (ty := .boolean) hx hb hr rfl hlocks w (doq_0 c6) dX9_doQuarrel_32 (Nat.le_refl _) (Nat.le_refl _)
  · have c6 := bI_1.mp c6
    refine lv_aload_n hx hb dX9_doQuarrel_9 rfl (lv_at hl 0 rfl) ?_
    refine lv_iload_n hx hb dX9_doQuarrel_10 rfl (lv_at hl 1 rfl) ?_
    refine lv_iconst (v := 2) hx hb dX9_doQuarrel_11 (by decide) ?_
    refine k_iV (As := [.int (nI i), .int 2]) (rest := []) (Rs := []) (Bs' := [moB r F, arB ty (r 1) 215 (sqA 215 S)]) ⟨hx, hb, hml, hown, hts⟩ w (c_X9_of l D ty r F S i 2 (by omega)) (cwV 2 hts gX9_doQuarrel_X9_of rfl rfl rfl ⟨rfl, hdN_X9_of⟩ ⟨Nat.le_of_ble_eq_true rfl, Nat.le_of_ble_eq_true rfl⟩) [0, 1] (nB := 2) (by decide) rfl rfl rfl rfl 0 rfl rfl (ci := 13) rfl rfl rfl hl.1 rfl (Nat.le_of_ble_eq_true rfl) dX9_doQuarrel_12 ⟨(Nat.zero_le _), (Nat.zero_le _)⟩ (fun H locs w => ?_)
    refine lv_aload_n hx hb dX9_doQuarrel_15 rfl (lv_at hl 0 rfl) ?_
    refine lv_iload_n hx hb dX9_doQuarrel_16 rfl (lv_at hl 2 rfl) ?_
    refine lv_iconst (v := 2) hx hb dX9_doQuarrel_17 (by decide) ?_
    refine k_iV (As := [.int (nI j), .int 2]) (rest := [.int (S (1 + 6 * i + 2))]) (Rs := []) (Bs' := [moB r F, arB ty (r 1) 215 (sqA 215 S)]) ⟨hx, hb, hml, hown, hts⟩ w (c_X9_of l D ty r F S j 2 (by omega)) (cwV 2 hts gX9_doQuarrel_X9_of rfl rfl rfl ⟨rfl, hdN_X9_of⟩ ⟨Nat.le_of_ble_eq_true rfl, Nat.le_of_ble_eq_true rfl⟩) [0, 1] (nB := 2) (by decide) rfl rfl rfl rfl 0 rfl rfl (ci := 13) rfl rfl rfl hl.1 rfl (Nat.le_of_ble_eq_true rfl) dX9_doQuarrel_18 ⟨(Nat.zero_le _), (Nat.zero_le _)⟩ (fun H locs w => ?_)
    refine lv_iadd hx hb dX9_doQuarrel_21 ?_
    refine lv_bipush (v := 10) hx hb dX9_doQuarrel_22 (by decide) ?_
    refine lv_icmp_lt (tgt := 31) hx hb dX9_doQuarrel_24 (by decide) (fun c24 => ?_) (fun c24 => ?_)
    · refine lv_iconst (v := 0) hx hb dX9_doQuarrel_31 (by decide) ?_
      exact e_z (ty := .boolean) hx hb hr rfl hlocks w (doq_1 (Int32.not_le.mpr c24)) dX9_doQuarrel_32 (Nat.le_refl _) (Nat.le_refl _)
    · refine lv_iconst (v := 1) hx hb dX9_doQuarrel_27 (by decide) ?_
      refine lv_goto (tgt := 32) hx hb dX9_doQuarrel_28 (by decide) ?_
      exact e_z (ty := .boolean) hx hb hr rfl hlocks w (doq_2 c6 (Int32.not_lt.mp c24)) dX9_doQuarrel_32 (Nat.le_refl _) (Nat.le_refl _)

theorem in_X9_quarrel_X9 : ∀ w ∈ wsX90, w ∈ wsX9_quarrel := by decide +kernel
theorem hdN_X9_quarrel : yX9_quarrel.cls ≠ "java/lang/invoke/MethodHandle" ∧ yX9_quarrel.cls ≠ "java/lang/invoke/VarHandle" ∧ (parseMethodDescriptor yX9_quarrel.desc).map (fun d => d.parameters.length) = some 2 := by decide +kernel
set_option maxRecDepth 100000 in
set_option maxHeartbeats 4000000 in
theorem c_X9_quarrel (l : Launch) (D : va_G) (ty : Nat → ClassId) (r : Nat → Nat) (F S : pS) (n : Nat) (h0 : S 0 = nI n) (hn : n ≤ 8) (mm : Nat) (h2 : S 122 = nI mm) (hc : mm ≤ 20) (M : pS) (i j : Nat) (hi : i < 8) (hj : j < 8)  : Mi l yX9_quarrel wsX9_quarrel (kR 3 68 0 0) D (kTY ty) [.ref (r 0), .int (nI i), .int (nI j)] [moB r F, arB ty (r 1) 215 (sqA 215 S)] [moB r F, arB ty (r 1) 215 (sqA 215 ((oQuarrel (S, M) (pWin S n i j) (pLose S n i j)).1))] (nI (pWin S n i j)) 0 0 := by
  refine m_i (cc := cX9_quarrel) (maxL := 5) (ret := (some .int)) (by decide +kernel) rfl (Nat.le_of_ble_eq_true rfl) ?_
  intro p e s m below meth c A ls hx hb hml hr hlocks hown hts w hl
  have hown : s.vm.findClass RX9 = some m.cls := hown
  have hl : lv_has ls 5 [(0, .ref (r 0)), (1, .int (nI i)), (2, .int (nI j))] := hl
  have hz := pWin_lt (S := S) (n := n) hi hj
  refine lv_aload_n hx hb dX9_quarrel_0 rfl (lv_at hl 0 rfl) ?_
  refine lv_iload_n hx hb dX9_quarrel_1 rfl (lv_at hl 1 rfl) ?_
  refine lv_iload_n hx hb dX9_quarrel_2 rfl (lv_at hl 2 rfl) ?_
  refine k_iV (As := [.int (nI i), .int (nI j)]) (rest := []) (Rs := []) (Bs' := [moB r F, arB ty (r 1) 215 (sqA 215 S)]) ⟨hx, hb, hml, hown, hts⟩ w (c_X9_winner l D ty r F S n h0 hn i j (by omega) (by omega)) (cwV 2 hts gX9_quarrel_X9_winner rfl rfl rfl ⟨rfl, hdN_X9_winner⟩ ⟨Nat.le_of_ble_eq_true rfl, Nat.le_of_ble_eq_true rfl⟩) [0, 1] (nB := 2) (by decide) rfl rfl rfl rfl 0 rfl rfl (ci := 13) rfl rfl rfl hl.1 rfl (Nat.le_of_ble_eq_true rfl) dX9_quarrel_3 ⟨(Nat.zero_le _), (Nat.zero_le _)⟩ (fun H locs w => ?_)
  refine lv_istore_n (lv' := [(3, .int (nI (pWin S n i j))), (0, .ref (r 0)), (1, .int (nI i)), (2, .int (nI j))]) hx hb dX9_quarrel_6 rfl hl (by decide) rfl (fun ls hl => ?_)
  refine lv_iload_n hx hb dX9_quarrel_7 rfl (lv_at hl 0 rfl) ?_
  refine lv_iload_n hx hb dX9_quarrel_8 rfl (lv_at hl 2 rfl) ?_
  refine lv_icmp_ne (tgt := 16) hx hb dX9_quarrel_9 (by decide) (fun c9 => ?_) (fun c9 => ?_)
  · have c9 := mt (nI_eq (a := (pWin S n i j)) (b := i) (by omega) (by omega)).mpr c9
    refine lv_iload_n hx hb dX9_quarrel_16 rfl (lv_at hl 2 rfl) ?_
    refine lv_istore (lv' := [(4, .int (nI i)), (3, .int (nI (pWin S n i j))), (0, .ref (r 0)), (1, .int (nI i)), (2, .int (nI j))]) hx hb dX9_quarrel_17 hl (by decide) rfl (fun ls hl => ?_)
    refine lv_aload_n hx hb dX9_quarrel_19 rfl (lv_at hl 2 rfl) ?_
    refine lv_iload hx hb dX9_quarrel_20 (lv_at hl 0 rfl) ?_
    refine lv_iconst (v := 4) hx hb dX9_quarrel_22 (by decide) ?_
    refine lv_aload_n hx hb dX9_quarrel_23 rfl (lv_at hl 2 rfl) ?_
    refine lv_iload hx hb dX9_quarrel_24 (lv_at hl 0 rfl) ?_
    refine lv_iconst (v := 4) hx hb dX9_quarrel_26 (by decide) ?_
    refine k_iV (As := [.int (nI i), .int 4]) (rest := [.int 4, .int (nI i), .ref (r 0)]) (Rs := []) (Bs' := [moB r F, arB ty (r 1) 215 (sqA 215 S)]) ⟨hx, hb, hml, hown, hts⟩ w (c_X9_of l D ty r F S i 4 (by omega)) (cwV 2 hts gX9_quarrel_X9_of rfl rfl rfl ⟨rfl, hdN_X9_of⟩ ⟨Nat.le_of_ble_eq_true rfl, Nat.le_of_ble_eq_true rfl⟩) [0, 1] (nB := 2) (by decide) rfl rfl rfl rfl 0 rfl rfl (ci := 13) rfl rfl rfl hl.1 rfl (Nat.le_of_ble_eq_true rfl) dX9_quarrel_27 ⟨(Nat.zero_le _), (Nat.zero_le _)⟩ (fun H locs w => ?_)
    refine lv_iconst (v := 1) hx hb dX9_quarrel_30 (by decide) ?_
    refine lv_iadd hx hb dX9_quarrel_31 ?_
    refine k_vV (As := [.int (nI i), .int 4, .int ((S (1 + 6 * i + 4)) + 1)]) (rest := []) (Rs := []) (Bs' := [moB r F, arB ty (r 1) 215 (sqA 215 (upd S (1 + 6 * i + 4) ((S (1 + 6 * i + 4)) + 1)))]) ⟨hx, hb, hml, hown, hts⟩ w (c_X9_becomes l D ty r F S i 4 (by omega) ((S (1 + 6 * i + 4)) + 1)) (cwV 3 hts gX9_quarrel_X9_becomes rfl rfl rfl ⟨rfl, hdN_X9_becomes⟩ ⟨Nat.le_of_ble_eq_true rfl, Nat.le_of_ble_eq_true rfl⟩) [0, 1] (nB := 2) (by decide) rfl rfl rfl rfl 0 rfl rfl (ci := 13) rfl rfl rfl hl.1 rfl (Nat.le_of_ble_eq_true rfl) dX9_quarrel_32 ⟨(Nat.zero_le _), (Nat.zero_le _)⟩ (fun H locs w => ?_)
    
    refine lv_aload_n hx hb dX9_quarrel_35 rfl (lv_at hl 2 rfl) ?_
    refine lv_iload hx hb dX9_quarrel_36 (lv_at hl 0 rfl) ?_
    refine lv_iconst (v := 2) hx hb dX9_quarrel_38 (by decide) ?_
    refine lv_bipush (v := 9) hx hb dX9_quarrel_39 (by decide) ?_
    refine lv_aload_n hx hb dX9_quarrel_41 rfl (lv_at hl 2 rfl) ?_
    refine lv_iload hx hb dX9_quarrel_42 (lv_at hl 0 rfl) ?_
    refine lv_iconst (v := 2) hx hb dX9_quarrel_44 (by decide) ?_
    refine k_iV (As := [.int (nI i), .int 2]) (rest := [.int 9, .int 2, .int (nI i), .ref (r 0)]) (Rs := []) (Bs' := [moB r F, arB ty (r 1) 215 (sqA 215 (sSq1 S i))]) ⟨hx, hb, hml, hown, hts⟩ w (c_X9_of l D ty r F (sSq1 S i) i 2 (by omega)) (cwV 2 hts gX9_quarrel_X9_of rfl rfl rfl ⟨rfl, hdN_X9_of⟩ ⟨Nat.le_of_ble_eq_true rfl, Nat.le_of_ble_eq_true rfl⟩) [0, 1] (nB := 2) (by decide) rfl rfl rfl rfl 0 rfl rfl (ci := 13) rfl rfl rfl hl.1 rfl (Nat.le_of_ble_eq_true rfl) dX9_quarrel_45 ⟨(Nat.zero_le _), (Nat.zero_le _)⟩ (fun H locs w => ?_)
    refine lv_iconst (v := 1) hx hb dX9_quarrel_48 (by decide) ?_
    refine lv_iadd hx hb dX9_quarrel_49 ?_
    refine va_mmin hx hb (hml.trans hl.1.symm) hown (hts _ (List.mem_of_getElem? (i := 1) rfl)) (hts _ (List.mem_of_getElem? (i := 2) rfl)) (hts _ (List.mem_of_getElem? (i := 3) rfl)) (hts _ (List.mem_of_getElem? (i := 4) rfl)) (Nat.le_of_ble_eq_true rfl) (Nat.le_of_ble_eq_true rfl) (Nat.zero_le _) (Nat.zero_le _) dX9_quarrel_50 ?_
    refine r_eq (y := (jmin 9 (((sSq1 S i) (1 + 6 * i + 2)) + 1))) rfl ?_
    refine k_vV (As := [.int (nI i), .int 2, .int (jmin 9 (((sSq1 S i) (1 + 6 * i + 2)) + 1))]) (rest := []) (Rs := []) (Bs' := [moB r F, arB ty (r 1) 215 (sqA 215 (upd (sSq1 S i) (1 + 6 * i + 2) (jmin 9 (((sSq1 S i) (1 + 6 * i + 2)) + 1))))]) ⟨hx, hb, hml, hown, hts⟩ w (c_X9_becomes l D ty r F (sSq1 S i) i 2 (by omega) (jmin 9 (((sSq1 S i) (1 + 6 * i + 2)) + 1))) (cwV 3 hts gX9_quarrel_X9_becomes rfl rfl rfl ⟨rfl, hdN_X9_becomes⟩ ⟨Nat.le_of_ble_eq_true rfl, Nat.le_of_ble_eq_true rfl⟩) [0, 1] (nB := 2) (by decide) rfl rfl rfl rfl 0 rfl rfl (ci := 13) rfl rfl rfl hl.1 rfl (Nat.le_of_ble_eq_true rfl) dX9_quarrel_53 ⟨(Nat.zero_le _), (Nat.zero_le _)⟩ (fun H locs w => ?_)
    
    refine lv_aload_n hx hb dX9_quarrel_56 rfl (lv_at hl 2 rfl) ?_
    refine lv_iload_n hx hb dX9_quarrel_57 rfl (lv_at hl 1 rfl) ?_
    refine lv_iconst (v := 2) hx hb dX9_quarrel_58 (by decide) ?_
    refine lv_iconst (v := 0) hx hb dX9_quarrel_59 (by decide) ?_
    refine lv_aload_n hx hb dX9_quarrel_60 rfl (lv_at hl 2 rfl) ?_
    refine lv_iload_n hx hb dX9_quarrel_61 rfl (lv_at hl 1 rfl) ?_
    refine lv_iconst (v := 2) hx hb dX9_quarrel_62 (by decide) ?_
    refine k_iV (As := [.int (nI (pWin S n i j)), .int 2]) (rest := [.int 0, .int 2, .int (nI (pWin S n i j)), .ref (r 0)]) (Rs := []) (Bs' := [moB r F, arB ty (r 1) 215 (sqA 215 (sSq2 (sSq1 S i) i))]) ⟨hx, hb, hml, hown, hts⟩ w (c_X9_of l D ty r F (sSq2 (sSq1 S i) i) (pWin S n i j) 2 (by omega)) (cwV 2 hts gX9_quarrel_X9_of rfl rfl rfl ⟨rfl, hdN_X9_of⟩ ⟨Nat.le_of_ble_eq_true rfl, Nat.le_of_ble_eq_true rfl⟩) [0, 1] (nB := 2) (by decide) rfl rfl rfl rfl 0 rfl rfl (ci := 13) rfl rfl rfl hl.1 rfl (Nat.le_of_ble_eq_true rfl) dX9_quarrel_63 ⟨(Nat.zero_le _), (Nat.zero_le _)⟩ (fun H locs w => ?_)
    refine lv_iconst (v := 1) hx hb dX9_quarrel_66 (by decide) ?_
    refine lv_isub hx hb dX9_quarrel_67 ?_
    refine va_mmax hx hb (hml.trans hl.1.symm) hown (hts _ (List.mem_of_getElem? (i := 5) rfl)) (hts _ (List.mem_of_getElem? (i := 6) rfl)) (hts _ (List.mem_of_getElem? (i := 3) rfl)) (hts _ (List.mem_of_getElem? (i := 7) rfl)) (Nat.le_of_ble_eq_true rfl) (Nat.le_of_ble_eq_true rfl) (Nat.zero_le _) (Nat.zero_le _) dX9_quarrel_68 ?_
    refine r_eq (y := (jmax 0 (((sSq2 (sSq1 S i) i) (1 + 6 * (pWin S n i j) + 2)) - 1))) rfl ?_
    refine k_vV (As := [.int (nI (pWin S n i j)), .int 2, .int (jmax 0 (((sSq2 (sSq1 S i) i) (1 + 6 * (pWin S n i j) + 2)) - 1))]) (rest := []) (Rs := []) (Bs' := [moB r F, arB ty (r 1) 215 (sqA 215 (upd (sSq2 (sSq1 S i) i) (1 + 6 * (pWin S n i j) + 2) (jmax 0 (((sSq2 (sSq1 S i) i) (1 + 6 * (pWin S n i j) + 2)) - 1))))]) ⟨hx, hb, hml, hown, hts⟩ w (c_X9_becomes l D ty r F (sSq2 (sSq1 S i) i) (pWin S n i j) 2 (by omega) (jmax 0 (((sSq2 (sSq1 S i) i) (1 + 6 * (pWin S n i j) + 2)) - 1))) (cwV 3 hts gX9_quarrel_X9_becomes rfl rfl rfl ⟨rfl, hdN_X9_becomes⟩ ⟨Nat.le_of_ble_eq_true rfl, Nat.le_of_ble_eq_true rfl⟩) [0, 1] (nB := 2) (by decide) rfl rfl rfl rfl 0 rfl rfl (ci := 13) rfl rfl rfl hl.1 rfl (Nat.le_of_ble_eq_true rfl) dX9_quarrel_71 ⟨(Nat.zero_le _), (Nat.zero_le _)⟩ (fun H locs w => ?_)
    
    refine lv_aload_n hx hb dX9_quarrel_74 rfl (lv_at hl 2 rfl) ?_
    refine r_get (v' := .ref (r 1)) hx hb hts in_X9_quarrel_X9 hown w 0 0 rfl rfl (ci := 13) rfl 0 (by decide) (hts _ (List.mem_of_getElem? (i := 8) rfl)) rfl rfl rfl dX9_quarrel_75 ?_
    refine lv_bipush (v := 58) hx hb dX9_quarrel_78 (by decide) ?_
    refine lv_bipush (v := 8) hx hb dX9_quarrel_80 (by decide) ?_
    refine lv_iload_n hx hb dX9_quarrel_82 rfl (lv_at hl 1 rfl) ?_
    refine lv_imul hx hb dX9_quarrel_83 ?_
    refine r_eq (y := (nI (8 * (pWin S n i j)))) (pk_mul 8 (pWin S n i j)) ?_
    refine lv_iadd hx hb dX9_quarrel_84 ?_
    refine r_eq (y := (nI (58 + (8 * (pWin S n i j))))) (nI_add 58 (8 * (pWin S n i j))) ?_
    refine lv_iload hx hb dX9_quarrel_85 (lv_at hl 0 rfl) ?_
    refine lv_iadd hx hb dX9_quarrel_87 ?_
    refine r_eq (y := (nI ((58 + (8 * (pWin S n i j))) + i))) (nI_add (58 + (8 * (pWin S n i j))) i) ?_
    refine lv_dup2_11 hx hb dX9_quarrel_88 rfl rfl ?_
    refine r_iald (v := ((sSq3 (sSq2 (sSq1 S i) i) (pWin S n i j)) ((58 + (8 * (pWin S n i j))) + i))) hx hb w 1 0 rfl rfl 0 rfl ((58 + (8 * (pWin S n i j))) + i) (by omega) (Nat.le_of_ble_eq_true rfl) rfl (sqA_at (by omega)) dX9_quarrel_89 ?_
    refine lv_iconst (v := 1) hx hb dX9_quarrel_90 (by decide) ?_
    refine lv_iadd hx hb dX9_quarrel_91 ?_
    refine r_iast hx hb w 1 0 rfl rfl 0 rfl ((58 + (8 * (pWin S n i j))) + i) (by omega) (Nat.le_of_ble_eq_true rfl) rfl (arB ty (r 1) 215 (sqA 215 (sSq4 (sSq3 (sSq2 (sSq1 S i) i) (pWin S n i j)) (pWin S n i j) i))) (arB_st (by omega)) [moB r F, arB ty (r 1) 215 (sqA 215 (sSq4 (sSq3 (sSq2 (sSq1 S i) i) (pWin S n i j)) (pWin S n i j) i))] rfl dX9_quarrel_92 (fun H locs w => ?_)
    refine lv_aload_n hx hb dX9_quarrel_93 rfl (lv_at hl 2 rfl) ?_
    refine r_get (v' := .ref (r 1)) hx hb hts in_X9_quarrel_X9 hown w 0 0 rfl rfl (ci := 13) rfl 0 (by decide) (hts _ (List.mem_of_getElem? (i := 8) rfl)) rfl rfl rfl dX9_quarrel_94 ?_
    refine lv_sipush (v := 213) hx hb dX9_quarrel_97 (by decide) ?_
    refine lv_dup2_11 hx hb dX9_quarrel_100 rfl rfl ?_
    refine r_iald (v := ((sSq4 (sSq3 (sSq2 (sSq1 S i) i) (pWin S n i j)) (pWin S n i j) i) 213)) hx hb w 1 0 rfl rfl 0 rfl 213 (by omega) (Nat.le_of_ble_eq_true rfl) rfl (sqA_at (by omega)) dX9_quarrel_101 ?_
    refine lv_iconst (v := 1) hx hb dX9_quarrel_102 (by decide) ?_
    refine lv_iadd hx hb dX9_quarrel_103 ?_
    refine r_iast hx hb w 1 0 rfl rfl 0 rfl 213 (by omega) (Nat.le_of_ble_eq_true rfl) rfl (arB ty (r 1) 215 (sqA 215 (sSq S (pWin S n i j) i))) (arB_st (by omega)) [moB r F, arB ty (r 1) 215 (sqA 215 (sSq S (pWin S n i j) i))] rfl dX9_quarrel_104 (fun H locs w => ?_)
    refine lv_aload_n hx hb dX9_quarrel_105 rfl (lv_at hl 2 rfl) ?_
    refine lv_iconst (v := 1) hx hb dX9_quarrel_106 (by decide) ?_
    refine lv_iload_n hx hb dX9_quarrel_107 rfl (lv_at hl 1 rfl) ?_
    refine lv_iload hx hb dX9_quarrel_108 (lv_at hl 0 rfl) ?_
    refine k_vV (As := [.int 1, .int (nI (pWin S n i j)), .int (nI i)]) (rest := []) (Rs := []) (Bs' := [moB r F, arB ty (r 1) 215 (sqA 215 (sNote (sSq S (pWin S n i j) i) 1 (nI (pWin S n i j)) (nI i)))]) ⟨hx, hb, hml, hown, hts⟩ w (c_X9_notes l D ty r F (sSq S (pWin S n i j) i) mm (by rw [sSq_off (by omega) (by omega) (by omega)]; exact h2) hc 1 (nI (pWin S n i j)) (nI i)) (cwV 3 hts gX9_quarrel_X9_notes rfl rfl rfl ⟨rfl, hdN_X9_notes⟩ ⟨Nat.le_of_ble_eq_true rfl, Nat.le_of_ble_eq_true rfl⟩) [0, 1] (nB := 2) (by decide) rfl rfl rfl rfl 0 rfl rfl (ci := 13) rfl rfl rfl hl.1 rfl (Nat.le_of_ble_eq_true rfl) dX9_quarrel_110 ⟨(Nat.zero_le _), (Nat.zero_le _)⟩ (fun H locs w => ?_)
    refine lv_iload_n hx hb dX9_quarrel_113 rfl (lv_at hl 1 rfl) ?_
    exact e_i hx hb hr hlocks (w.cast (by rw [qr_ref (M := M) (show pLose S n i j = i from if_neg c9) (by omega) hz])) rfl dX9_quarrel_114 (Nat.le_refl _) (Nat.le_refl _)
  · have c9 := (nI_eq (a := (pWin S n i j)) (b := i) (by omega) (by omega)).mp c9
    refine lv_iload_n hx hb dX9_quarrel_12 rfl (lv_at hl 3 rfl) ?_
    refine lv_goto (tgt := 17) hx hb dX9_quarrel_13 (by decide) ?_
    refine lv_istore (lv' := [(4, .int (nI j)), (3, .int (nI (pWin S n i j))), (0, .ref (r 0)), (1, .int (nI i)), (2, .int (nI j))]) hx hb dX9_quarrel_17 hl (by decide) rfl (fun ls hl => ?_)
    refine lv_aload_n hx hb dX9_quarrel_19 rfl (lv_at hl 2 rfl) ?_
    refine lv_iload hx hb dX9_quarrel_20 (lv_at hl 0 rfl) ?_
    refine lv_iconst (v := 4) hx hb dX9_quarrel_22 (by decide) ?_
    refine lv_aload_n hx hb dX9_quarrel_23 rfl (lv_at hl 2 rfl) ?_
    refine lv_iload hx hb dX9_quarrel_24 (lv_at hl 0 rfl) ?_
    refine lv_iconst (v := 4) hx hb dX9_quarrel_26 (by decide) ?_
    refine k_iV (As := [.int (nI j), .int 4]) (rest := [.int 4, .int (nI j), .ref (r 0)]) (Rs := []) (Bs' := [moB r F, arB ty (r 1) 215 (sqA 215 S)]) ⟨hx, hb, hml, hown, hts⟩ w (c_X9_of l D ty r F S j 4 (by omega)) (cwV 2 hts gX9_quarrel_X9_of rfl rfl rfl ⟨rfl, hdN_X9_of⟩ ⟨Nat.le_of_ble_eq_true rfl, Nat.le_of_ble_eq_true rfl⟩) [0, 1] (nB := 2) (by decide) rfl rfl rfl rfl 0 rfl rfl (ci := 13) rfl rfl rfl hl.1 rfl (Nat.le_of_ble_eq_true rfl) dX9_quarrel_27 ⟨(Nat.zero_le _), (Nat.zero_le _)⟩ (fun H locs w => ?_)
    refine lv_iconst (v := 1) hx hb dX9_quarrel_30 (by decide) ?_
    refine lv_iadd hx hb dX9_quarrel_31 ?_
    refine k_vV (As := [.int (nI j), .int 4, .int ((S (1 + 6 * j + 4)) + 1)]) (rest := []) (Rs := []) (Bs' := [moB r F, arB ty (r 1) 215 (sqA 215 (upd S (1 + 6 * j + 4) ((S (1 + 6 * j + 4)) + 1)))]) ⟨hx, hb, hml, hown, hts⟩ w (c_X9_becomes l D ty r F S j 4 (by omega) ((S (1 + 6 * j + 4)) + 1)) (cwV 3 hts gX9_quarrel_X9_becomes rfl rfl rfl ⟨rfl, hdN_X9_becomes⟩ ⟨Nat.le_of_ble_eq_true rfl, Nat.le_of_ble_eq_true rfl⟩) [0, 1] (nB := 2) (by decide) rfl rfl rfl rfl 0 rfl rfl (ci := 13) rfl rfl rfl hl.1 rfl (Nat.le_of_ble_eq_true rfl) dX9_quarrel_32 ⟨(Nat.zero_le _), (Nat.zero_le _)⟩ (fun H locs w => ?_)
    
    refine lv_aload_n hx hb dX9_quarrel_35 rfl (lv_at hl 2 rfl) ?_
    refine lv_iload hx hb dX9_quarrel_36 (lv_at hl 0 rfl) ?_
    refine lv_iconst (v := 2) hx hb dX9_quarrel_38 (by decide) ?_
    refine lv_bipush (v := 9) hx hb dX9_quarrel_39 (by decide) ?_
    refine lv_aload_n hx hb dX9_quarrel_41 rfl (lv_at hl 2 rfl) ?_
    refine lv_iload hx hb dX9_quarrel_42 (lv_at hl 0 rfl) ?_
    refine lv_iconst (v := 2) hx hb dX9_quarrel_44 (by decide) ?_
    refine k_iV (As := [.int (nI j), .int 2]) (rest := [.int 9, .int 2, .int (nI j), .ref (r 0)]) (Rs := []) (Bs' := [moB r F, arB ty (r 1) 215 (sqA 215 (sSq1 S j))]) ⟨hx, hb, hml, hown, hts⟩ w (c_X9_of l D ty r F (sSq1 S j) j 2 (by omega)) (cwV 2 hts gX9_quarrel_X9_of rfl rfl rfl ⟨rfl, hdN_X9_of⟩ ⟨Nat.le_of_ble_eq_true rfl, Nat.le_of_ble_eq_true rfl⟩) [0, 1] (nB := 2) (by decide) rfl rfl rfl rfl 0 rfl rfl (ci := 13) rfl rfl rfl hl.1 rfl (Nat.le_of_ble_eq_true rfl) dX9_quarrel_45 ⟨(Nat.zero_le _), (Nat.zero_le _)⟩ (fun H locs w => ?_)
    refine lv_iconst (v := 1) hx hb dX9_quarrel_48 (by decide) ?_
    refine lv_iadd hx hb dX9_quarrel_49 ?_
    refine va_mmin hx hb (hml.trans hl.1.symm) hown (hts _ (List.mem_of_getElem? (i := 1) rfl)) (hts _ (List.mem_of_getElem? (i := 2) rfl)) (hts _ (List.mem_of_getElem? (i := 3) rfl)) (hts _ (List.mem_of_getElem? (i := 4) rfl)) (Nat.le_of_ble_eq_true rfl) (Nat.le_of_ble_eq_true rfl) (Nat.zero_le _) (Nat.zero_le _) dX9_quarrel_50 ?_
    refine r_eq (y := (jmin 9 (((sSq1 S j) (1 + 6 * j + 2)) + 1))) rfl ?_
    refine k_vV (As := [.int (nI j), .int 2, .int (jmin 9 (((sSq1 S j) (1 + 6 * j + 2)) + 1))]) (rest := []) (Rs := []) (Bs' := [moB r F, arB ty (r 1) 215 (sqA 215 (upd (sSq1 S j) (1 + 6 * j + 2) (jmin 9 (((sSq1 S j) (1 + 6 * j + 2)) + 1))))]) ⟨hx, hb, hml, hown, hts⟩ w (c_X9_becomes l D ty r F (sSq1 S j) j 2 (by omega) (jmin 9 (((sSq1 S j) (1 + 6 * j + 2)) + 1))) (cwV 3 hts gX9_quarrel_X9_becomes rfl rfl rfl ⟨rfl, hdN_X9_becomes⟩ ⟨Nat.le_of_ble_eq_true rfl, Nat.le_of_ble_eq_true rfl⟩) [0, 1] (nB := 2) (by decide) rfl rfl rfl rfl 0 rfl rfl (ci := 13) rfl rfl rfl hl.1 rfl (Nat.le_of_ble_eq_true rfl) dX9_quarrel_53 ⟨(Nat.zero_le _), (Nat.zero_le _)⟩ (fun H locs w => ?_)
    
    refine lv_aload_n hx hb dX9_quarrel_56 rfl (lv_at hl 2 rfl) ?_
    refine lv_iload_n hx hb dX9_quarrel_57 rfl (lv_at hl 1 rfl) ?_
    refine lv_iconst (v := 2) hx hb dX9_quarrel_58 (by decide) ?_
    refine lv_iconst (v := 0) hx hb dX9_quarrel_59 (by decide) ?_
    refine lv_aload_n hx hb dX9_quarrel_60 rfl (lv_at hl 2 rfl) ?_
    refine lv_iload_n hx hb dX9_quarrel_61 rfl (lv_at hl 1 rfl) ?_
    refine lv_iconst (v := 2) hx hb dX9_quarrel_62 (by decide) ?_
    refine k_iV (As := [.int (nI (pWin S n i j)), .int 2]) (rest := [.int 0, .int 2, .int (nI (pWin S n i j)), .ref (r 0)]) (Rs := []) (Bs' := [moB r F, arB ty (r 1) 215 (sqA 215 (sSq2 (sSq1 S j) j))]) ⟨hx, hb, hml, hown, hts⟩ w (c_X9_of l D ty r F (sSq2 (sSq1 S j) j) (pWin S n i j) 2 (by omega)) (cwV 2 hts gX9_quarrel_X9_of rfl rfl rfl ⟨rfl, hdN_X9_of⟩ ⟨Nat.le_of_ble_eq_true rfl, Nat.le_of_ble_eq_true rfl⟩) [0, 1] (nB := 2) (by decide) rfl rfl rfl rfl 0 rfl rfl (ci := 13) rfl rfl rfl hl.1 rfl (Nat.le_of_ble_eq_true rfl) dX9_quarrel_63 ⟨(Nat.zero_le _), (Nat.zero_le _)⟩ (fun H locs w => ?_)
    refine lv_iconst (v := 1) hx hb dX9_quarrel_66 (by decide) ?_
    refine lv_isub hx hb dX9_quarrel_67 ?_
    refine va_mmax hx hb (hml.trans hl.1.symm) hown (hts _ (List.mem_of_getElem? (i := 5) rfl)) (hts _ (List.mem_of_getElem? (i := 6) rfl)) (hts _ (List.mem_of_getElem? (i := 3) rfl)) (hts _ (List.mem_of_getElem? (i := 7) rfl)) (Nat.le_of_ble_eq_true rfl) (Nat.le_of_ble_eq_true rfl) (Nat.zero_le _) (Nat.zero_le _) dX9_quarrel_68 ?_
    refine r_eq (y := (jmax 0 (((sSq2 (sSq1 S j) j) (1 + 6 * (pWin S n i j) + 2)) - 1))) rfl ?_
    refine k_vV (As := [.int (nI (pWin S n i j)), .int 2, .int (jmax 0 (((sSq2 (sSq1 S j) j) (1 + 6 * (pWin S n i j) + 2)) - 1))]) (rest := []) (Rs := []) (Bs' := [moB r F, arB ty (r 1) 215 (sqA 215 (upd (sSq2 (sSq1 S j) j) (1 + 6 * (pWin S n i j) + 2) (jmax 0 (((sSq2 (sSq1 S j) j) (1 + 6 * (pWin S n i j) + 2)) - 1))))]) ⟨hx, hb, hml, hown, hts⟩ w (c_X9_becomes l D ty r F (sSq2 (sSq1 S j) j) (pWin S n i j) 2 (by omega) (jmax 0 (((sSq2 (sSq1 S j) j) (1 + 6 * (pWin S n i j) + 2)) - 1))) (cwV 3 hts gX9_quarrel_X9_becomes rfl rfl rfl ⟨rfl, hdN_X9_becomes⟩ ⟨Nat.le_of_ble_eq_true rfl, Nat.le_of_ble_eq_true rfl⟩) [0, 1] (nB := 2) (by decide) rfl rfl rfl rfl 0 rfl rfl (ci := 13) rfl rfl rfl hl.1 rfl (Nat.le_of_ble_eq_true rfl) dX9_quarrel_71 ⟨(Nat.zero_le _), (Nat.zero_le _)⟩ (fun H locs w => ?_)
    
    refine lv_aload_n hx hb dX9_quarrel_74 rfl (lv_at hl 2 rfl) ?_
    refine r_get (v' := .ref (r 1)) hx hb hts in_X9_quarrel_X9 hown w 0 0 rfl rfl (ci := 13) rfl 0 (by decide) (hts _ (List.mem_of_getElem? (i := 8) rfl)) rfl rfl rfl dX9_quarrel_75 ?_
    refine lv_bipush (v := 58) hx hb dX9_quarrel_78 (by decide) ?_
    refine lv_bipush (v := 8) hx hb dX9_quarrel_80 (by decide) ?_
    refine lv_iload_n hx hb dX9_quarrel_82 rfl (lv_at hl 1 rfl) ?_
    refine lv_imul hx hb dX9_quarrel_83 ?_
    refine r_eq (y := (nI (8 * (pWin S n i j)))) (pk_mul 8 (pWin S n i j)) ?_
    refine lv_iadd hx hb dX9_quarrel_84 ?_
    refine r_eq (y := (nI (58 + (8 * (pWin S n i j))))) (nI_add 58 (8 * (pWin S n i j))) ?_
    refine lv_iload hx hb dX9_quarrel_85 (lv_at hl 0 rfl) ?_
    refine lv_iadd hx hb dX9_quarrel_87 ?_
    refine r_eq (y := (nI ((58 + (8 * (pWin S n i j))) + j))) (nI_add (58 + (8 * (pWin S n i j))) j) ?_
    refine lv_dup2_11 hx hb dX9_quarrel_88 rfl rfl ?_
    refine r_iald (v := ((sSq3 (sSq2 (sSq1 S j) j) (pWin S n i j)) ((58 + (8 * (pWin S n i j))) + j))) hx hb w 1 0 rfl rfl 0 rfl ((58 + (8 * (pWin S n i j))) + j) (by omega) (Nat.le_of_ble_eq_true rfl) rfl (sqA_at (by omega)) dX9_quarrel_89 ?_
    refine lv_iconst (v := 1) hx hb dX9_quarrel_90 (by decide) ?_
    refine lv_iadd hx hb dX9_quarrel_91 ?_
    refine r_iast hx hb w 1 0 rfl rfl 0 rfl ((58 + (8 * (pWin S n i j))) + j) (by omega) (Nat.le_of_ble_eq_true rfl) rfl (arB ty (r 1) 215 (sqA 215 (sSq4 (sSq3 (sSq2 (sSq1 S j) j) (pWin S n i j)) (pWin S n i j) j))) (arB_st (by omega)) [moB r F, arB ty (r 1) 215 (sqA 215 (sSq4 (sSq3 (sSq2 (sSq1 S j) j) (pWin S n i j)) (pWin S n i j) j))] rfl dX9_quarrel_92 (fun H locs w => ?_)
    refine lv_aload_n hx hb dX9_quarrel_93 rfl (lv_at hl 2 rfl) ?_
    refine r_get (v' := .ref (r 1)) hx hb hts in_X9_quarrel_X9 hown w 0 0 rfl rfl (ci := 13) rfl 0 (by decide) (hts _ (List.mem_of_getElem? (i := 8) rfl)) rfl rfl rfl dX9_quarrel_94 ?_
    refine lv_sipush (v := 213) hx hb dX9_quarrel_97 (by decide) ?_
    refine lv_dup2_11 hx hb dX9_quarrel_100 rfl rfl ?_
    refine r_iald (v := ((sSq4 (sSq3 (sSq2 (sSq1 S j) j) (pWin S n i j)) (pWin S n i j) j) 213)) hx hb w 1 0 rfl rfl 0 rfl 213 (by omega) (Nat.le_of_ble_eq_true rfl) rfl (sqA_at (by omega)) dX9_quarrel_101 ?_
    refine lv_iconst (v := 1) hx hb dX9_quarrel_102 (by decide) ?_
    refine lv_iadd hx hb dX9_quarrel_103 ?_
    refine r_iast hx hb w 1 0 rfl rfl 0 rfl 213 (by omega) (Nat.le_of_ble_eq_true rfl) rfl (arB ty (r 1) 215 (sqA 215 (sSq S (pWin S n i j) j))) (arB_st (by omega)) [moB r F, arB ty (r 1) 215 (sqA 215 (sSq S (pWin S n i j) j))] rfl dX9_quarrel_104 (fun H locs w => ?_)
    refine lv_aload_n hx hb dX9_quarrel_105 rfl (lv_at hl 2 rfl) ?_
    refine lv_iconst (v := 1) hx hb dX9_quarrel_106 (by decide) ?_
    refine lv_iload_n hx hb dX9_quarrel_107 rfl (lv_at hl 1 rfl) ?_
    refine lv_iload hx hb dX9_quarrel_108 (lv_at hl 0 rfl) ?_
    refine k_vV (As := [.int 1, .int (nI (pWin S n i j)), .int (nI j)]) (rest := []) (Rs := []) (Bs' := [moB r F, arB ty (r 1) 215 (sqA 215 (sNote (sSq S (pWin S n i j) j) 1 (nI (pWin S n i j)) (nI j)))]) ⟨hx, hb, hml, hown, hts⟩ w (c_X9_notes l D ty r F (sSq S (pWin S n i j) j) mm (by rw [sSq_off (by omega) (by omega) (by omega)]; exact h2) hc 1 (nI (pWin S n i j)) (nI j)) (cwV 3 hts gX9_quarrel_X9_notes rfl rfl rfl ⟨rfl, hdN_X9_notes⟩ ⟨Nat.le_of_ble_eq_true rfl, Nat.le_of_ble_eq_true rfl⟩) [0, 1] (nB := 2) (by decide) rfl rfl rfl rfl 0 rfl rfl (ci := 13) rfl rfl rfl hl.1 rfl (Nat.le_of_ble_eq_true rfl) dX9_quarrel_110 ⟨(Nat.zero_le _), (Nat.zero_le _)⟩ (fun H locs w => ?_)
    refine lv_iload_n hx hb dX9_quarrel_113 rfl (lv_at hl 1 rfl) ?_
    exact e_i hx hb hr hlocks (w.cast (by rw [qr_ref (M := M) (show pLose S n i j = j from if_pos c9) (by omega) hz])) rfl dX9_quarrel_114 (Nat.le_refl _) (Nat.le_refl _)
