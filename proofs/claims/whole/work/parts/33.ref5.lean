theorem in_X9_reason_X9 : ∀ w ∈ wsX90, w ∈ wsX9_reason := by decide +kernel
theorem hdN_X9_reason : yX9_reason.cls ≠ "java/lang/invoke/MethodHandle" ∧ yX9_reason.cls ≠ "java/lang/invoke/VarHandle" ∧ (parseMethodDescriptor yX9_reason.desc).map (fun d => d.parameters.length) = some 1 := by decide +kernel
set_option maxRecDepth 100000 in
set_option maxHeartbeats 4000000 in
theorem c_X9_reason (l : Launch) (D : va_G) (ty : Nat → ClassId) (r : Nat → Nat) (F : pS) (x : Int32)  : Mi l yX9_reason wsX9_reason (kR 1 22 0 0) D (kTY ty) [.ref (r 0), .int x] [moB r F] [moB r (upd F 7 (tReason F x))] (gT (tReason F x) (vReason F x)) 0 0 := by
  refine m_i (cc := cX9_reason) (maxL := 2) (ret := (some .int)) (by decide +kernel) rfl (Nat.le_of_ble_eq_true rfl) ?_
  intro p e s m below meth c A ls hx hb hml hr hlocks hown hts w hl
  have hown : s.vm.findClass RX9 = some m.cls := hown
  have hl : lv_has ls 2 [(0, .ref (r 0)), (1, .int x)] := hl
  refine lv_aload_n hx hb dX9_reason_0 rfl (lv_at hl 0 rfl) ?_
  refine lv_iload_n hx hb dX9_reason_1 rfl (lv_at hl 1 rfl) ?_
  refine lv_iconst (v := 0) hx hb dX9_reason_2 (by decide) ?_
  refine lv_iconst (v := 2) hx hb dX9_reason_3 (by decide) ?_
  refine k_iS (As := [.int x, .int 0, .int 2]) (rest := [.ref (r 0)]) (Rs := [moB r F]) (Bs' := [moB r F]) ⟨hx, hb, hml, hown, hts⟩ w (c_X9_isIn l D ty x 0 2) (va_cwS 3 hts gX9_reason_X9_isIn rfl rfl rfl hdN_X9_isIn ⟨Nat.le_of_ble_eq_true rfl, Nat.le_of_ble_eq_true rfl⟩) [0] (nB := 1) (by decide) rfl rfl rfl rfl rfl hl.1 rfl (Nat.le_of_ble_eq_true rfl) dX9_reason_4 ⟨(Nat.zero_le _), (Nat.zero_le _)⟩ (fun H locs w => ?_)
  refine lv_if_ne (tgt := 14) hx hb dX9_reason_7 (by decide) (fun c7 => ?_) (fun c7 => ?_)
  · have c7 := bI_1.mp c7
    refine lv_aload_n hx hb dX9_reason_14 rfl (lv_at hl 0 rfl) ?_
    refine r_get (v' := .int (F 8)) hx hb hts in_X9_reason_X9 hown w 0 0 rfl rfl (ci := 13) rfl 8 (by decide) (hts _ (List.mem_of_getElem? (i := 1) rfl)) rfl rfl rfl dX9_reason_15 ?_
    refine lv_if_ne (tgt := 25) hx hb dX9_reason_18 (by decide) (fun c18 => ?_) (fun c18 => ?_)
    · refine lv_iconst (v := 0) hx hb dX9_reason_25 (by decide) ?_
      have ht : tReason F x = 0 := by simp [tReason, c7, c18]
      refine r_put hx hb hts in_X9_reason_X9 tyX9 tyX9_ok nmX9 hown w 0 0 rfl rfl (ci := 13) rfl 7 (by decide) (hts _ (List.mem_of_getElem? (i := 2) rfl)) rfl rfl (ty := .int) (by decide +kernel) rfl rfl (Nat.le_of_ble_eq_true rfl) (moB r (upd F 7 0)) rfl [moB r (upd F 7 0)] rfl dX9_reason_26 (fun H locs w => ?_)
      refine lv_aload_n hx hb dX9_reason_29 rfl (lv_at hl 0 rfl) ?_
      refine r_get (v' := .int 0) hx hb hts in_X9_reason_X9 hown w 0 0 rfl rfl (ci := 13) rfl 7 (by decide) (hts _ (List.mem_of_getElem? (i := 2) rfl)) rfl rfl rfl dX9_reason_30 ?_
      refine lv_if_eq (tgt := 40) hx hb dX9_reason_33 (by decide) (fun c33 => ?_) (fun c33 => ?_)
      · refine lv_iload_n hx hb dX9_reason_40 rfl (lv_at hl 1 rfl) ?_
        refine lv_if_ne (tgt := 51) hx hb dX9_reason_41 (by decide) (fun c41 => ?_) (fun c41 => ?_)
        · refine lv_iload_n hx hb dX9_reason_51 rfl (lv_at hl 1 rfl) ?_
          refine lv_iconst (v := 1) hx hb dX9_reason_52 (by decide) ?_
          refine lv_icmp_ne (tgt := 63) hx hb dX9_reason_53 (by decide) (fun c53 => ?_) (fun c53 => ?_)
          · refine lv_aload_n hx hb dX9_reason_63 rfl (lv_at hl 0 rfl) ?_
            refine r_get (v' := .int (F 10)) hx hb hts in_X9_reason_X9 hown w 0 0 rfl rfl (ci := 13) rfl 10 (by decide) (hts _ (List.mem_of_getElem? (i := 4) rfl)) rfl rfl rfl dX9_reason_64 ?_
            exact e_i hx hb hr hlocks (w.cast (by rw [ht])) (by rw [gT, ht, if_pos rfl, vReason, if_neg c41, if_neg c53]) dX9_reason_67 (Nat.le_refl _) (Nat.le_refl _)
          · refine lv_aload_n hx hb dX9_reason_56 rfl (lv_at hl 0 rfl) ?_
            refine r_get (v' := .int (F 9)) hx hb hts in_X9_reason_X9 hown w 0 0 rfl rfl (ci := 13) rfl 9 (by decide) (hts _ (List.mem_of_getElem? (i := 3) rfl)) rfl rfl rfl dX9_reason_57 ?_
            refine lv_goto (tgt := 67) hx hb dX9_reason_60 (by decide) ?_
            exact e_i hx hb hr hlocks (w.cast (by rw [ht])) (by rw [gT, ht, if_pos rfl, vReason, if_neg c41, if_pos c53]) dX9_reason_67 (Nat.le_refl _) (Nat.le_refl _)
        · refine lv_aload_n hx hb dX9_reason_44 rfl (lv_at hl 0 rfl) ?_
          refine r_get (v' := .int (F 8)) hx hb hts in_X9_reason_X9 hown w 0 0 rfl rfl (ci := 13) rfl 8 (by decide) (hts _ (List.mem_of_getElem? (i := 1) rfl)) rfl rfl rfl dX9_reason_45 ?_
          refine lv_goto (tgt := 67) hx hb dX9_reason_48 (by decide) ?_
          exact e_i hx hb hr hlocks (w.cast (by rw [ht])) (by rw [gT, ht, if_pos rfl, vReason, if_pos c41]) dX9_reason_67 (Nat.le_refl _) (Nat.le_refl _)
      · exact absurd c33 (by decide)
    · refine lv_iconst (v := 2) hx hb dX9_reason_21 (by decide) ?_
      refine lv_goto (tgt := 26) hx hb dX9_reason_22 (by decide) ?_
      have ht : tReason F x = 2 := by simp [tReason, c7, c18]
      refine r_put hx hb hts in_X9_reason_X9 tyX9 tyX9_ok nmX9 hown w 0 0 rfl rfl (ci := 13) rfl 7 (by decide) (hts _ (List.mem_of_getElem? (i := 2) rfl)) rfl rfl (ty := .int) (by decide +kernel) rfl rfl (Nat.le_of_ble_eq_true rfl) (moB r (upd F 7 2)) rfl [moB r (upd F 7 2)] rfl dX9_reason_26 (fun H locs w => ?_)
      refine lv_aload_n hx hb dX9_reason_29 rfl (lv_at hl 0 rfl) ?_
      refine r_get (v' := .int 2) hx hb hts in_X9_reason_X9 hown w 0 0 rfl rfl (ci := 13) rfl 7 (by decide) (hts _ (List.mem_of_getElem? (i := 2) rfl)) rfl rfl rfl dX9_reason_30 ?_
      refine lv_if_eq (tgt := 40) hx hb dX9_reason_33 (by decide) (fun c33 => ?_) (fun c33 => ?_)
      · exact absurd c33 (by decide)
      · refine lv_iconst (v := 0) hx hb dX9_reason_36 (by decide) ?_
        refine lv_goto (tgt := 67) hx hb dX9_reason_37 (by decide) ?_
        exact e_i hx hb hr hlocks (w.cast (by rw [ht])) (by rw [gT, ht]; rfl) dX9_reason_67 (Nat.le_refl _) (Nat.le_refl _)
  · have c7 := bI_0.mp c7
    refine lv_iconst (v := 1) hx hb dX9_reason_10 (by decide) ?_
    refine lv_goto (tgt := 26) hx hb dX9_reason_11 (by decide) ?_
    have ht : tReason F x = 1 := by simp [tReason, c7]
    refine r_put hx hb hts in_X9_reason_X9 tyX9 tyX9_ok nmX9 hown w 0 0 rfl rfl (ci := 13) rfl 7 (by decide) (hts _ (List.mem_of_getElem? (i := 2) rfl)) rfl rfl (ty := .int) (by decide +kernel) rfl rfl (Nat.le_of_ble_eq_true rfl) (moB r (upd F 7 1)) rfl [moB r (upd F 7 1)] rfl dX9_reason_26 (fun H locs w => ?_)
    refine lv_aload_n hx hb dX9_reason_29 rfl (lv_at hl 0 rfl) ?_
    refine r_get (v' := .int 1) hx hb hts in_X9_reason_X9 hown w 0 0 rfl rfl (ci := 13) rfl 7 (by decide) (hts _ (List.mem_of_getElem? (i := 2) rfl)) rfl rfl rfl dX9_reason_30 ?_
    refine lv_if_eq (tgt := 40) hx hb dX9_reason_33 (by decide) (fun c33 => ?_) (fun c33 => ?_)
    · exact absurd c33 (by decide)
    · refine lv_iconst (v := 0) hx hb dX9_reason_36 (by decide) ?_
      refine lv_goto (tgt := 67) hx hb dX9_reason_37 (by decide) ?_
      exact e_i hx hb hr hlocks (w.cast (by rw [ht])) (by rw [gT, ht]; rfl) dX9_reason_67 (Nat.le_refl _) (Nat.le_refl _)

theorem in_X9_householdOf_X9 : ∀ w ∈ wsX90, w ∈ wsX9_householdOf := by decide +kernel
theorem hdN_X9_householdOf : yX9_householdOf.cls ≠ "java/lang/invoke/MethodHandle" ∧ yX9_householdOf.cls ≠ "java/lang/invoke/VarHandle" ∧ (parseMethodDescriptor yX9_householdOf.desc).map (fun d => d.parameters.length) = some 2 := by decide +kernel
set_option maxRecDepth 100000 in
set_option maxHeartbeats 4000000 in
theorem c_X9_householdOf (l : Launch) (D : va_G) (ty : Nat → ClassId) (r : Nat → Nat) (F S : pS) (n : Nat) (h0 : S 0 = nI n) (hn : n ≤ 8) (q : Nat) (h1 : S 49 = nI q) (hq : q ≤ 8) (h x : Int32)  : Mi l yX9_householdOf wsX9_householdOf (kR 4 87 0 0) D (kTY ty) [.ref (r 0), .int h, .int x] [moB r F, arB ty (r 1) 215 (sqA 215 S)] [moB r (upd F 7 (tHo n h x)), arB ty (r 1) 215 (sqA 215 S)] (gT (tHo n h x) (vHo S q h x)) 0 0 := by
  refine m_i (cc := cX9_householdOf) (maxL := 3) (ret := (some .int)) (by decide +kernel) rfl (Nat.le_of_ble_eq_true rfl) ?_
  intro p e s m below meth c A ls hx hb hml hr hlocks hown hts w hl
  have hown : s.vm.findClass RX9 = some m.cls := hown
  have hl : lv_has ls 3 [(0, .ref (r 0)), (1, .int h), (2, .int x)] := hl
  refine lv_aload_n hx hb dX9_householdOf_0 rfl (lv_at hl 0 rfl) ?_
  refine lv_aload_n hx hb dX9_householdOf_1 rfl (lv_at hl 0 rfl) ?_
  refine lv_iload_n hx hb dX9_householdOf_2 rfl (lv_at hl 1 rfl) ?_
  refine k_iV (As := [.int h]) (rest := [.ref (r 0)]) (Rs := []) (Bs' := [moB r F, arB ty (r 1) 215 (sqA 215 S)]) ⟨hx, hb, hml, hown, hts⟩ w (c_X9_isHousehold l D ty r F S n h0 hn h) (cwV 1 hts gX9_householdOf_X9_isHousehold rfl rfl rfl ⟨rfl, hdN_X9_isHousehold⟩ ⟨Nat.le_of_ble_eq_true rfl, Nat.le_of_ble_eq_true rfl⟩) [0, 1] (nB := 2) (by decide) rfl rfl rfl rfl 0 rfl rfl (ci := 13) rfl rfl rfl hl.1 rfl (Nat.le_of_ble_eq_true rfl) dX9_householdOf_3 ⟨(Nat.zero_le _), (Nat.zero_le _)⟩ (fun H locs w => ?_)
  refine lv_if_ne (tgt := 13) hx hb dX9_householdOf_6 (by decide) (fun c6 => ?_) (fun c6 => ?_)
  · have c6 := bI_1.mp c6
    obtain ⟨i, ggi, rfl⟩ := (pHas_iff (by omega)).mp c6
    refine lv_iload_n hx hb dX9_householdOf_13 rfl (lv_at hl 2 rfl) ?_
    refine lv_iconst (v := 0) hx hb dX9_householdOf_14 (by decide) ?_
    refine lv_bipush (v := 8) hx hb dX9_householdOf_15 (by decide) ?_
    refine k_iS (As := [.int x, .int 0, .int 8]) (rest := [.ref (r 0)]) (Rs := [moB r F, arB ty (r 1) 215 (sqA 215 S)]) (Bs' := [moB r F, arB ty (r 1) 215 (sqA 215 S)]) ⟨hx, hb, hml, hown, hts⟩ w (c_X9_isIn l D ty x 0 8) (va_cwS 3 hts gX9_householdOf_X9_isIn rfl rfl rfl hdN_X9_isIn ⟨Nat.le_of_ble_eq_true rfl, Nat.le_of_ble_eq_true rfl⟩) [0, 1] (nB := 2) (by decide) rfl rfl rfl rfl rfl hl.1 rfl (Nat.le_of_ble_eq_true rfl) dX9_householdOf_17 ⟨(Nat.zero_le _), (Nat.zero_le _)⟩ (fun H locs w => ?_)
    refine lv_if_ne (tgt := 27) hx hb dX9_householdOf_20 (by decide) (fun c20 => ?_) (fun c20 => ?_)
    · have c20 := bI_1.mp c20
      obtain ⟨j, ggj, rfl⟩ := pIn_nat0 (k := 8) (by omega) c20
      refine lv_iconst (v := 0) hx hb dX9_householdOf_27 (by decide) ?_
      have ht : tHo n (nI i) (nI j) = 0 := by simp [tHo, c6, c20]
      refine r_put hx hb hts in_X9_householdOf_X9 tyX9 tyX9_ok nmX9 hown w 0 0 rfl rfl (ci := 13) rfl 7 (by decide) (hts _ (List.mem_of_getElem? (i := 1) rfl)) rfl rfl (ty := .int) (by decide +kernel) rfl rfl (Nat.le_of_ble_eq_true rfl) (moB r (upd F 7 0)) rfl [moB r (upd F 7 0), arB ty (r 1) 215 (sqA 215 S)] rfl dX9_householdOf_28 (fun H locs w => ?_)
      refine lv_aload_n hx hb dX9_householdOf_31 rfl (lv_at hl 0 rfl) ?_
      refine r_get (v' := .int 0) hx hb hts in_X9_householdOf_X9 hown w 0 0 rfl rfl (ci := 13) rfl 7 (by decide) (hts _ (List.mem_of_getElem? (i := 1) rfl)) rfl rfl rfl dX9_householdOf_32 ?_
      refine lv_if_eq (tgt := 40) hx hb dX9_householdOf_35 (by decide) (fun c35 => ?_) (fun c35 => ?_)
      · rcases (show j = 0 ∨ j = 1 ∨ j = 2 ∨ j = 3 ∨ j = 4 ∨ j = 5 ∨ j = 6 ∨ j = 7 ∨ j = 8 by omega) with rfl | rfl | rfl | rfl | rfl | rfl | rfl | rfl | rfl
        · refine lv_iload_n hx hb dX9_householdOf_40 rfl (lv_at hl 2 rfl) ?_
          refine lv_tableIn (tgt := 92) hx hb dX9_householdOf_41 (by decide) (by decide) rfl (by decide) ?_
          refine lv_aload_n hx hb dX9_householdOf_92 rfl (lv_at hl 0 rfl) ?_
          refine lv_iload_n hx hb dX9_householdOf_93 rfl (lv_at hl 1 rfl) ?_
          refine lv_iload_n hx hb dX9_householdOf_94 rfl (lv_at hl 2 rfl) ?_
          refine k_iV (As := [.int (nI i), .int (nI 0)]) (rest := []) (Rs := []) (Bs' := [moB r (upd F 7 0), arB ty (r 1) 215 (sqA 215 S)]) ⟨hx, hb, hml, hown, hts⟩ w (c_X9_of l D ty r (upd F 7 0) S i 0 (by omega)) (cwV 2 hts gX9_householdOf_X9_of rfl rfl rfl ⟨rfl, hdN_X9_of⟩ ⟨Nat.le_of_ble_eq_true rfl, Nat.le_of_ble_eq_true rfl⟩) [0, 1] (nB := 2) (by decide) rfl rfl rfl rfl 0 rfl rfl (ci := 13) rfl rfl rfl hl.1 rfl (Nat.le_of_ble_eq_true rfl) dX9_householdOf_95 ⟨(Nat.zero_le _), (Nat.zero_le _)⟩ (fun H locs w => ?_)
          exact e_i hx hb hr hlocks (w.cast (by rw [ht])) (by rw [gT, ht, if_pos rfl, vHo, cN_nI (show i < 2 ^ 31 by omega)]; rfl) dX9_householdOf_98 (Nat.le_refl _) (Nat.le_refl _)
        · refine lv_iload_n hx hb dX9_householdOf_40 rfl (lv_at hl 2 rfl) ?_
          refine lv_tableIn (tgt := 92) hx hb dX9_householdOf_41 (by decide) (by decide) rfl (by decide) ?_
          refine lv_aload_n hx hb dX9_householdOf_92 rfl (lv_at hl 0 rfl) ?_
          refine lv_iload_n hx hb dX9_householdOf_93 rfl (lv_at hl 1 rfl) ?_
          refine lv_iload_n hx hb dX9_householdOf_94 rfl (lv_at hl 2 rfl) ?_
          refine k_iV (As := [.int (nI i), .int (nI 1)]) (rest := []) (Rs := []) (Bs' := [moB r (upd F 7 0), arB ty (r 1) 215 (sqA 215 S)]) ⟨hx, hb, hml, hown, hts⟩ w (c_X9_of l D ty r (upd F 7 0) S i 1 (by omega)) (cwV 2 hts gX9_householdOf_X9_of rfl rfl rfl ⟨rfl, hdN_X9_of⟩ ⟨Nat.le_of_ble_eq_true rfl, Nat.le_of_ble_eq_true rfl⟩) [0, 1] (nB := 2) (by decide) rfl rfl rfl rfl 0 rfl rfl (ci := 13) rfl rfl rfl hl.1 rfl (Nat.le_of_ble_eq_true rfl) dX9_householdOf_95 ⟨(Nat.zero_le _), (Nat.zero_le _)⟩ (fun H locs w => ?_)
          exact e_i hx hb hr hlocks (w.cast (by rw [ht])) (by rw [gT, ht, if_pos rfl, vHo, cN_nI (show i < 2 ^ 31 by omega)]; rfl) dX9_householdOf_98 (Nat.le_refl _) (Nat.le_refl _)
        · refine lv_iload_n hx hb dX9_householdOf_40 rfl (lv_at hl 2 rfl) ?_
          refine lv_tableIn (tgt := 92) hx hb dX9_householdOf_41 (by decide) (by decide) rfl (by decide) ?_
          refine lv_aload_n hx hb dX9_householdOf_92 rfl (lv_at hl 0 rfl) ?_
          refine lv_iload_n hx hb dX9_householdOf_93 rfl (lv_at hl 1 rfl) ?_
          refine lv_iload_n hx hb dX9_householdOf_94 rfl (lv_at hl 2 rfl) ?_
          refine k_iV (As := [.int (nI i), .int (nI 2)]) (rest := []) (Rs := []) (Bs' := [moB r (upd F 7 0), arB ty (r 1) 215 (sqA 215 S)]) ⟨hx, hb, hml, hown, hts⟩ w (c_X9_of l D ty r (upd F 7 0) S i 2 (by omega)) (cwV 2 hts gX9_householdOf_X9_of rfl rfl rfl ⟨rfl, hdN_X9_of⟩ ⟨Nat.le_of_ble_eq_true rfl, Nat.le_of_ble_eq_true rfl⟩) [0, 1] (nB := 2) (by decide) rfl rfl rfl rfl 0 rfl rfl (ci := 13) rfl rfl rfl hl.1 rfl (Nat.le_of_ble_eq_true rfl) dX9_householdOf_95 ⟨(Nat.zero_le _), (Nat.zero_le _)⟩ (fun H locs w => ?_)
          exact e_i hx hb hr hlocks (w.cast (by rw [ht])) (by rw [gT, ht, if_pos rfl, vHo, cN_nI (show i < 2 ^ 31 by omega)]; rfl) dX9_householdOf_98 (Nat.le_refl _) (Nat.le_refl _)
        · refine lv_iload_n hx hb dX9_householdOf_40 rfl (lv_at hl 2 rfl) ?_
          refine lv_tableIn (tgt := 99) hx hb dX9_householdOf_41 (by decide) (by decide) rfl (by decide) ?_
          refine lv_aload_n hx hb dX9_householdOf_99 rfl (lv_at hl 0 rfl) ?_
          refine lv_iload_n hx hb dX9_householdOf_100 rfl (lv_at hl 1 rfl) ?_
          refine k_iV (As := [.int (nI i)]) (rest := []) (Rs := []) (Bs' := [moB r (upd F 7 0), arB ty (r 1) 215 (sqA 215 S)]) ⟨hx, hb, hml, hown, hts⟩ w (c_X9_turns l D ty r (upd F 7 0) S i (by omega)) (cwV 1 hts gX9_householdOf_X9_turns rfl rfl rfl ⟨rfl, hdN_X9_turns⟩ ⟨Nat.le_of_ble_eq_true rfl, Nat.le_of_ble_eq_true rfl⟩) [0, 1] (nB := 2) (by decide) rfl rfl rfl rfl 0 rfl rfl (ci := 13) rfl rfl rfl hl.1 rfl (Nat.le_of_ble_eq_true rfl) dX9_householdOf_101 ⟨(Nat.zero_le _), (Nat.zero_le _)⟩ (fun H locs w => ?_)
          exact e_i hx hb hr hlocks (w.cast (by rw [ht])) (by rw [gT, ht, if_pos rfl, vHo, cN_nI (show i < 2 ^ 31 by omega)]; rfl) dX9_householdOf_104 (Nat.le_refl _) (Nat.le_refl _)
        · refine lv_iload_n hx hb dX9_householdOf_40 rfl (lv_at hl 2 rfl) ?_
          refine lv_tableIn (tgt := 105) hx hb dX9_householdOf_41 (by decide) (by decide) rfl (by decide) ?_
          refine lv_aload_n hx hb dX9_householdOf_105 rfl (lv_at hl 0 rfl) ?_
          refine lv_iload_n hx hb dX9_householdOf_106 rfl (lv_at hl 1 rfl) ?_
          refine k_iV (As := [.int (nI i)]) (rest := []) (Rs := []) (Bs' := [moB r (upd F 7 0), arB ty (r 1) 215 (sqA 215 S)]) ⟨hx, hb, hml, hown, hts⟩ w (c_X9_left l D ty r (upd F 7 0) S i (by omega)) (cwV 1 hts gX9_householdOf_X9_left rfl rfl rfl ⟨rfl, hdN_X9_left⟩ ⟨Nat.le_of_ble_eq_true rfl, Nat.le_of_ble_eq_true rfl⟩) [0, 1] (nB := 2) (by decide) rfl rfl rfl rfl 0 rfl rfl (ci := 13) rfl rfl rfl hl.1 rfl (Nat.le_of_ble_eq_true rfl) dX9_householdOf_107 ⟨(Nat.zero_le _), (Nat.zero_le _)⟩ (fun H locs w => ?_)
          exact e_i hx hb hr hlocks (w.cast (by rw [ht])) (by rw [gT, ht, if_pos rfl, vHo, cN_nI (show i < 2 ^ 31 by omega)]; rfl) dX9_householdOf_110 (Nat.le_refl _) (Nat.le_refl _)
        · refine lv_iload_n hx hb dX9_householdOf_40 rfl (lv_at hl 2 rfl) ?_
          refine lv_tableIn (tgt := 117) hx hb dX9_householdOf_41 (by decide) (by decide) rfl (by decide) ?_
          refine lv_aload_n hx hb dX9_householdOf_117 rfl (lv_at hl 0 rfl) ?_
          refine lv_iload_n hx hb dX9_householdOf_118 rfl (lv_at hl 1 rfl) ?_
          refine lv_iload_n hx hb dX9_householdOf_119 rfl (lv_at hl 2 rfl) ?_
          refine lv_iconst (v := 2) hx hb dX9_householdOf_120 (by decide) ?_
          refine lv_isub hx hb dX9_householdOf_121 ?_
          refine r_eq (y := (nI (5 - 2))) (pk_sub (a := 5) (b := 2) (by omega)) ?_
          refine k_iV (As := [.int (nI i), .int (nI (5 - 2))]) (rest := []) (Rs := []) (Bs' := [moB r (upd F 7 0), arB ty (r 1) 215 (sqA 215 S)]) ⟨hx, hb, hml, hown, hts⟩ w (c_X9_of l D ty r (upd F 7 0) S i (5 - 2) (by omega)) (cwV 2 hts gX9_householdOf_X9_of rfl rfl rfl ⟨rfl, hdN_X9_of⟩ ⟨Nat.le_of_ble_eq_true rfl, Nat.le_of_ble_eq_true rfl⟩) [0, 1] (nB := 2) (by decide) rfl rfl rfl rfl 0 rfl rfl (ci := 13) rfl rfl rfl hl.1 rfl (Nat.le_of_ble_eq_true rfl) dX9_householdOf_122 ⟨(Nat.zero_le _), (Nat.zero_le _)⟩ (fun H locs w => ?_)
          exact e_i hx hb hr hlocks (w.cast (by rw [ht])) (by rw [gT, ht, if_pos rfl, vHo, cN_nI (show i < 2 ^ 31 by omega)]; rfl) dX9_householdOf_125 (Nat.le_refl _) (Nat.le_refl _)
        · refine lv_iload_n hx hb dX9_householdOf_40 rfl (lv_at hl 2 rfl) ?_
          refine lv_tableIn (tgt := 117) hx hb dX9_householdOf_41 (by decide) (by decide) rfl (by decide) ?_
          refine lv_aload_n hx hb dX9_householdOf_117 rfl (lv_at hl 0 rfl) ?_
          refine lv_iload_n hx hb dX9_householdOf_118 rfl (lv_at hl 1 rfl) ?_
          refine lv_iload_n hx hb dX9_householdOf_119 rfl (lv_at hl 2 rfl) ?_
          refine lv_iconst (v := 2) hx hb dX9_householdOf_120 (by decide) ?_
          refine lv_isub hx hb dX9_householdOf_121 ?_
          refine r_eq (y := (nI (6 - 2))) (pk_sub (a := 6) (b := 2) (by omega)) ?_
          refine k_iV (As := [.int (nI i), .int (nI (6 - 2))]) (rest := []) (Rs := []) (Bs' := [moB r (upd F 7 0), arB ty (r 1) 215 (sqA 215 S)]) ⟨hx, hb, hml, hown, hts⟩ w (c_X9_of l D ty r (upd F 7 0) S i (6 - 2) (by omega)) (cwV 2 hts gX9_householdOf_X9_of rfl rfl rfl ⟨rfl, hdN_X9_of⟩ ⟨Nat.le_of_ble_eq_true rfl, Nat.le_of_ble_eq_true rfl⟩) [0, 1] (nB := 2) (by decide) rfl rfl rfl rfl 0 rfl rfl (ci := 13) rfl rfl rfl hl.1 rfl (Nat.le_of_ble_eq_true rfl) dX9_householdOf_122 ⟨(Nat.zero_le _), (Nat.zero_le _)⟩ (fun H locs w => ?_)
          exact e_i hx hb hr hlocks (w.cast (by rw [ht])) (by rw [gT, ht, if_pos rfl, vHo, cN_nI (show i < 2 ^ 31 by omega)]; rfl) dX9_householdOf_125 (Nat.le_refl _) (Nat.le_refl _)
        · refine lv_iload_n hx hb dX9_householdOf_40 rfl (lv_at hl 2 rfl) ?_
          refine lv_tableIn (tgt := 117) hx hb dX9_householdOf_41 (by decide) (by decide) rfl (by decide) ?_
          refine lv_aload_n hx hb dX9_householdOf_117 rfl (lv_at hl 0 rfl) ?_
          refine lv_iload_n hx hb dX9_householdOf_118 rfl (lv_at hl 1 rfl) ?_
          refine lv_iload_n hx hb dX9_householdOf_119 rfl (lv_at hl 2 rfl) ?_
          refine lv_iconst (v := 2) hx hb dX9_householdOf_120 (by decide) ?_
          refine lv_isub hx hb dX9_householdOf_121 ?_
          refine r_eq (y := (nI (7 - 2))) (pk_sub (a := 7) (b := 2) (by omega)) ?_
          refine k_iV (As := [.int (nI i), .int (nI (7 - 2))]) (rest := []) (Rs := []) (Bs' := [moB r (upd F 7 0), arB ty (r 1) 215 (sqA 215 S)]) ⟨hx, hb, hml, hown, hts⟩ w (c_X9_of l D ty r (upd F 7 0) S i (7 - 2) (by omega)) (cwV 2 hts gX9_householdOf_X9_of rfl rfl rfl ⟨rfl, hdN_X9_of⟩ ⟨Nat.le_of_ble_eq_true rfl, Nat.le_of_ble_eq_true rfl⟩) [0, 1] (nB := 2) (by decide) rfl rfl rfl rfl 0 rfl rfl (ci := 13) rfl rfl rfl hl.1 rfl (Nat.le_of_ble_eq_true rfl) dX9_householdOf_122 ⟨(Nat.zero_le _), (Nat.zero_le _)⟩ (fun H locs w => ?_)
          exact e_i hx hb hr hlocks (w.cast (by rw [ht])) (by rw [gT, ht, if_pos rfl, vHo, cN_nI (show i < 2 ^ 31 by omega)]; rfl) dX9_householdOf_125 (Nat.le_refl _) (Nat.le_refl _)
        · refine lv_iload_n hx hb dX9_householdOf_40 rfl (lv_at hl 2 rfl) ?_
          refine lv_tableIn (tgt := 111) hx hb dX9_householdOf_41 (by decide) (by decide) rfl (by decide) ?_
          refine lv_aload_n hx hb dX9_householdOf_111 rfl (lv_at hl 0 rfl) ?_
          refine lv_iload_n hx hb dX9_householdOf_112 rfl (lv_at hl 1 rfl) ?_
          refine k_iV (As := [.int (nI i)]) (rest := []) (Rs := []) (Bs' := [moB r (upd F 7 0), arB ty (r 1) 215 (sqA 215 S)]) ⟨hx, hb, hml, hown, hts⟩ w (c_X9_placeOf l D ty r (upd F 7 0) S q h1 hq (nI i)) (cwV 1 hts gX9_householdOf_X9_placeOf rfl rfl rfl ⟨rfl, hdN_X9_placeOf⟩ ⟨Nat.le_of_ble_eq_true rfl, Nat.le_of_ble_eq_true rfl⟩) [0, 1] (nB := 2) (by decide) rfl rfl rfl rfl 0 rfl rfl (ci := 13) rfl rfl rfl hl.1 rfl (Nat.le_of_ble_eq_true rfl) dX9_householdOf_113 ⟨(Nat.zero_le _), (Nat.zero_le _)⟩ (fun H locs w => ?_)
          exact e_i hx hb hr hlocks (w.cast (by rw [ht])) (by rw [gT, ht, if_pos rfl, vHo, cN_nI (show i < 2 ^ 31 by omega)]; rfl) dX9_householdOf_116 (Nat.le_refl _) (Nat.le_refl _)
      · exact absurd c35 (by decide)
    · have c20 := bI_0.mp c20
      refine lv_iconst (v := 2) hx hb dX9_householdOf_23 (by decide) ?_
      refine lv_goto (tgt := 28) hx hb dX9_householdOf_24 (by decide) ?_
      have ht : tHo n (nI i) x = 2 := by simp [tHo, c6, c20]
      refine r_put hx hb hts in_X9_householdOf_X9 tyX9 tyX9_ok nmX9 hown w 0 0 rfl rfl (ci := 13) rfl 7 (by decide) (hts _ (List.mem_of_getElem? (i := 1) rfl)) rfl rfl (ty := .int) (by decide +kernel) rfl rfl (Nat.le_of_ble_eq_true rfl) (moB r (upd F 7 2)) rfl [moB r (upd F 7 2), arB ty (r 1) 215 (sqA 215 S)] rfl dX9_householdOf_28 (fun H locs w => ?_)
      refine lv_aload_n hx hb dX9_householdOf_31 rfl (lv_at hl 0 rfl) ?_
      refine r_get (v' := .int 2) hx hb hts in_X9_householdOf_X9 hown w 0 0 rfl rfl (ci := 13) rfl 7 (by decide) (hts _ (List.mem_of_getElem? (i := 1) rfl)) rfl rfl rfl dX9_householdOf_32 ?_
      refine lv_if_eq (tgt := 40) hx hb dX9_householdOf_35 (by decide) (fun c35 => ?_) (fun c35 => ?_)
      · exact absurd c35 (by decide)
      · refine lv_iconst (v := 0) hx hb dX9_householdOf_38 (by decide) ?_
        exact e_i hx hb hr hlocks (w.cast (by rw [ht])) (by rw [gT, ht]; rfl) dX9_householdOf_39 (Nat.le_refl _) (Nat.le_refl _)
  · have c6 := bI_0.mp c6
    refine lv_iconst (v := 1) hx hb dX9_householdOf_9 (by decide) ?_
    refine lv_goto (tgt := 28) hx hb dX9_householdOf_10 (by decide) ?_
    have ht : tHo n h x = 1 := by simp [tHo, c6]
    refine r_put hx hb hts in_X9_householdOf_X9 tyX9 tyX9_ok nmX9 hown w 0 0 rfl rfl (ci := 13) rfl 7 (by decide) (hts _ (List.mem_of_getElem? (i := 1) rfl)) rfl rfl (ty := .int) (by decide +kernel) rfl rfl (Nat.le_of_ble_eq_true rfl) (moB r (upd F 7 1)) rfl [moB r (upd F 7 1), arB ty (r 1) 215 (sqA 215 S)] rfl dX9_householdOf_28 (fun H locs w => ?_)
    refine lv_aload_n hx hb dX9_householdOf_31 rfl (lv_at hl 0 rfl) ?_
    refine r_get (v' := .int 1) hx hb hts in_X9_householdOf_X9 hown w 0 0 rfl rfl (ci := 13) rfl 7 (by decide) (hts _ (List.mem_of_getElem? (i := 1) rfl)) rfl rfl rfl dX9_householdOf_32 ?_
    refine lv_if_eq (tgt := 40) hx hb dX9_householdOf_35 (by decide) (fun c35 => ?_) (fun c35 => ?_)
    · exact absurd c35 (by decide)
    · refine lv_iconst (v := 0) hx hb dX9_householdOf_38 (by decide) ?_
      exact e_i hx hb hr hlocks (w.cast (by rw [ht])) (by rw [gT, ht]; rfl) dX9_householdOf_39 (Nat.le_refl _) (Nat.le_refl _)

theorem in_X9_neighbours_X9 : ∀ w ∈ wsX90, w ∈ wsX9_neighbours := by decide +kernel
theorem hdN_X9_neighbours : yX9_neighbours.cls ≠ "java/lang/invoke/MethodHandle" ∧ yX9_neighbours.cls ≠ "java/lang/invoke/VarHandle" ∧ (parseMethodDescriptor yX9_neighbours.desc).map (fun d => d.parameters.length) = some 1 := by decide +kernel
set_option maxRecDepth 100000 in
set_option maxHeartbeats 4000000 in
theorem c_X9_neighbours (l : Launch) (D : va_G) (ty : Nat → ClassId) (r : Nat → Nat) (F S : pS) (n : Nat) (h0 : S 0 = nI n) (hn : n ≤ 8) (h : Int32)  : Mi l yX9_neighbours wsX9_neighbours (kR 3 66 0 0) D (kTY ty) [.ref (r 0), .int h] [moB r F, arB ty (r 1) 215 (sqA 215 S)] [moB r (upd F 7 (t1 (pHas h n))), arB ty (r 1) 215 (sqA 215 S)] (gT (t1 (pHas h n)) (pNbs S (cN h) n)) 0 0 := by
  refine m_i (cc := cX9_neighbours) (maxL := 4) (ret := (some .int)) (by decide +kernel) rfl (Nat.le_of_ble_eq_true rfl) ?_
  intro p e s m below meth c A ls hx hb hml hr hlocks hown hts w hl
  have hown : s.vm.findClass RX9 = some m.cls := hown
  have hl : lv_has ls 4 [(0, .ref (r 0)), (1, .int h)] := hl
  refine lv_aload_n hx hb dX9_neighbours_0 rfl (lv_at hl 0 rfl) ?_
  refine lv_aload_n hx hb dX9_neighbours_1 rfl (lv_at hl 0 rfl) ?_
  refine lv_iload_n hx hb dX9_neighbours_2 rfl (lv_at hl 1 rfl) ?_
  refine k_iV (As := [.int h]) (rest := [.ref (r 0)]) (Rs := []) (Bs' := [moB r F, arB ty (r 1) 215 (sqA 215 S)]) ⟨hx, hb, hml, hown, hts⟩ w (c_X9_isHousehold l D ty r F S n h0 hn h) (cwV 1 hts gX9_neighbours_X9_isHousehold rfl rfl rfl ⟨rfl, hdN_X9_isHousehold⟩ ⟨Nat.le_of_ble_eq_true rfl, Nat.le_of_ble_eq_true rfl⟩) [0, 1] (nB := 2) (by decide) rfl rfl rfl rfl 0 rfl rfl (ci := 13) rfl rfl rfl hl.1 rfl (Nat.le_of_ble_eq_true rfl) dX9_neighbours_3 ⟨(Nat.zero_le _), (Nat.zero_le _)⟩ (fun H locs w => ?_)
  refine lv_if_eq (tgt := 13) hx hb dX9_neighbours_6 (by decide) (fun c6 => ?_) (fun c6 => ?_)
  · have c6 := bI_0.mp c6
    refine lv_iconst (v := 1) hx hb dX9_neighbours_13 (by decide) ?_
    have ht : t1 (pHas h n) = 1 := by simp [t1, c6]
    refine r_put hx hb hts in_X9_neighbours_X9 tyX9 tyX9_ok nmX9 hown w 0 0 rfl rfl (ci := 13) rfl 7 (by decide) (hts _ (List.mem_of_getElem? (i := 1) rfl)) rfl rfl (ty := .int) (by decide +kernel) rfl rfl (Nat.le_of_ble_eq_true rfl) (moB r (upd F 7 1)) rfl [moB r (upd F 7 1), arB ty (r 1) 215 (sqA 215 S)] rfl dX9_neighbours_14 (fun H locs w => ?_)
    refine lv_iconst (v := 0) hx hb dX9_neighbours_17 (by decide) ?_
    refine lv_istore_n (lv' := [(2, .int 0), (0, .ref (r 0)), (1, .int h)]) hx hb dX9_neighbours_18 rfl hl (by decide) rfl (fun ls hl => ?_)
    refine lv_iconst (v := 0) hx hb dX9_neighbours_19 (by decide) ?_
    refine lv_istore_n (lv' := [(3, .int 0), (2, .int 0), (0, .ref (r 0)), (1, .int h)]) hx hb dX9_neighbours_20 rfl hl (by decide) rfl (fun ls hl => ?_)
    refine lv_iload_n hx hb dX9_neighbours_21 rfl (lv_at hl 0 rfl) ?_
    refine lv_aload_n hx hb dX9_neighbours_22 rfl (lv_at hl 2 rfl) ?_
    refine r_get (v' := .ref (r 1)) hx hb hts in_X9_neighbours_X9 hown w 0 0 rfl rfl (ci := 13) rfl 0 (by decide) (hts _ (List.mem_of_getElem? (i := 2) rfl)) rfl rfl rfl dX9_neighbours_23 ?_
    refine lv_iconst (v := 0) hx hb dX9_neighbours_26 (by decide) ?_
    refine r_iald (v := (S 0)) hx hb w 1 0 rfl rfl 0 rfl 0 (by omega) (Nat.le_of_ble_eq_true rfl) rfl (sqA_at (by omega)) dX9_neighbours_27 ?_
    refine r_eq (y := (nI n)) h0 ?_
    refine lv_icmp_ge (tgt := 63) hx hb dX9_neighbours_28 (by decide) (fun c28 => ?_) (fun c28 => ?_)
    · have c28 := (nI_leI (a := n) (b := 0) (by omega) (by omega)).mp c28
      refine lv_iload_n hx hb dX9_neighbours_63 rfl (lv_at hl 1 rfl) ?_
      exact e_i hx hb hr hlocks (w.cast (by rw [ht])) (by rw [gT, ht]; rfl) dX9_neighbours_64 (Nat.le_refl _) (Nat.le_refl _)
    · have c28 := mt (nI_leI (a := n) (b := 0) (by omega) (by omega)).mpr c28
      refine lv_aload_n hx hb dX9_neighbours_31 rfl (lv_at hl 2 rfl) ?_
      refine r_get (v' := .int 1) hx hb hts in_X9_neighbours_X9 hown w 0 0 rfl rfl (ci := 13) rfl 7 (by decide) (hts _ (List.mem_of_getElem? (i := 1) rfl)) rfl rfl rfl dX9_neighbours_32 ?_
      refine lv_if_ne (tgt := 63) hx hb dX9_neighbours_35 (by decide) (fun c35 => ?_) (fun c35 => ?_)
      · refine lv_iload_n hx hb dX9_neighbours_63 rfl (lv_at hl 1 rfl) ?_
        exact e_i hx hb hr hlocks (w.cast (by rw [ht])) (by rw [gT, ht]; rfl) dX9_neighbours_64 (Nat.le_refl _) (Nat.le_refl _)
      · exact absurd c35 (by decide)
  · have c6 := bI_1.mp c6
    obtain ⟨i, ggi, rfl⟩ := (pHas_iff (by omega)).mp c6
    refine lv_iconst (v := 0) hx hb dX9_neighbours_9 (by decide) ?_
    refine lv_goto (tgt := 14) hx hb dX9_neighbours_10 (by decide) ?_
    have ht : t1 (pHas (nI i) n) = 0 := by simp [t1, c6]
    refine r_put hx hb hts in_X9_neighbours_X9 tyX9 tyX9_ok nmX9 hown w 0 0 rfl rfl (ci := 13) rfl 7 (by decide) (hts _ (List.mem_of_getElem? (i := 1) rfl)) rfl rfl (ty := .int) (by decide +kernel) rfl rfl (Nat.le_of_ble_eq_true rfl) (moB r (upd F 7 0)) rfl [moB r (upd F 7 0), arB ty (r 1) 215 (sqA 215 S)] rfl dX9_neighbours_14 (fun H locs w => ?_)
    refine lv_iconst (v := 0) hx hb dX9_neighbours_17 (by decide) ?_
    refine lv_istore_n (lv' := [(2, .int 0), (0, .ref (r 0)), (1, .int (nI i))]) hx hb dX9_neighbours_18 rfl hl (by decide) rfl (fun ls hl => ?_)
    refine lv_iconst (v := 0) hx hb dX9_neighbours_19 (by decide) ?_
    refine lv_istore_n (lv' := [(3, .int 0), (2, .int 0), (0, .ref (r 0)), (1, .int (nI i))]) hx hb dX9_neighbours_20 rfl hl (by decide) rfl (fun ls hl => ?_)
    refine k_loop (fun k H locs ls => kW D (kTY ty) A s.heap s H locs [moB r (upd F 7 0), arB ty (r 1) 215 (sqA 215 S)] ∧ lv_has ls 4 [(0, .ref (r 0)), (1, .int (nI i)), (2, .int (pNbs S i k)), (3, .int (nI k))]) n 0 (by omega) ⟨w, lv_sub hl [2, 3, 1, 0] rfl⟩ ?_
    intro k hk0 hk ihk H locs ls hI
    obtain ⟨w, hl⟩ := hI
    refine lv_iload_n hx hb dX9_neighbours_21 rfl (lv_at hl 3 rfl) ?_
    refine lv_aload_n hx hb dX9_neighbours_22 rfl (lv_at hl 0 rfl) ?_
    refine r_get (v' := .ref (r 1)) hx hb hts in_X9_neighbours_X9 hown w 0 0 rfl rfl (ci := 13) rfl 0 (by decide) (hts _ (List.mem_of_getElem? (i := 2) rfl)) rfl rfl rfl dX9_neighbours_23 ?_
    refine lv_iconst (v := 0) hx hb dX9_neighbours_26 (by decide) ?_
    refine r_iald (v := (S 0)) hx hb w 1 0 rfl rfl 0 rfl 0 (by omega) (Nat.le_of_ble_eq_true rfl) rfl (sqA_at (by omega)) dX9_neighbours_27 ?_
    refine r_eq (y := (nI n)) h0 ?_
    refine lv_icmp_ge (tgt := 63) hx hb dX9_neighbours_28 (by decide) (fun c28 => ?_) (fun c28 => ?_)
    · have c28 := (nI_leI (a := n) (b := k) (by omega) (by omega)).mp c28
      obtain rfl : n = k := by omega
      refine lv_iload_n hx hb dX9_neighbours_63 rfl (lv_at hl 2 rfl) ?_
      exact e_i hx hb hr hlocks (w.cast (by rw [ht])) (by rw [gT, ht, if_pos rfl, cN_nI (show i < 2 ^ 31 by omega)]) dX9_neighbours_64 (Nat.le_refl _) (Nat.le_refl _)
    · have c28 := mt (nI_leI (a := n) (b := k) (by omega) (by omega)).mpr c28
      refine lv_aload_n hx hb dX9_neighbours_31 rfl (lv_at hl 0 rfl) ?_
      refine r_get (v' := .int 0) hx hb hts in_X9_neighbours_X9 hown w 0 0 rfl rfl (ci := 13) rfl 7 (by decide) (hts _ (List.mem_of_getElem? (i := 1) rfl)) rfl rfl rfl dX9_neighbours_32 ?_
      refine lv_if_ne (tgt := 63) hx hb dX9_neighbours_35 (by decide) (fun c35 => ?_) (fun c35 => ?_)
      · exact absurd c35 (by decide)
      · refine lv_iload_n hx hb dX9_neighbours_38 rfl (lv_at hl 2 rfl) ?_
        refine lv_aload_n hx hb dX9_neighbours_39 rfl (lv_at hl 0 rfl) ?_
        refine lv_iload_n hx hb dX9_neighbours_40 rfl (lv_at hl 1 rfl) ?_
        refine lv_iload_n hx hb dX9_neighbours_41 rfl (lv_at hl 3 rfl) ?_
        refine k_iV (As := [.int (nI i), .int (nI k)]) (rest := [.int (pNbs S i k)]) (Rs := []) (Bs' := [moB r (upd F 7 0), arB ty (r 1) 215 (sqA 215 S)]) ⟨hx, hb, hml, hown, hts⟩ w (c_X9_areNear l D ty r (upd F 7 0) S i k (by omega) (by omega)) (cwV 2 hts gX9_neighbours_X9_areNear rfl rfl rfl ⟨rfl, hdN_X9_areNear⟩ ⟨Nat.le_of_ble_eq_true rfl, Nat.le_of_ble_eq_true rfl⟩) [0, 1] (nB := 2) (by decide) rfl rfl rfl rfl 0 rfl rfl (ci := 13) rfl rfl rfl hl.1 rfl (Nat.le_of_ble_eq_true rfl) dX9_neighbours_42 ⟨(Nat.zero_le _), (Nat.zero_le _)⟩ (fun H locs w => ?_)
        refine lv_if_eq (tgt := 54) hx hb dX9_neighbours_45 (by decide) (fun c45 => ?_) (fun c45 => ?_)
        · have c45 := bI_0.mp c45
          refine lv_iconst (v := 0) hx hb dX9_neighbours_54 (by decide) ?_
          refine lv_ior hx hb dX9_neighbours_55 ?_
          refine r_eq (y := (pNbs S i (k + 1))) (nb_skip c45) ?_
          refine lv_istore_n (lv' := [(2, .int (pNbs S i (k + 1))), (0, .ref (r 0)), (1, .int (nI i)), (3, .int (nI k))]) hx hb dX9_neighbours_56 rfl hl (by decide) rfl (fun ls hl => ?_)
          refine lv_iinc (v := (nI (k + 1))) (lv' := [(3, .int (nI (k + 1))), (2, .int (pNbs S i (k + 1))), (0, .ref (r 0)), (1, .int (nI i))]) hx hb dX9_neighbours_57 hl (k := 3) rfl (inc1 k) (by decide) rfl (fun ls hl => ?_)
          refine lv_goto (tgt := 21) hx hb dX9_neighbours_60 (by decide) ?_
          exact ihk _ _ _ ⟨w, lv_sub hl [2, 3, 1, 0] rfl⟩ (by omega)
        · have c45 := bI_1.mp c45
          refine lv_iconst (v := 1) hx hb dX9_neighbours_48 (by decide) ?_
          refine lv_iload_n hx hb dX9_neighbours_49 rfl (lv_at hl 3 rfl) ?_
          refine lv_ishl hx hb dX9_neighbours_50 ?_
          refine lv_goto (tgt := 55) hx hb dX9_neighbours_51 (by decide) ?_
          refine lv_ior hx hb dX9_neighbours_55 ?_
          refine r_eq (y := (pNbs S i (k + 1))) (nb_put c45) ?_
          refine lv_istore_n (lv' := [(2, .int (pNbs S i (k + 1))), (0, .ref (r 0)), (1, .int (nI i)), (3, .int (nI k))]) hx hb dX9_neighbours_56 rfl hl (by decide) rfl (fun ls hl => ?_)
          refine lv_iinc (v := (nI (k + 1))) (lv' := [(3, .int (nI (k + 1))), (2, .int (pNbs S i (k + 1))), (0, .ref (r 0)), (1, .int (nI i))]) hx hb dX9_neighbours_57 hl (k := 3) rfl (inc1 k) (by decide) rfl (fun ls hl => ?_)
          refine lv_goto (tgt := 21) hx hb dX9_neighbours_60 (by decide) ?_
          exact ihk _ _ _ ⟨w, lv_sub hl [2, 3, 1, 0] rfl⟩ (by omega)

theorem in_X9_at_X9 : ∀ w ∈ wsX90, w ∈ wsX9_at := by decide +kernel
theorem hdN_X9_at : yX9_at.cls ≠ "java/lang/invoke/MethodHandle" ∧ yX9_at.cls ≠ "java/lang/invoke/VarHandle" ∧ (parseMethodDescriptor yX9_at.desc).map (fun d => d.parameters.length) = some 1 := by decide +kernel
set_option maxRecDepth 100000 in
set_option maxHeartbeats 4000000 in
theorem c_X9_at (l : Launch) (D : va_G) (ty : Nat → ClassId) (r : Nat → Nat) (F S : pS) (q : Nat) (h1 : S 49 = nI q) (hq : q ≤ 8) (v : Int32)  : Mi l yX9_at wsX9_at (kR 1 22 0 0) D (kTY ty) [.ref (r 0), .int v] [moB r F, arB ty (r 1) 215 (sqA 215 S)] [moB r (upd F 7 (t1 (pHas v q))), arB ty (r 1) 215 (sqA 215 S)] (gT (t1 (pHas v q)) (S (50 + cN v))) 0 0 := by
  refine m_i (cc := cX9_at) (maxL := 2) (ret := (some .int)) (by decide +kernel) rfl (Nat.le_of_ble_eq_true rfl) ?_
  intro p e s m below meth c A ls hx hb hml hr hlocks hown hts w hl
  have hown : s.vm.findClass RX9 = some m.cls := hown
  have hl : lv_has ls 2 [(0, .ref (r 0)), (1, .int v)] := hl
  refine lv_aload_n hx hb dX9_at_0 rfl (lv_at hl 0 rfl) ?_
  refine lv_iload_n hx hb dX9_at_1 rfl (lv_at hl 1 rfl) ?_
  refine lv_iconst (v := 0) hx hb dX9_at_2 (by decide) ?_
  refine lv_aload_n hx hb dX9_at_3 rfl (lv_at hl 0 rfl) ?_
  refine r_get (v' := .ref (r 1)) hx hb hts in_X9_at_X9 hown w 0 0 rfl rfl (ci := 13) rfl 0 (by decide) (hts _ (List.mem_of_getElem? (i := 1) rfl)) rfl rfl rfl dX9_at_4 ?_
  refine lv_bipush (v := 49) hx hb dX9_at_7 (by decide) ?_
  refine r_iald (v := (S 49)) hx hb w 1 0 rfl rfl 0 rfl 49 (by omega) (Nat.le_of_ble_eq_true rfl) rfl (sqA_at (by omega)) dX9_at_9 ?_
  refine r_eq (y := (nI q)) h1 ?_
  refine lv_iconst (v := 1) hx hb dX9_at_10 (by decide) ?_
  refine lv_isub hx hb dX9_at_11 ?_
  refine k_iS (As := [.int v, .int 0, .int ((nI q) - 1)]) (rest := [.ref (r 0)]) (Rs := [moB r F, arB ty (r 1) 215 (sqA 215 S)]) (Bs' := [moB r F, arB ty (r 1) 215 (sqA 215 S)]) ⟨hx, hb, hml, hown, hts⟩ w (c_X9_isIn l D ty v 0 ((nI q) - 1)) (va_cwS 3 hts gX9_at_X9_isIn rfl rfl rfl hdN_X9_isIn ⟨Nat.le_of_ble_eq_true rfl, Nat.le_of_ble_eq_true rfl⟩) [0, 1] (nB := 2) (by decide) rfl rfl rfl rfl rfl hl.1 rfl (Nat.le_of_ble_eq_true rfl) dX9_at_12 ⟨(Nat.zero_le _), (Nat.zero_le _)⟩ (fun H locs w => ?_)
  refine lv_if_eq (tgt := 22) hx hb dX9_at_15 (by decide) (fun c15 => ?_) (fun c15 => ?_)
  · have c15 := bI_0.mp c15
    rw [pIn_has hq] at c15
    refine lv_iconst (v := 1) hx hb dX9_at_22 (by decide) ?_
    have ht : t1 (pHas v q) = 1 := by simp [t1, c15]
    refine r_put hx hb hts in_X9_at_X9 tyX9 tyX9_ok nmX9 hown w 0 0 rfl rfl (ci := 13) rfl 7 (by decide) (hts _ (List.mem_of_getElem? (i := 2) rfl)) rfl rfl (ty := .int) (by decide +kernel) rfl rfl (Nat.le_of_ble_eq_true rfl) (moB r (upd F 7 1)) rfl [moB r (upd F 7 1), arB ty (r 1) 215 (sqA 215 S)] rfl dX9_at_23 (fun H locs w => ?_)
    refine lv_aload_n hx hb dX9_at_26 rfl (lv_at hl 0 rfl) ?_
    refine r_get (v' := .int 1) hx hb hts in_X9_at_X9 hown w 0 0 rfl rfl (ci := 13) rfl 7 (by decide) (hts _ (List.mem_of_getElem? (i := 2) rfl)) rfl rfl rfl dX9_at_27 ?_
    refine lv_if_ne (tgt := 45) hx hb dX9_at_30 (by decide) (fun c30 => ?_) (fun c30 => ?_)
    · refine lv_iconst (v := 0) hx hb dX9_at_45 (by decide) ?_
      exact e_i hx hb hr hlocks (w.cast (by rw [ht])) (by rw [gT, ht]; rfl) dX9_at_46 (Nat.le_refl _) (Nat.le_refl _)
    · exact absurd c30 (by decide)
  · have c15 := bI_1.mp c15
    rw [pIn_has hq] at c15
    obtain ⟨i, hi, rfl⟩ := (pHas_iff (by omega)).mp c15
    refine lv_iconst (v := 0) hx hb dX9_at_18 (by decide) ?_
    refine lv_goto (tgt := 23) hx hb dX9_at_19 (by decide) ?_
    have ht : t1 (pHas (nI i) q) = 0 := by simp [t1, c15]
    refine r_put hx hb hts in_X9_at_X9 tyX9 tyX9_ok nmX9 hown w 0 0 rfl rfl (ci := 13) rfl 7 (by decide) (hts _ (List.mem_of_getElem? (i := 2) rfl)) rfl rfl (ty := .int) (by decide +kernel) rfl rfl (Nat.le_of_ble_eq_true rfl) (moB r (upd F 7 0)) rfl [moB r (upd F 7 0), arB ty (r 1) 215 (sqA 215 S)] rfl dX9_at_23 (fun H locs w => ?_)
    refine lv_aload_n hx hb dX9_at_26 rfl (lv_at hl 0 rfl) ?_
    refine r_get (v' := .int 0) hx hb hts in_X9_at_X9 hown w 0 0 rfl rfl (ci := 13) rfl 7 (by decide) (hts _ (List.mem_of_getElem? (i := 2) rfl)) rfl rfl rfl dX9_at_27 ?_
    refine lv_if_ne (tgt := 45) hx hb dX9_at_30 (by decide) (fun c30 => ?_) (fun c30 => ?_)
    · exact absurd c30 (by decide)
    · refine lv_aload_n hx hb dX9_at_33 rfl (lv_at hl 0 rfl) ?_
      refine r_get (v' := .ref (r 1)) hx hb hts in_X9_at_X9 hown w 0 0 rfl rfl (ci := 13) rfl 0 (by decide) (hts _ (List.mem_of_getElem? (i := 1) rfl)) rfl rfl rfl dX9_at_34 ?_
      refine lv_bipush (v := 50) hx hb dX9_at_37 (by decide) ?_
      refine lv_iload_n hx hb dX9_at_39 rfl (lv_at hl 1 rfl) ?_
      refine lv_iadd hx hb dX9_at_40 ?_
      refine r_eq (y := (nI (50 + i))) (nI_add 50 i) ?_
      refine r_iald (v := (S (50 + i))) hx hb w 1 0 rfl rfl 0 rfl (50 + i) (by omega) (Nat.le_of_ble_eq_true rfl) rfl (sqA_at (by omega)) dX9_at_41 ?_
      refine lv_goto (tgt := 46) hx hb dX9_at_42 (by decide) ?_
      exact e_i hx hb hr hlocks (w.cast (by rw [ht])) (by rw [gT, ht, if_pos rfl, cN_nI (show i < 2 ^ 31 by omega)]) dX9_at_46 (Nat.le_refl _) (Nat.le_refl _)

theorem in_X9_quarrels_X9 : ∀ w ∈ wsX90, w ∈ wsX9_quarrels := by decide +kernel
theorem hdN_X9_quarrels : yX9_quarrels.cls ≠ "java/lang/invoke/MethodHandle" ∧ yX9_quarrels.cls ≠ "java/lang/invoke/VarHandle" ∧ (parseMethodDescriptor yX9_quarrels.desc).map (fun d => d.parameters.length) = some 2 := by decide +kernel
set_option maxRecDepth 100000 in
set_option maxHeartbeats 4000000 in
theorem c_X9_quarrels (l : Launch) (D : va_G) (ty : Nat → ClassId) (r : Nat → Nat) (F S : pS) (n : Nat) (h0 : S 0 = nI n) (hn : n ≤ 8) (a j : Int32)  : Mi l yX9_quarrels wsX9_quarrels (kR 2 43 0 0) D (kTY ty) [.ref (r 0), .int a, .int j] [moB r F, arB ty (r 1) 215 (sqA 215 S)] [moB r (upd F 7 (t1 (pHas a n && pHas j n))), arB ty (r 1) 215 (sqA 215 S)] (gT (t1 (pHas a n && pHas j n)) (S (58 + 8 * cN a + cN j))) 0 0 := by
  refine m_i (cc := cX9_quarrels) (maxL := 3) (ret := (some .int)) (by decide +kernel) rfl (Nat.le_of_ble_eq_true rfl) ?_
  intro p e s m below meth c A ls hx hb hml hr hlocks hown hts w hl
  have hown : s.vm.findClass RX9 = some m.cls := hown
  have hl : lv_has ls 3 [(0, .ref (r 0)), (1, .int a), (2, .int j)] := hl
  refine lv_aload_n hx hb dX9_quarrels_0 rfl (lv_at hl 0 rfl) ?_
  refine lv_aload_n hx hb dX9_quarrels_1 rfl (lv_at hl 0 rfl) ?_
  refine lv_iload_n hx hb dX9_quarrels_2 rfl (lv_at hl 1 rfl) ?_
  refine k_iV (As := [.int a]) (rest := [.ref (r 0)]) (Rs := []) (Bs' := [moB r F, arB ty (r 1) 215 (sqA 215 S)]) ⟨hx, hb, hml, hown, hts⟩ w (c_X9_isHousehold l D ty r F S n h0 hn a) (cwV 1 hts gX9_quarrels_X9_isHousehold rfl rfl rfl ⟨rfl, hdN_X9_isHousehold⟩ ⟨Nat.le_of_ble_eq_true rfl, Nat.le_of_ble_eq_true rfl⟩) [0, 1] (nB := 2) (by decide) rfl rfl rfl rfl 0 rfl rfl (ci := 13) rfl rfl rfl hl.1 rfl (Nat.le_of_ble_eq_true rfl) dX9_quarrels_3 ⟨(Nat.zero_le _), (Nat.zero_le _)⟩ (fun H locs w => ?_)
  refine lv_if_eq (tgt := 21) hx hb dX9_quarrels_6 (by decide) (fun c6 => ?_) (fun c6 => ?_)
  · have c6 := bI_0.mp c6
    refine lv_iconst (v := 1) hx hb dX9_quarrels_21 (by decide) ?_
    have ht : t1 (pHas a n && pHas j n) = 1 := by simp [t1, c6]
    refine r_put hx hb hts in_X9_quarrels_X9 tyX9 tyX9_ok nmX9 hown w 0 0 rfl rfl (ci := 13) rfl 7 (by decide) (hts _ (List.mem_of_getElem? (i := 1) rfl)) rfl rfl (ty := .int) (by decide +kernel) rfl rfl (Nat.le_of_ble_eq_true rfl) (moB r (upd F 7 1)) rfl [moB r (upd F 7 1), arB ty (r 1) 215 (sqA 215 S)] rfl dX9_quarrels_22 (fun H locs w => ?_)
    refine lv_aload_n hx hb dX9_quarrels_25 rfl (lv_at hl 0 rfl) ?_
    refine r_get (v' := .int 1) hx hb hts in_X9_quarrels_X9 hown w 0 0 rfl rfl (ci := 13) rfl 7 (by decide) (hts _ (List.mem_of_getElem? (i := 1) rfl)) rfl rfl rfl dX9_quarrels_26 ?_
    refine lv_if_ne (tgt := 49) hx hb dX9_quarrels_29 (by decide) (fun c29 => ?_) (fun c29 => ?_)
    · refine lv_iconst (v := 0) hx hb dX9_quarrels_49 (by decide) ?_
      exact e_i hx hb hr hlocks (w.cast (by rw [ht])) (by rw [gT, ht]; rfl) dX9_quarrels_50 (Nat.le_refl _) (Nat.le_refl _)
    · exact absurd c29 (by decide)
  · have c6 := bI_1.mp c6
    obtain ⟨x, ggx, rfl⟩ := (pHas_iff (by omega)).mp c6
    refine lv_aload_n hx hb dX9_quarrels_9 rfl (lv_at hl 0 rfl) ?_
    refine lv_iload_n hx hb dX9_quarrels_10 rfl (lv_at hl 2 rfl) ?_
    refine k_iV (As := [.int j]) (rest := [.ref (r 0)]) (Rs := []) (Bs' := [moB r F, arB ty (r 1) 215 (sqA 215 S)]) ⟨hx, hb, hml, hown, hts⟩ w (c_X9_isHousehold l D ty r F S n h0 hn j) (cwV 1 hts gX9_quarrels_X9_isHousehold rfl rfl rfl ⟨rfl, hdN_X9_isHousehold⟩ ⟨Nat.le_of_ble_eq_true rfl, Nat.le_of_ble_eq_true rfl⟩) [0, 1] (nB := 2) (by decide) rfl rfl rfl rfl 0 rfl rfl (ci := 13) rfl rfl rfl hl.1 rfl (Nat.le_of_ble_eq_true rfl) dX9_quarrels_11 ⟨(Nat.zero_le _), (Nat.zero_le _)⟩ (fun H locs w => ?_)
    refine lv_if_eq (tgt := 21) hx hb dX9_quarrels_14 (by decide) (fun c14 => ?_) (fun c14 => ?_)
    · have c14 := bI_0.mp c14
      refine lv_iconst (v := 1) hx hb dX9_quarrels_21 (by decide) ?_
      have ht : t1 (pHas (nI x) n && pHas j n) = 1 := by simp [t1, c6, c14]
      refine r_put hx hb hts in_X9_quarrels_X9 tyX9 tyX9_ok nmX9 hown w 0 0 rfl rfl (ci := 13) rfl 7 (by decide) (hts _ (List.mem_of_getElem? (i := 1) rfl)) rfl rfl (ty := .int) (by decide +kernel) rfl rfl (Nat.le_of_ble_eq_true rfl) (moB r (upd F 7 1)) rfl [moB r (upd F 7 1), arB ty (r 1) 215 (sqA 215 S)] rfl dX9_quarrels_22 (fun H locs w => ?_)
      refine lv_aload_n hx hb dX9_quarrels_25 rfl (lv_at hl 0 rfl) ?_
      refine r_get (v' := .int 1) hx hb hts in_X9_quarrels_X9 hown w 0 0 rfl rfl (ci := 13) rfl 7 (by decide) (hts _ (List.mem_of_getElem? (i := 1) rfl)) rfl rfl rfl dX9_quarrels_26 ?_
      refine lv_if_ne (tgt := 49) hx hb dX9_quarrels_29 (by decide) (fun c29 => ?_) (fun c29 => ?_)
      · refine lv_iconst (v := 0) hx hb dX9_quarrels_49 (by decide) ?_
        exact e_i hx hb hr hlocks (w.cast (by rw [ht])) (by rw [gT, ht]; rfl) dX9_quarrels_50 (Nat.le_refl _) (Nat.le_refl _)
      · exact absurd c29 (by decide)
    · have c14 := bI_1.mp c14
      obtain ⟨y, ggy, rfl⟩ := (pHas_iff (by omega)).mp c14
      refine lv_iconst (v := 0) hx hb dX9_quarrels_17 (by decide) ?_
      refine lv_goto (tgt := 22) hx hb dX9_quarrels_18 (by decide) ?_
      have ht : t1 (pHas (nI x) n && pHas (nI y) n) = 0 := by simp [t1, c6, c14]
      refine r_put hx hb hts in_X9_quarrels_X9 tyX9 tyX9_ok nmX9 hown w 0 0 rfl rfl (ci := 13) rfl 7 (by decide) (hts _ (List.mem_of_getElem? (i := 1) rfl)) rfl rfl (ty := .int) (by decide +kernel) rfl rfl (Nat.le_of_ble_eq_true rfl) (moB r (upd F 7 0)) rfl [moB r (upd F 7 0), arB ty (r 1) 215 (sqA 215 S)] rfl dX9_quarrels_22 (fun H locs w => ?_)
      refine lv_aload_n hx hb dX9_quarrels_25 rfl (lv_at hl 0 rfl) ?_
      refine r_get (v' := .int 0) hx hb hts in_X9_quarrels_X9 hown w 0 0 rfl rfl (ci := 13) rfl 7 (by decide) (hts _ (List.mem_of_getElem? (i := 1) rfl)) rfl rfl rfl dX9_quarrels_26 ?_
      refine lv_if_ne (tgt := 49) hx hb dX9_quarrels_29 (by decide) (fun c29 => ?_) (fun c29 => ?_)
      · exact absurd c29 (by decide)
      · refine lv_aload_n hx hb dX9_quarrels_32 rfl (lv_at hl 0 rfl) ?_
        refine r_get (v' := .ref (r 1)) hx hb hts in_X9_quarrels_X9 hown w 0 0 rfl rfl (ci := 13) rfl 0 (by decide) (hts _ (List.mem_of_getElem? (i := 2) rfl)) rfl rfl rfl dX9_quarrels_33 ?_
        refine lv_bipush (v := 58) hx hb dX9_quarrels_36 (by decide) ?_
        refine lv_bipush (v := 8) hx hb dX9_quarrels_38 (by decide) ?_
        refine lv_iload_n hx hb dX9_quarrels_40 rfl (lv_at hl 1 rfl) ?_
        refine lv_imul hx hb dX9_quarrels_41 ?_
        refine r_eq (y := (nI (8 * x))) (pk_mul 8 x) ?_
        refine lv_iadd hx hb dX9_quarrels_42 ?_
        refine r_eq (y := (nI (58 + (8 * x)))) (nI_add 58 (8 * x)) ?_
        refine lv_iload_n hx hb dX9_quarrels_43 rfl (lv_at hl 2 rfl) ?_
        refine lv_iadd hx hb dX9_quarrels_44 ?_
        refine r_eq (y := (nI ((58 + (8 * x)) + y))) (nI_add (58 + (8 * x)) y) ?_
        refine r_iald (v := (S ((58 + (8 * x)) + y))) hx hb w 1 0 rfl rfl 0 rfl ((58 + (8 * x)) + y) (by omega) (Nat.le_of_ble_eq_true rfl) rfl (sqA_at (by omega)) dX9_quarrels_45 ?_
        refine lv_goto (tgt := 50) hx hb dX9_quarrels_46 (by decide) ?_
        exact e_i hx hb hr hlocks (w.cast (by rw [ht])) (by rw [gT, ht, if_pos rfl, cN_nI (show x < 2 ^ 31 by omega), cN_nI (show y < 2 ^ 31 by omega)]) dX9_quarrels_50 (Nat.le_refl _) (Nat.le_refl _)

theorem in_X9_wouldWin_X9 : ∀ w ∈ wsX90, w ∈ wsX9_wouldWin := by decide +kernel
theorem hdN_X9_wouldWin : yX9_wouldWin.cls ≠ "java/lang/invoke/MethodHandle" ∧ yX9_wouldWin.cls ≠ "java/lang/invoke/VarHandle" ∧ (parseMethodDescriptor yX9_wouldWin.desc).map (fun d => d.parameters.length) = some 2 := by decide +kernel
set_option maxRecDepth 100000 in
set_option maxHeartbeats 4000000 in
theorem c_X9_wouldWin (l : Launch) (D : va_G) (ty : Nat → ClassId) (r : Nat → Nat) (F S : pS) (n : Nat) (h0 : S 0 = nI n) (hn : n ≤ 8) (a j : Int32)  : Mi l yX9_wouldWin wsX9_wouldWin (kR 3 68 0 0) D (kTY ty) [.ref (r 0), .int a, .int j] [moB r F, arB ty (r 1) 215 (sqA 215 S)] [moB r (upd F 7 (tWin n a j)), arB ty (r 1) 215 (sqA 215 S)] (gT (tWin n a j) (nI (pWin S n (cN a) (cN j)))) 0 0 := by
  refine m_i (cc := cX9_wouldWin) (maxL := 3) (ret := (some .int)) (by decide +kernel) rfl (Nat.le_of_ble_eq_true rfl) ?_
  intro p e s m below meth c A ls hx hb hml hr hlocks hown hts w hl
  have hown : s.vm.findClass RX9 = some m.cls := hown
  have hl : lv_has ls 3 [(0, .ref (r 0)), (1, .int a), (2, .int j)] := hl
  refine lv_aload_n hx hb dX9_wouldWin_0 rfl (lv_at hl 0 rfl) ?_
  refine lv_aload_n hx hb dX9_wouldWin_1 rfl (lv_at hl 0 rfl) ?_
  refine lv_iload_n hx hb dX9_wouldWin_2 rfl (lv_at hl 1 rfl) ?_
  refine k_iV (As := [.int a]) (rest := [.ref (r 0)]) (Rs := []) (Bs' := [moB r F, arB ty (r 1) 215 (sqA 215 S)]) ⟨hx, hb, hml, hown, hts⟩ w (c_X9_isHousehold l D ty r F S n h0 hn a) (cwV 1 hts gX9_wouldWin_X9_isHousehold rfl rfl rfl ⟨rfl, hdN_X9_isHousehold⟩ ⟨Nat.le_of_ble_eq_true rfl, Nat.le_of_ble_eq_true rfl⟩) [0, 1] (nB := 2) (by decide) rfl rfl rfl rfl 0 rfl rfl (ci := 13) rfl rfl rfl hl.1 rfl (Nat.le_of_ble_eq_true rfl) dX9_wouldWin_3 ⟨(Nat.zero_le _), (Nat.zero_le _)⟩ (fun H locs w => ?_)
  refine lv_if_eq (tgt := 17) hx hb dX9_wouldWin_6 (by decide) (fun c6 => ?_) (fun c6 => ?_)
  · have c6 := bI_0.mp c6
    refine lv_iconst (v := 1) hx hb dX9_wouldWin_17 (by decide) ?_
    refine lv_goto (tgt := 31) hx hb dX9_wouldWin_18 (by decide) ?_
    have ht : tWin n a j = 1 := by simp [tWin, c6]
    refine r_put hx hb hts in_X9_wouldWin_X9 tyX9 tyX9_ok nmX9 hown w 0 0 rfl rfl (ci := 13) rfl 7 (by decide) (hts _ (List.mem_of_getElem? (i := 1) rfl)) rfl rfl (ty := .int) (by decide +kernel) rfl rfl (Nat.le_of_ble_eq_true rfl) (moB r (upd F 7 1)) rfl [moB r (upd F 7 1), arB ty (r 1) 215 (sqA 215 S)] rfl dX9_wouldWin_31 (fun H locs w => ?_)
    refine lv_aload_n hx hb dX9_wouldWin_34 rfl (lv_at hl 0 rfl) ?_
    refine r_get (v' := .int 1) hx hb hts in_X9_wouldWin_X9 hown w 0 0 rfl rfl (ci := 13) rfl 7 (by decide) (hts _ (List.mem_of_getElem? (i := 1) rfl)) rfl rfl rfl dX9_wouldWin_35 ?_
    refine lv_if_ne (tgt := 50) hx hb dX9_wouldWin_38 (by decide) (fun c38 => ?_) (fun c38 => ?_)
    · refine lv_iconst (v := 0) hx hb dX9_wouldWin_50 (by decide) ?_
      exact e_i hx hb hr hlocks (w.cast (by rw [ht])) (by rw [gT, ht]; rfl) dX9_wouldWin_51 (Nat.le_refl _) (Nat.le_refl _)
    · exact absurd c38 (by decide)
  · have c6 := bI_1.mp c6
    obtain ⟨x, ggx, rfl⟩ := (pHas_iff (by omega)).mp c6
    refine lv_aload_n hx hb dX9_wouldWin_9 rfl (lv_at hl 0 rfl) ?_
    refine lv_iload_n hx hb dX9_wouldWin_10 rfl (lv_at hl 2 rfl) ?_
    refine k_iV (As := [.int j]) (rest := [.ref (r 0)]) (Rs := []) (Bs' := [moB r F, arB ty (r 1) 215 (sqA 215 S)]) ⟨hx, hb, hml, hown, hts⟩ w (c_X9_isHousehold l D ty r F S n h0 hn j) (cwV 1 hts gX9_wouldWin_X9_isHousehold rfl rfl rfl ⟨rfl, hdN_X9_isHousehold⟩ ⟨Nat.le_of_ble_eq_true rfl, Nat.le_of_ble_eq_true rfl⟩) [0, 1] (nB := 2) (by decide) rfl rfl rfl rfl 0 rfl rfl (ci := 13) rfl rfl rfl hl.1 rfl (Nat.le_of_ble_eq_true rfl) dX9_wouldWin_11 ⟨(Nat.zero_le _), (Nat.zero_le _)⟩ (fun H locs w => ?_)
    refine lv_if_ne (tgt := 21) hx hb dX9_wouldWin_14 (by decide) (fun c14 => ?_) (fun c14 => ?_)
    · have c14 := bI_1.mp c14
      obtain ⟨y, ggy, rfl⟩ := (pHas_iff (by omega)).mp c14
      refine lv_iload_n hx hb dX9_wouldWin_21 rfl (lv_at hl 1 rfl) ?_
      refine lv_iload_n hx hb dX9_wouldWin_22 rfl (lv_at hl 2 rfl) ?_
      refine lv_icmp_ne (tgt := 30) hx hb dX9_wouldWin_23 (by decide) (fun c23 => ?_) (fun c23 => ?_)
      · have c23 := mt (nI_eq (a := x) (b := y) (by omega) (by omega)).mpr c23
        have c23b : ¬ nI x = nI y := fun e => c23 ((nI_eq (a := x) (b := y) (by omega) (by omega)).mp e)
        refine lv_iconst (v := 0) hx hb dX9_wouldWin_30 (by decide) ?_
        have ht : tWin n (nI x) (nI y) = 0 := by simp [tWin, c6, c14, c23b]
        refine r_put hx hb hts in_X9_wouldWin_X9 tyX9 tyX9_ok nmX9 hown w 0 0 rfl rfl (ci := 13) rfl 7 (by decide) (hts _ (List.mem_of_getElem? (i := 1) rfl)) rfl rfl (ty := .int) (by decide +kernel) rfl rfl (Nat.le_of_ble_eq_true rfl) (moB r (upd F 7 0)) rfl [moB r (upd F 7 0), arB ty (r 1) 215 (sqA 215 S)] rfl dX9_wouldWin_31 (fun H locs w => ?_)
        refine lv_aload_n hx hb dX9_wouldWin_34 rfl (lv_at hl 0 rfl) ?_
        refine r_get (v' := .int 0) hx hb hts in_X9_wouldWin_X9 hown w 0 0 rfl rfl (ci := 13) rfl 7 (by decide) (hts _ (List.mem_of_getElem? (i := 1) rfl)) rfl rfl rfl dX9_wouldWin_35 ?_
        refine lv_if_ne (tgt := 50) hx hb dX9_wouldWin_38 (by decide) (fun c38 => ?_) (fun c38 => ?_)
        · exact absurd c38 (by decide)
        · refine lv_aload_n hx hb dX9_wouldWin_41 rfl (lv_at hl 0 rfl) ?_
          refine lv_iload_n hx hb dX9_wouldWin_42 rfl (lv_at hl 1 rfl) ?_
          refine lv_iload_n hx hb dX9_wouldWin_43 rfl (lv_at hl 2 rfl) ?_
          refine k_iV (As := [.int (nI x), .int (nI y)]) (rest := []) (Rs := []) (Bs' := [moB r (upd F 7 0), arB ty (r 1) 215 (sqA 215 S)]) ⟨hx, hb, hml, hown, hts⟩ w (c_X9_winner l D ty r (upd F 7 0) S n h0 hn x y (by omega) (by omega)) (cwV 2 hts gX9_wouldWin_X9_winner rfl rfl rfl ⟨rfl, hdN_X9_winner⟩ ⟨Nat.le_of_ble_eq_true rfl, Nat.le_of_ble_eq_true rfl⟩) [0, 1] (nB := 2) (by decide) rfl rfl rfl rfl 0 rfl rfl (ci := 13) rfl rfl rfl hl.1 rfl (Nat.le_of_ble_eq_true rfl) dX9_wouldWin_44 ⟨(Nat.zero_le _), (Nat.zero_le _)⟩ (fun H locs w => ?_)
          refine lv_goto (tgt := 51) hx hb dX9_wouldWin_47 (by decide) ?_
          exact e_i hx hb hr hlocks (w.cast (by rw [ht])) (by rw [gT, ht, if_pos rfl, cN_nI (show x < 2 ^ 31 by omega), cN_nI (show y < 2 ^ 31 by omega)]) dX9_wouldWin_51 (Nat.le_refl _) (Nat.le_refl _)
      · have c23 := (nI_eq (a := x) (b := y) (by omega) (by omega)).mp c23
        have c23b : nI x = nI y := by rw [c23]
        refine lv_iconst (v := 2) hx hb dX9_wouldWin_26 (by decide) ?_
        refine lv_goto (tgt := 31) hx hb dX9_wouldWin_27 (by decide) ?_
        have ht : tWin n (nI x) (nI y) = 2 := by simp [tWin, c6, c14, c23b]
        refine r_put hx hb hts in_X9_wouldWin_X9 tyX9 tyX9_ok nmX9 hown w 0 0 rfl rfl (ci := 13) rfl 7 (by decide) (hts _ (List.mem_of_getElem? (i := 1) rfl)) rfl rfl (ty := .int) (by decide +kernel) rfl rfl (Nat.le_of_ble_eq_true rfl) (moB r (upd F 7 2)) rfl [moB r (upd F 7 2), arB ty (r 1) 215 (sqA 215 S)] rfl dX9_wouldWin_31 (fun H locs w => ?_)
        refine lv_aload_n hx hb dX9_wouldWin_34 rfl (lv_at hl 0 rfl) ?_
        refine r_get (v' := .int 2) hx hb hts in_X9_wouldWin_X9 hown w 0 0 rfl rfl (ci := 13) rfl 7 (by decide) (hts _ (List.mem_of_getElem? (i := 1) rfl)) rfl rfl rfl dX9_wouldWin_35 ?_
        refine lv_if_ne (tgt := 50) hx hb dX9_wouldWin_38 (by decide) (fun c38 => ?_) (fun c38 => ?_)
        · refine lv_iconst (v := 0) hx hb dX9_wouldWin_50 (by decide) ?_
          exact e_i hx hb hr hlocks (w.cast (by rw [ht])) (by rw [gT, ht]; rfl) dX9_wouldWin_51 (Nat.le_refl _) (Nat.le_refl _)
        · exact absurd c38 (by decide)
    · have c14 := bI_0.mp c14
      refine lv_iconst (v := 1) hx hb dX9_wouldWin_17 (by decide) ?_
      refine lv_goto (tgt := 31) hx hb dX9_wouldWin_18 (by decide) ?_
      have ht : tWin n (nI x) j = 1 := by simp [tWin, c6, c14]
      refine r_put hx hb hts in_X9_wouldWin_X9 tyX9 tyX9_ok nmX9 hown w 0 0 rfl rfl (ci := 13) rfl 7 (by decide) (hts _ (List.mem_of_getElem? (i := 1) rfl)) rfl rfl (ty := .int) (by decide +kernel) rfl rfl (Nat.le_of_ble_eq_true rfl) (moB r (upd F 7 1)) rfl [moB r (upd F 7 1), arB ty (r 1) 215 (sqA 215 S)] rfl dX9_wouldWin_31 (fun H locs w => ?_)
      refine lv_aload_n hx hb dX9_wouldWin_34 rfl (lv_at hl 0 rfl) ?_
      refine r_get (v' := .int 1) hx hb hts in_X9_wouldWin_X9 hown w 0 0 rfl rfl (ci := 13) rfl 7 (by decide) (hts _ (List.mem_of_getElem? (i := 1) rfl)) rfl rfl rfl dX9_wouldWin_35 ?_
      refine lv_if_ne (tgt := 50) hx hb dX9_wouldWin_38 (by decide) (fun c38 => ?_) (fun c38 => ?_)
      · refine lv_iconst (v := 0) hx hb dX9_wouldWin_50 (by decide) ?_
        exact e_i hx hb hr hlocks (w.cast (by rw [ht])) (by rw [gT, ht]; rfl) dX9_wouldWin_51 (Nat.le_refl _) (Nat.le_refl _)
      · exact absurd c38 (by decide)

theorem in_X9_turnsBy_X9 : ∀ w ∈ wsX90, w ∈ wsX9_turnsBy := by decide +kernel
theorem hdN_X9_turnsBy : yX9_turnsBy.cls ≠ "java/lang/invoke/MethodHandle" ∧ yX9_turnsBy.cls ≠ "java/lang/invoke/VarHandle" ∧ (parseMethodDescriptor yX9_turnsBy.desc).map (fun d => d.parameters.length) = some 2 := by decide +kernel
set_option maxRecDepth 100000 in
set_option maxHeartbeats 4000000 in
theorem c_X9_turnsBy (l : Launch) (D : va_G) (ty : Nat → ClassId) (r : Nat → Nat) (F S : pS) (n : Nat) (h0 : S 0 = nI n) (hn : n ≤ 8) (h v : Int32)  : Mi l yX9_turnsBy wsX9_turnsBy (kR 2 44 0 0) D (kTY ty) [.ref (r 0), .int h, .int v] [moB r F, arB ty (r 1) 215 (sqA 215 S)] [moB r (upd F 7 (tBy n h v)), arB ty (r 1) 215 (sqA 215 S)] (gT (tBy n h v) (pTbl S (cN h) v)) 0 0 := by
  refine m_i (cc := cX9_turnsBy) (maxL := 3) (ret := (some .int)) (by decide +kernel) rfl (Nat.le_of_ble_eq_true rfl) ?_
  intro p e s m below meth c A ls hx hb hml hr hlocks hown hts w hl
  have hown : s.vm.findClass RX9 = some m.cls := hown
  have hl : lv_has ls 3 [(0, .ref (r 0)), (1, .int h), (2, .int v)] := hl
  refine lv_aload_n hx hb dX9_turnsBy_0 rfl (lv_at hl 0 rfl) ?_
  refine lv_aload_n hx hb dX9_turnsBy_1 rfl (lv_at hl 0 rfl) ?_
  refine lv_iload_n hx hb dX9_turnsBy_2 rfl (lv_at hl 1 rfl) ?_
  refine k_iV (As := [.int h]) (rest := [.ref (r 0)]) (Rs := []) (Bs' := [moB r F, arB ty (r 1) 215 (sqA 215 S)]) ⟨hx, hb, hml, hown, hts⟩ w (c_X9_isHousehold l D ty r F S n h0 hn h) (cwV 1 hts gX9_turnsBy_X9_isHousehold rfl rfl rfl ⟨rfl, hdN_X9_isHousehold⟩ ⟨Nat.le_of_ble_eq_true rfl, Nat.le_of_ble_eq_true rfl⟩) [0, 1] (nB := 2) (by decide) rfl rfl rfl rfl 0 rfl rfl (ci := 13) rfl rfl rfl hl.1 rfl (Nat.le_of_ble_eq_true rfl) dX9_turnsBy_3 ⟨(Nat.zero_le _), (Nat.zero_le _)⟩ (fun H locs w => ?_)
  refine lv_if_ne (tgt := 13) hx hb dX9_turnsBy_6 (by decide) (fun c6 => ?_) (fun c6 => ?_)
  · have c6 := bI_1.mp c6
    obtain ⟨i, ggi, rfl⟩ := (pHas_iff (by omega)).mp c6
    refine lv_iload_n hx hb dX9_turnsBy_13 rfl (lv_at hl 2 rfl) ?_
    refine lv_iconst (v := 0) hx hb dX9_turnsBy_14 (by decide) ?_
    refine lv_iconst (v := 3) hx hb dX9_turnsBy_15 (by decide) ?_
    refine k_iS (As := [.int v, .int 0, .int 3]) (rest := [.ref (r 0)]) (Rs := [moB r F, arB ty (r 1) 215 (sqA 215 S)]) (Bs' := [moB r F, arB ty (r 1) 215 (sqA 215 S)]) ⟨hx, hb, hml, hown, hts⟩ w (c_X9_isIn l D ty v 0 3) (va_cwS 3 hts gX9_turnsBy_X9_isIn rfl rfl rfl hdN_X9_isIn ⟨Nat.le_of_ble_eq_true rfl, Nat.le_of_ble_eq_true rfl⟩) [0, 1] (nB := 2) (by decide) rfl rfl rfl rfl rfl hl.1 rfl (Nat.le_of_ble_eq_true rfl) dX9_turnsBy_16 ⟨(Nat.zero_le _), (Nat.zero_le _)⟩ (fun H locs w => ?_)
    refine lv_if_ne (tgt := 26) hx hb dX9_turnsBy_19 (by decide) (fun c19 => ?_) (fun c19 => ?_)
    · have c19 := bI_1.mp c19
      refine lv_iconst (v := 0) hx hb dX9_turnsBy_26 (by decide) ?_
      have ht : tBy n (nI i) v = 0 := by simp [tBy, c6, c19]
      refine r_put hx hb hts in_X9_turnsBy_X9 tyX9 tyX9_ok nmX9 hown w 0 0 rfl rfl (ci := 13) rfl 7 (by decide) (hts _ (List.mem_of_getElem? (i := 1) rfl)) rfl rfl (ty := .int) (by decide +kernel) rfl rfl (Nat.le_of_ble_eq_true rfl) (moB r (upd F 7 0)) rfl [moB r (upd F 7 0), arB ty (r 1) 215 (sqA 215 S)] rfl dX9_turnsBy_27 (fun H locs w => ?_)
      refine lv_aload_n hx hb dX9_turnsBy_30 rfl (lv_at hl 0 rfl) ?_
      refine r_get (v' := .int 0) hx hb hts in_X9_turnsBy_X9 hown w 0 0 rfl rfl (ci := 13) rfl 7 (by decide) (hts _ (List.mem_of_getElem? (i := 1) rfl)) rfl rfl rfl dX9_turnsBy_31 ?_
      refine lv_if_ne (tgt := 46) hx hb dX9_turnsBy_34 (by decide) (fun c34 => ?_) (fun c34 => ?_)
      · exact absurd c34 (by decide)
      · refine lv_aload_n hx hb dX9_turnsBy_37 rfl (lv_at hl 0 rfl) ?_
        refine lv_iload_n hx hb dX9_turnsBy_38 rfl (lv_at hl 1 rfl) ?_
        refine lv_iload_n hx hb dX9_turnsBy_39 rfl (lv_at hl 2 rfl) ?_
        refine k_iV (As := [.int (nI i), .int v]) (rest := []) (Rs := []) (Bs' := [moB r (upd F 7 0), arB ty (r 1) 215 (sqA 215 S)]) ⟨hx, hb, hml, hown, hts⟩ w (c_X9_turnsByLaw l D ty r (upd F 7 0) S i (by omega) v) (cwV 2 hts gX9_turnsBy_X9_turnsByLaw rfl rfl rfl ⟨rfl, hdN_X9_turnsByLaw⟩ ⟨Nat.le_of_ble_eq_true rfl, Nat.le_of_ble_eq_true rfl⟩) [0, 1] (nB := 2) (by decide) rfl rfl rfl rfl 0 rfl rfl (ci := 13) rfl rfl rfl hl.1 rfl (Nat.le_of_ble_eq_true rfl) dX9_turnsBy_40 ⟨(Nat.zero_le _), (Nat.zero_le _)⟩ (fun H locs w => ?_)
        refine lv_goto (tgt := 47) hx hb dX9_turnsBy_43 (by decide) ?_
        exact e_i hx hb hr hlocks (w.cast (by rw [ht])) (by rw [gT, ht, if_pos rfl, cN_nI (show i < 2 ^ 31 by omega)]) dX9_turnsBy_47 (Nat.le_refl _) (Nat.le_refl _)
    · have c19 := bI_0.mp c19
      refine lv_iconst (v := 2) hx hb dX9_turnsBy_22 (by decide) ?_
      refine lv_goto (tgt := 27) hx hb dX9_turnsBy_23 (by decide) ?_
      have ht : tBy n (nI i) v = 2 := by simp [tBy, c6, c19]
      refine r_put hx hb hts in_X9_turnsBy_X9 tyX9 tyX9_ok nmX9 hown w 0 0 rfl rfl (ci := 13) rfl 7 (by decide) (hts _ (List.mem_of_getElem? (i := 1) rfl)) rfl rfl (ty := .int) (by decide +kernel) rfl rfl (Nat.le_of_ble_eq_true rfl) (moB r (upd F 7 2)) rfl [moB r (upd F 7 2), arB ty (r 1) 215 (sqA 215 S)] rfl dX9_turnsBy_27 (fun H locs w => ?_)
      refine lv_aload_n hx hb dX9_turnsBy_30 rfl (lv_at hl 0 rfl) ?_
      refine r_get (v' := .int 2) hx hb hts in_X9_turnsBy_X9 hown w 0 0 rfl rfl (ci := 13) rfl 7 (by decide) (hts _ (List.mem_of_getElem? (i := 1) rfl)) rfl rfl rfl dX9_turnsBy_31 ?_
      refine lv_if_ne (tgt := 46) hx hb dX9_turnsBy_34 (by decide) (fun c34 => ?_) (fun c34 => ?_)
      · refine lv_iconst (v := 0) hx hb dX9_turnsBy_46 (by decide) ?_
        exact e_i hx hb hr hlocks (w.cast (by rw [ht])) (by rw [gT, ht]; rfl) dX9_turnsBy_47 (Nat.le_refl _) (Nat.le_refl _)
      · exact absurd c34 (by decide)
  · have c6 := bI_0.mp c6
    refine lv_iconst (v := 1) hx hb dX9_turnsBy_9 (by decide) ?_
    refine lv_goto (tgt := 27) hx hb dX9_turnsBy_10 (by decide) ?_
    have ht : tBy n h v = 1 := by simp [tBy, c6]
    refine r_put hx hb hts in_X9_turnsBy_X9 tyX9 tyX9_ok nmX9 hown w 0 0 rfl rfl (ci := 13) rfl 7 (by decide) (hts _ (List.mem_of_getElem? (i := 1) rfl)) rfl rfl (ty := .int) (by decide +kernel) rfl rfl (Nat.le_of_ble_eq_true rfl) (moB r (upd F 7 1)) rfl [moB r (upd F 7 1), arB ty (r 1) 215 (sqA 215 S)] rfl dX9_turnsBy_27 (fun H locs w => ?_)
    refine lv_aload_n hx hb dX9_turnsBy_30 rfl (lv_at hl 0 rfl) ?_
    refine r_get (v' := .int 1) hx hb hts in_X9_turnsBy_X9 hown w 0 0 rfl rfl (ci := 13) rfl 7 (by decide) (hts _ (List.mem_of_getElem? (i := 1) rfl)) rfl rfl rfl dX9_turnsBy_31 ?_
    refine lv_if_ne (tgt := 46) hx hb dX9_turnsBy_34 (by decide) (fun c34 => ?_) (fun c34 => ?_)
    · refine lv_iconst (v := 0) hx hb dX9_turnsBy_46 (by decide) ?_
      exact e_i hx hb hr hlocks (w.cast (by rw [ht])) (by rw [gT, ht]; rfl) dX9_turnsBy_47 (Nat.le_refl _) (Nat.le_refl _)
    · exact absurd c34 (by decide)

theorem in_X9_isFor_X9 : ∀ w ∈ wsX90, w ∈ wsX9_isFor := by decide +kernel
theorem hdN_X9_isFor : yX9_isFor.cls ≠ "java/lang/invoke/MethodHandle" ∧ yX9_isFor.cls ≠ "java/lang/invoke/VarHandle" ∧ (parseMethodDescriptor yX9_isFor.desc).map (fun d => d.parameters.length) = some 1 := by decide +kernel
set_option maxRecDepth 100000 in
set_option maxHeartbeats 4000000 in
theorem c_X9_isFor (l : Launch) (D : va_G) (ty : Nat → ClassId) (r : Nat → Nat) (F S : pS) (n : Nat) (h0 : S 0 = nI n) (hn : n ≤ 8) (h : Int32)  : Mi l yX9_isFor wsX9_isFor (kR 3 67 0 0) D (kTY ty) [.ref (r 0), .int h] [moB r F, arB ty (r 1) 215 (sqA 215 S)] [moB r (upd F 7 (t1 (pHas h n))), arB ty (r 1) 215 (sqA 215 S)] (gT (t1 (pHas h n)) (nI (pWant S (cN h) 3))) 0 0 := by
  refine m_i (cc := cX9_isFor) (maxL := 2) (ret := (some .int)) (by decide +kernel) rfl (Nat.le_of_ble_eq_true rfl) ?_
  intro p e s m below meth c A ls hx hb hml hr hlocks hown hts w hl
  have hown : s.vm.findClass RX9 = some m.cls := hown
  have hl : lv_has ls 2 [(0, .ref (r 0)), (1, .int h)] := hl
  refine lv_aload_n hx hb dX9_isFor_0 rfl (lv_at hl 0 rfl) ?_
  refine lv_aload_n hx hb dX9_isFor_1 rfl (lv_at hl 0 rfl) ?_
  refine lv_iload_n hx hb dX9_isFor_2 rfl (lv_at hl 1 rfl) ?_
  refine k_iV (As := [.int h]) (rest := [.ref (r 0)]) (Rs := []) (Bs' := [moB r F, arB ty (r 1) 215 (sqA 215 S)]) ⟨hx, hb, hml, hown, hts⟩ w (c_X9_isHousehold l D ty r F S n h0 hn h) (cwV 1 hts gX9_isFor_X9_isHousehold rfl rfl rfl ⟨rfl, hdN_X9_isHousehold⟩ ⟨Nat.le_of_ble_eq_true rfl, Nat.le_of_ble_eq_true rfl⟩) [0, 1] (nB := 2) (by decide) rfl rfl rfl rfl 0 rfl rfl (ci := 13) rfl rfl rfl hl.1 rfl (Nat.le_of_ble_eq_true rfl) dX9_isFor_3 ⟨(Nat.zero_le _), (Nat.zero_le _)⟩ (fun H locs w => ?_)
  refine lv_if_eq (tgt := 13) hx hb dX9_isFor_6 (by decide) (fun c6 => ?_) (fun c6 => ?_)
  · have c6 := bI_0.mp c6
    refine lv_iconst (v := 1) hx hb dX9_isFor_13 (by decide) ?_
    have ht : t1 (pHas h n) = 1 := by simp [t1, c6]
    refine r_put hx hb hts in_X9_isFor_X9 tyX9 tyX9_ok nmX9 hown w 0 0 rfl rfl (ci := 13) rfl 7 (by decide) (hts _ (List.mem_of_getElem? (i := 1) rfl)) rfl rfl (ty := .int) (by decide +kernel) rfl rfl (Nat.le_of_ble_eq_true rfl) (moB r (upd F 7 1)) rfl [moB r (upd F 7 1), arB ty (r 1) 215 (sqA 215 S)] rfl dX9_isFor_14 (fun H locs w => ?_)
    refine lv_aload_n hx hb dX9_isFor_17 rfl (lv_at hl 0 rfl) ?_
    refine r_get (v' := .int 1) hx hb hts in_X9_isFor_X9 hown w 0 0 rfl rfl (ci := 13) rfl 7 (by decide) (hts _ (List.mem_of_getElem? (i := 1) rfl)) rfl rfl rfl dX9_isFor_18 ?_
    refine lv_if_ne (tgt := 32) hx hb dX9_isFor_21 (by decide) (fun c21 => ?_) (fun c21 => ?_)
    · refine lv_iconst (v := 0) hx hb dX9_isFor_32 (by decide) ?_
      exact e_i hx hb hr hlocks (w.cast (by rw [ht])) (by rw [gT, ht]; rfl) dX9_isFor_33 (Nat.le_refl _) (Nat.le_refl _)
    · exact absurd c21 (by decide)
  · have c6 := bI_1.mp c6
    obtain ⟨i, ggi, rfl⟩ := (pHas_iff (by omega)).mp c6
    refine lv_iconst (v := 0) hx hb dX9_isFor_9 (by decide) ?_
    refine lv_goto (tgt := 14) hx hb dX9_isFor_10 (by decide) ?_
    have ht : t1 (pHas (nI i) n) = 0 := by simp [t1, c6]
    refine r_put hx hb hts in_X9_isFor_X9 tyX9 tyX9_ok nmX9 hown w 0 0 rfl rfl (ci := 13) rfl 7 (by decide) (hts _ (List.mem_of_getElem? (i := 1) rfl)) rfl rfl (ty := .int) (by decide +kernel) rfl rfl (Nat.le_of_ble_eq_true rfl) (moB r (upd F 7 0)) rfl [moB r (upd F 7 0), arB ty (r 1) 215 (sqA 215 S)] rfl dX9_isFor_14 (fun H locs w => ?_)
    refine lv_aload_n hx hb dX9_isFor_17 rfl (lv_at hl 0 rfl) ?_
    refine r_get (v' := .int 0) hx hb hts in_X9_isFor_X9 hown w 0 0 rfl rfl (ci := 13) rfl 7 (by decide) (hts _ (List.mem_of_getElem? (i := 1) rfl)) rfl rfl rfl dX9_isFor_18 ?_
    refine lv_if_ne (tgt := 32) hx hb dX9_isFor_21 (by decide) (fun c21 => ?_) (fun c21 => ?_)
    · exact absurd c21 (by decide)
    · refine lv_aload_n hx hb dX9_isFor_24 rfl (lv_at hl 0 rfl) ?_
      refine lv_iload_n hx hb dX9_isFor_25 rfl (lv_at hl 1 rfl) ?_
      refine k_iV (As := [.int (nI i)]) (rest := []) (Rs := []) (Bs' := [moB r (upd F 7 0), arB ty (r 1) 215 (sqA 215 S)]) ⟨hx, hb, hml, hown, hts⟩ w (c_X9_wants l D ty r (upd F 7 0) S i (by omega)) (cwV 1 hts gX9_isFor_X9_wants rfl rfl rfl ⟨rfl, hdN_X9_wants⟩ ⟨Nat.le_of_ble_eq_true rfl, Nat.le_of_ble_eq_true rfl⟩) [0, 1] (nB := 2) (by decide) rfl rfl rfl rfl 0 rfl rfl (ci := 13) rfl rfl rfl hl.1 rfl (Nat.le_of_ble_eq_true rfl) dX9_isFor_26 ⟨(Nat.zero_le _), (Nat.zero_le _)⟩ (fun H locs w => ?_)
      refine lv_goto (tgt := 33) hx hb dX9_isFor_29 (by decide) ?_
      exact e_i hx hb hr hlocks (w.cast (by rw [ht])) (by rw [gT, ht, if_pos rfl, cN_nI (show i < 2 ^ 31 by omega)]) dX9_isFor_33 (Nat.le_refl _) (Nat.le_refl _)

theorem in_X9_membersFor_X9 : ∀ w ∈ wsX90, w ∈ wsX9_membersFor := by decide +kernel
theorem hdN_X9_membersFor : yX9_membersFor.cls ≠ "java/lang/invoke/MethodHandle" ∧ yX9_membersFor.cls ≠ "java/lang/invoke/VarHandle" ∧ (parseMethodDescriptor yX9_membersFor.desc).map (fun d => d.parameters.length) = some 1 := by decide +kernel
set_option maxRecDepth 100000 in
set_option maxHeartbeats 4000000 in
theorem c_X9_membersFor (l : Launch) (D : va_G) (ty : Nat → ClassId) (r : Nat → Nat) (F S : pS) (n : Nat) (h0 : S 0 = nI n) (hn : n ≤ 8) (v : Int32)  : Mi l yX9_membersFor wsX9_membersFor (kR 4 90 0 0) D (kTY ty) [.ref (r 0), .int v] [moB r F, arB ty (r 1) 215 (sqA 215 S)] [moB r (upd F 7 (t1 (pIn v 0 3))), arB ty (r 1) 215 (sqA 215 S)] (gT (t1 (pIn v 0 3)) (pMem S v n)) 0 0 := by
  refine m_i (cc := cX9_membersFor) (maxL := 2) (ret := (some .int)) (by decide +kernel) rfl (Nat.le_of_ble_eq_true rfl) ?_
  intro p e s m below meth c A ls hx hb hml hr hlocks hown hts w hl
  have hown : s.vm.findClass RX9 = some m.cls := hown
  have hl : lv_has ls 2 [(0, .ref (r 0)), (1, .int v)] := hl
  refine lv_aload_n hx hb dX9_membersFor_0 rfl (lv_at hl 0 rfl) ?_
  refine lv_iload_n hx hb dX9_membersFor_1 rfl (lv_at hl 1 rfl) ?_
  refine lv_iconst (v := 0) hx hb dX9_membersFor_2 (by decide) ?_
  refine lv_iconst (v := 3) hx hb dX9_membersFor_3 (by decide) ?_
  refine k_iS (As := [.int v, .int 0, .int 3]) (rest := [.ref (r 0)]) (Rs := [moB r F, arB ty (r 1) 215 (sqA 215 S)]) (Bs' := [moB r F, arB ty (r 1) 215 (sqA 215 S)]) ⟨hx, hb, hml, hown, hts⟩ w (c_X9_isIn l D ty v 0 3) (va_cwS 3 hts gX9_membersFor_X9_isIn rfl rfl rfl hdN_X9_isIn ⟨Nat.le_of_ble_eq_true rfl, Nat.le_of_ble_eq_true rfl⟩) [0, 1] (nB := 2) (by decide) rfl rfl rfl rfl rfl hl.1 rfl (Nat.le_of_ble_eq_true rfl) dX9_membersFor_4 ⟨(Nat.zero_le _), (Nat.zero_le _)⟩ (fun H locs w => ?_)
  refine lv_if_eq (tgt := 14) hx hb dX9_membersFor_7 (by decide) (fun c7 => ?_) (fun c7 => ?_)
  · have c7 := bI_0.mp c7
    refine lv_iconst (v := 1) hx hb dX9_membersFor_14 (by decide) ?_
    have ht : t1 (pIn v 0 3) = 1 := by simp [t1, c7]
    refine r_put hx hb hts in_X9_membersFor_X9 tyX9 tyX9_ok nmX9 hown w 0 0 rfl rfl (ci := 13) rfl 7 (by decide) (hts _ (List.mem_of_getElem? (i := 1) rfl)) rfl rfl (ty := .int) (by decide +kernel) rfl rfl (Nat.le_of_ble_eq_true rfl) (moB r (upd F 7 1)) rfl [moB r (upd F 7 1), arB ty (r 1) 215 (sqA 215 S)] rfl dX9_membersFor_15 (fun H locs w => ?_)
    refine lv_aload_n hx hb dX9_membersFor_18 rfl (lv_at hl 0 rfl) ?_
    refine r_get (v' := .int 1) hx hb hts in_X9_membersFor_X9 hown w 0 0 rfl rfl (ci := 13) rfl 7 (by decide) (hts _ (List.mem_of_getElem? (i := 1) rfl)) rfl rfl rfl dX9_membersFor_19 ?_
    refine lv_if_ne (tgt := 33) hx hb dX9_membersFor_22 (by decide) (fun c22 => ?_) (fun c22 => ?_)
    · refine lv_iconst (v := 0) hx hb dX9_membersFor_33 (by decide) ?_
      exact e_i hx hb hr hlocks (w.cast (by rw [ht])) (by rw [gT, ht]; rfl) dX9_membersFor_34 (Nat.le_refl _) (Nat.le_refl _)
    · exact absurd c22 (by decide)
  · have c7 := bI_1.mp c7
    refine lv_iconst (v := 0) hx hb dX9_membersFor_10 (by decide) ?_
    refine lv_goto (tgt := 15) hx hb dX9_membersFor_11 (by decide) ?_
    have ht : t1 (pIn v 0 3) = 0 := by simp [t1, c7]
    refine r_put hx hb hts in_X9_membersFor_X9 tyX9 tyX9_ok nmX9 hown w 0 0 rfl rfl (ci := 13) rfl 7 (by decide) (hts _ (List.mem_of_getElem? (i := 1) rfl)) rfl rfl (ty := .int) (by decide +kernel) rfl rfl (Nat.le_of_ble_eq_true rfl) (moB r (upd F 7 0)) rfl [moB r (upd F 7 0), arB ty (r 1) 215 (sqA 215 S)] rfl dX9_membersFor_15 (fun H locs w => ?_)
    refine lv_aload_n hx hb dX9_membersFor_18 rfl (lv_at hl 0 rfl) ?_
    refine r_get (v' := .int 0) hx hb hts in_X9_membersFor_X9 hown w 0 0 rfl rfl (ci := 13) rfl 7 (by decide) (hts _ (List.mem_of_getElem? (i := 1) rfl)) rfl rfl rfl dX9_membersFor_19 ?_
    refine lv_if_ne (tgt := 33) hx hb dX9_membersFor_22 (by decide) (fun c22 => ?_) (fun c22 => ?_)
    · exact absurd c22 (by decide)
    · refine lv_aload_n hx hb dX9_membersFor_25 rfl (lv_at hl 0 rfl) ?_
      refine lv_iload_n hx hb dX9_membersFor_26 rfl (lv_at hl 1 rfl) ?_
      refine k_iV (As := [.int v]) (rest := []) (Rs := []) (Bs' := [moB r (upd F 7 0), arB ty (r 1) 215 (sqA 215 S)]) ⟨hx, hb, hml, hown, hts⟩ w (c_X9_membersWanting l D ty r (upd F 7 0) S n h0 hn v) (cwV 1 hts gX9_membersFor_X9_membersWanting rfl rfl rfl ⟨rfl, hdN_X9_membersWanting⟩ ⟨Nat.le_of_ble_eq_true rfl, Nat.le_of_ble_eq_true rfl⟩) [0, 1] (nB := 2) (by decide) rfl rfl rfl rfl 0 rfl rfl (ci := 13) rfl rfl rfl hl.1 rfl (Nat.le_of_ble_eq_true rfl) dX9_membersFor_27 ⟨(Nat.zero_le _), (Nat.zero_le _)⟩ (fun H locs w => ?_)
      refine lv_goto (tgt := 34) hx hb dX9_membersFor_30 (by decide) ?_
      exact e_i hx hb hr hlocks (w.cast (by rw [ht])) (by rw [gT, ht, if_pos rfl]) dX9_membersFor_34 (Nat.le_refl _) (Nat.le_refl _)

theorem in_X9_turnIn_X9 : ∀ w ∈ wsX90, w ∈ wsX9_turnIn := by decide +kernel
theorem hdN_X9_turnIn : yX9_turnIn.cls ≠ "java/lang/invoke/MethodHandle" ∧ yX9_turnIn.cls ≠ "java/lang/invoke/VarHandle" ∧ (parseMethodDescriptor yX9_turnIn.desc).map (fun d => d.parameters.length) = some 1 := by decide +kernel
set_option maxRecDepth 100000 in
set_option maxHeartbeats 4000000 in
theorem c_X9_turnIn (l : Launch) (D : va_G) (ty : Nat → ClassId) (r : Nat → Nat) (F S : pS) (n : Nat) (h0 : S 0 = nI n) (hn : n ≤ 8) (q : Nat) (h1 : S 49 = nI q) (hq : q ≤ 8) (h : Int32)  : Mi l yX9_turnIn wsX9_turnIn (kR 2 43 0 0) D (kTY ty) [.ref (r 0), .int h] [moB r F, arB ty (r 1) 215 (sqA 215 S)] [moB r (upd F 7 (tTurn S n q h)), arB ty (r 1) 215 (sqA 215 S)] (gT (tTurn S n q h) (pPl S h q + 1)) 0 0 := by
  refine m_i (cc := cX9_turnIn) (maxL := 2) (ret := (some .int)) (by decide +kernel) rfl (Nat.le_of_ble_eq_true rfl) ?_
  intro p e s m below meth c A ls hx hb hml hr hlocks hown hts w hl
  have hown : s.vm.findClass RX9 = some m.cls := hown
  have hl : lv_has ls 2 [(0, .ref (r 0)), (1, .int h)] := hl
  refine lv_aload_n hx hb dX9_turnIn_0 rfl (lv_at hl 0 rfl) ?_
  refine lv_aload_n hx hb dX9_turnIn_1 rfl (lv_at hl 0 rfl) ?_
  refine lv_iload_n hx hb dX9_turnIn_2 rfl (lv_at hl 1 rfl) ?_
  refine k_iV (As := [.int h]) (rest := [.ref (r 0)]) (Rs := []) (Bs' := [moB r F, arB ty (r 1) 215 (sqA 215 S)]) ⟨hx, hb, hml, hown, hts⟩ w (c_X9_isHousehold l D ty r F S n h0 hn h) (cwV 1 hts gX9_turnIn_X9_isHousehold rfl rfl rfl ⟨rfl, hdN_X9_isHousehold⟩ ⟨Nat.le_of_ble_eq_true rfl, Nat.le_of_ble_eq_true rfl⟩) [0, 1] (nB := 2) (by decide) rfl rfl rfl rfl 0 rfl rfl (ci := 13) rfl rfl rfl hl.1 rfl (Nat.le_of_ble_eq_true rfl) dX9_turnIn_3 ⟨(Nat.zero_le _), (Nat.zero_le _)⟩ (fun H locs w => ?_)
  refine lv_if_ne (tgt := 13) hx hb dX9_turnIn_6 (by decide) (fun c6 => ?_) (fun c6 => ?_)
  · have c6 := bI_1.mp c6
    refine lv_iconst (v := 0) hx hb dX9_turnIn_13 (by decide) ?_
    refine r_put hx hb hts in_X9_turnIn_X9 tyX9 tyX9_ok nmX9 hown w 0 0 rfl rfl (ci := 13) rfl 7 (by decide) (hts _ (List.mem_of_getElem? (i := 1) rfl)) rfl rfl (ty := .int) (by decide +kernel) rfl rfl (Nat.le_of_ble_eq_true rfl) (moB r (upd F 7 0)) rfl [moB r (upd F 7 0), arB ty (r 1) 215 (sqA 215 S)] rfl dX9_turnIn_14 (fun H locs w => ?_)
    refine lv_aload_n hx hb dX9_turnIn_17 rfl (lv_at hl 0 rfl) ?_
    refine lv_aload_n hx hb dX9_turnIn_18 rfl (lv_at hl 0 rfl) ?_
    refine r_get (v' := .int 0) hx hb hts in_X9_turnIn_X9 hown w 0 0 rfl rfl (ci := 13) rfl 7 (by decide) (hts _ (List.mem_of_getElem? (i := 1) rfl)) rfl rfl rfl dX9_turnIn_19 ?_
    refine lv_if_ne (tgt := 38) hx hb dX9_turnIn_22 (by decide) (fun c22 => ?_) (fun c22 => ?_)
    · exact absurd c22 (by decide)
    · refine lv_aload_n hx hb dX9_turnIn_25 rfl (lv_at hl 0 rfl) ?_
      refine lv_iload_n hx hb dX9_turnIn_26 rfl (lv_at hl 1 rfl) ?_
      refine k_iV (As := [.int h]) (rest := [.ref (r 0)]) (Rs := []) (Bs' := [moB r (upd F 7 0), arB ty (r 1) 215 (sqA 215 S)]) ⟨hx, hb, hml, hown, hts⟩ w (c_X9_placeOf l D ty r (upd F 7 0) S q h1 hq h) (cwV 1 hts gX9_turnIn_X9_placeOf rfl rfl rfl ⟨rfl, hdN_X9_placeOf⟩ ⟨Nat.le_of_ble_eq_true rfl, Nat.le_of_ble_eq_true rfl⟩) [0, 1] (nB := 2) (by decide) rfl rfl rfl rfl 0 rfl rfl (ci := 13) rfl rfl rfl hl.1 rfl (Nat.le_of_ble_eq_true rfl) dX9_turnIn_27 ⟨(Nat.zero_le _), (Nat.zero_le _)⟩ (fun H locs w => ?_)
      refine lv_iconst (v := (-1)) hx hb dX9_turnIn_30 (by decide) ?_
      refine lv_icmp_ne (tgt := 38) hx hb dX9_turnIn_31 (by decide) (fun c31 => ?_) (fun c31 => ?_)
      · refine lv_aload_n hx hb dX9_turnIn_38 rfl (lv_at hl 0 rfl) ?_
        refine r_get (v' := .int 0) hx hb hts in_X9_turnIn_X9 hown w 0 0 rfl rfl (ci := 13) rfl 7 (by decide) (hts _ (List.mem_of_getElem? (i := 1) rfl)) rfl rfl rfl dX9_turnIn_39 ?_
        have ht : tTurn S n q h = 0 := by simp [tTurn, c6, c31]
        refine r_put hx hb hts in_X9_turnIn_X9 tyX9 tyX9_ok nmX9 hown w 0 0 rfl rfl (ci := 13) rfl 7 (by decide) (hts _ (List.mem_of_getElem? (i := 1) rfl)) rfl rfl (ty := .int) (by decide +kernel) rfl rfl (Nat.le_of_ble_eq_true rfl) (moB r (upd F 7 0)) rfl [moB r (upd F 7 0), arB ty (r 1) 215 (sqA 215 S)] rfl dX9_turnIn_42 (fun H locs w => ?_)
        refine lv_aload_n hx hb dX9_turnIn_45 rfl (lv_at hl 0 rfl) ?_
        refine r_get (v' := .int 0) hx hb hts in_X9_turnIn_X9 hown w 0 0 rfl rfl (ci := 13) rfl 7 (by decide) (hts _ (List.mem_of_getElem? (i := 1) rfl)) rfl rfl rfl dX9_turnIn_46 ?_
        refine lv_if_ne (tgt := 62) hx hb dX9_turnIn_49 (by decide) (fun c49 => ?_) (fun c49 => ?_)
        · exact absurd c49 (by decide)
        · refine lv_aload_n hx hb dX9_turnIn_52 rfl (lv_at hl 0 rfl) ?_
          refine lv_iload_n hx hb dX9_turnIn_53 rfl (lv_at hl 1 rfl) ?_
          refine k_iV (As := [.int h]) (rest := []) (Rs := []) (Bs' := [moB r (upd F 7 0), arB ty (r 1) 215 (sqA 215 S)]) ⟨hx, hb, hml, hown, hts⟩ w (c_X9_placeOf l D ty r (upd F 7 0) S q h1 hq h) (cwV 1 hts gX9_turnIn_X9_placeOf rfl rfl rfl ⟨rfl, hdN_X9_placeOf⟩ ⟨Nat.le_of_ble_eq_true rfl, Nat.le_of_ble_eq_true rfl⟩) [0, 1] (nB := 2) (by decide) rfl rfl rfl rfl 0 rfl rfl (ci := 13) rfl rfl rfl hl.1 rfl (Nat.le_of_ble_eq_true rfl) dX9_turnIn_54 ⟨(Nat.zero_le _), (Nat.zero_le _)⟩ (fun H locs w => ?_)
          refine lv_iconst (v := 1) hx hb dX9_turnIn_57 (by decide) ?_
          refine lv_iadd hx hb dX9_turnIn_58 ?_
          refine lv_goto (tgt := 63) hx hb dX9_turnIn_59 (by decide) ?_
          exact e_i hx hb hr hlocks (w.cast (by rw [ht])) (by rw [gT, ht, if_pos rfl]) dX9_turnIn_63 (Nat.le_refl _) (Nat.le_refl _)
      · refine lv_iconst (v := 2) hx hb dX9_turnIn_34 (by decide) ?_
        refine lv_goto (tgt := 42) hx hb dX9_turnIn_35 (by decide) ?_
        have ht : tTurn S n q h = 2 := by simp [tTurn, c6, c31]
        refine r_put hx hb hts in_X9_turnIn_X9 tyX9 tyX9_ok nmX9 hown w 0 0 rfl rfl (ci := 13) rfl 7 (by decide) (hts _ (List.mem_of_getElem? (i := 1) rfl)) rfl rfl (ty := .int) (by decide +kernel) rfl rfl (Nat.le_of_ble_eq_true rfl) (moB r (upd F 7 2)) rfl [moB r (upd F 7 2), arB ty (r 1) 215 (sqA 215 S)] rfl dX9_turnIn_42 (fun H locs w => ?_)
        refine lv_aload_n hx hb dX9_turnIn_45 rfl (lv_at hl 0 rfl) ?_
        refine r_get (v' := .int 2) hx hb hts in_X9_turnIn_X9 hown w 0 0 rfl rfl (ci := 13) rfl 7 (by decide) (hts _ (List.mem_of_getElem? (i := 1) rfl)) rfl rfl rfl dX9_turnIn_46 ?_
        refine lv_if_ne (tgt := 62) hx hb dX9_turnIn_49 (by decide) (fun c49 => ?_) (fun c49 => ?_)
        · refine lv_iconst (v := 0) hx hb dX9_turnIn_62 (by decide) ?_
          exact e_i hx hb hr hlocks (w.cast (by rw [ht])) (by rw [gT, ht]; rfl) dX9_turnIn_63 (Nat.le_refl _) (Nat.le_refl _)
        · exact absurd c49 (by decide)
  · have c6 := bI_0.mp c6
    refine lv_iconst (v := 1) hx hb dX9_turnIn_9 (by decide) ?_
    refine lv_goto (tgt := 14) hx hb dX9_turnIn_10 (by decide) ?_
    refine r_put hx hb hts in_X9_turnIn_X9 tyX9 tyX9_ok nmX9 hown w 0 0 rfl rfl (ci := 13) rfl 7 (by decide) (hts _ (List.mem_of_getElem? (i := 1) rfl)) rfl rfl (ty := .int) (by decide +kernel) rfl rfl (Nat.le_of_ble_eq_true rfl) (moB r (upd F 7 1)) rfl [moB r (upd F 7 1), arB ty (r 1) 215 (sqA 215 S)] rfl dX9_turnIn_14 (fun H locs w => ?_)
    refine lv_aload_n hx hb dX9_turnIn_17 rfl (lv_at hl 0 rfl) ?_
    refine lv_aload_n hx hb dX9_turnIn_18 rfl (lv_at hl 0 rfl) ?_
    refine r_get (v' := .int 1) hx hb hts in_X9_turnIn_X9 hown w 0 0 rfl rfl (ci := 13) rfl 7 (by decide) (hts _ (List.mem_of_getElem? (i := 1) rfl)) rfl rfl rfl dX9_turnIn_19 ?_
    refine lv_if_ne (tgt := 38) hx hb dX9_turnIn_22 (by decide) (fun c22 => ?_) (fun c22 => ?_)
    · refine lv_aload_n hx hb dX9_turnIn_38 rfl (lv_at hl 0 rfl) ?_
      refine r_get (v' := .int 1) hx hb hts in_X9_turnIn_X9 hown w 0 0 rfl rfl (ci := 13) rfl 7 (by decide) (hts _ (List.mem_of_getElem? (i := 1) rfl)) rfl rfl rfl dX9_turnIn_39 ?_
      have ht : tTurn S n q h = 1 := by simp [tTurn, c6]
      refine r_put hx hb hts in_X9_turnIn_X9 tyX9 tyX9_ok nmX9 hown w 0 0 rfl rfl (ci := 13) rfl 7 (by decide) (hts _ (List.mem_of_getElem? (i := 1) rfl)) rfl rfl (ty := .int) (by decide +kernel) rfl rfl (Nat.le_of_ble_eq_true rfl) (moB r (upd F 7 1)) rfl [moB r (upd F 7 1), arB ty (r 1) 215 (sqA 215 S)] rfl dX9_turnIn_42 (fun H locs w => ?_)
      refine lv_aload_n hx hb dX9_turnIn_45 rfl (lv_at hl 0 rfl) ?_
      refine r_get (v' := .int 1) hx hb hts in_X9_turnIn_X9 hown w 0 0 rfl rfl (ci := 13) rfl 7 (by decide) (hts _ (List.mem_of_getElem? (i := 1) rfl)) rfl rfl rfl dX9_turnIn_46 ?_
      refine lv_if_ne (tgt := 62) hx hb dX9_turnIn_49 (by decide) (fun c49 => ?_) (fun c49 => ?_)
      · refine lv_iconst (v := 0) hx hb dX9_turnIn_62 (by decide) ?_
        exact e_i hx hb hr hlocks (w.cast (by rw [ht])) (by rw [gT, ht]; rfl) dX9_turnIn_63 (Nat.le_refl _) (Nat.le_refl _)
      · exact absurd c49 (by decide)
    · exact absurd c22 (by decide)

theorem in_X9_possible_X9 : ∀ w ∈ wsX90, w ∈ wsX9_possible := by decide +kernel
theorem hdN_X9_possible : yX9_possible.cls ≠ "java/lang/invoke/MethodHandle" ∧ yX9_possible.cls ≠ "java/lang/invoke/VarHandle" ∧ (parseMethodDescriptor yX9_possible.desc).map (fun d => d.parameters.length) = some 0 := by decide +kernel
set_option maxRecDepth 100000 in
set_option maxHeartbeats 4000000 in
theorem c_X9_possible (l : Launch) (D : va_G) (ty : Nat → ClassId) (r : Nat → Nat) (F S : pS) (n q : Nat) (hI : pSh S n q) (hL : PL S q)  : Mi l yX9_possible wsX9_possible (kR 5 109 0 0) D (kTY ty) [.ref (r 0)] [moB r F, arB ty (r 1) 215 (sqA 215 S)] [moB r (upd F 7 0), arB ty (r 1) 215 (sqA 215 S)] (pAll S q) 0 0 := by
  refine m_i (cc := cX9_possible) (maxL := 1) (ret := (some .int)) (by decide +kernel) rfl (Nat.le_of_ble_eq_true rfl) ?_
  intro p e s m below meth c A ls hx hb hml hr hlocks hown hts w hl
  have hown : s.vm.findClass RX9 = some m.cls := hown
  have hl : lv_has ls 1 [(0, .ref (r 0))] := hl
  refine lv_aload_n hx hb dX9_possible_0 rfl (lv_at hl 0 rfl) ?_
  refine lv_iconst (v := 0) hx hb dX9_possible_1 (by decide) ?_
  refine r_put hx hb hts in_X9_possible_X9 tyX9 tyX9_ok nmX9 hown w 0 0 rfl rfl (ci := 13) rfl 7 (by decide) (hts _ (List.mem_of_getElem? (i := 1) rfl)) rfl rfl (ty := .int) (by decide +kernel) rfl rfl (Nat.le_of_ble_eq_true rfl) (moB r (upd F 7 0)) rfl [moB r (upd F 7 0), arB ty (r 1) 215 (sqA 215 S)] rfl dX9_possible_2 (fun H locs w => ?_)
  refine lv_aload_n hx hb dX9_possible_5 rfl (lv_at hl 0 rfl) ?_
  refine k_iV (As := []) (rest := []) (Rs := []) (Bs' := [moB r (upd F 7 0), arB ty (r 1) 215 (sqA 215 S)]) ⟨hx, hb, hml, hown, hts⟩ w (c_X9_allLeft l D ty r (upd F 7 0) S n q hI hL) (cwV 0 hts gX9_possible_X9_allLeft rfl rfl rfl ⟨rfl, hdN_X9_allLeft⟩ ⟨Nat.le_of_ble_eq_true rfl, Nat.le_of_ble_eq_true rfl⟩) [0, 1] (nB := 2) (by decide) rfl rfl rfl rfl 0 rfl rfl (ci := 13) rfl rfl rfl hl.1 rfl (Nat.le_of_ble_eq_true rfl) dX9_possible_6 ⟨(Nat.zero_le _), (Nat.zero_le _)⟩ (fun H locs w => ?_)
  exact e_i hx hb hr hlocks w rfl dX9_possible_9 (Nat.le_refl _) (Nat.le_refl _)

theorem in_X9_wouldBring_X9 : ∀ w ∈ wsX90, w ∈ wsX9_wouldBring := by decide +kernel
theorem hdN_X9_wouldBring : yX9_wouldBring.cls ≠ "java/lang/invoke/MethodHandle" ∧ yX9_wouldBring.cls ≠ "java/lang/invoke/VarHandle" ∧ (parseMethodDescriptor yX9_wouldBring.desc).map (fun d => d.parameters.length) = some 1 := by decide +kernel
set_option maxRecDepth 100000 in
set_option maxHeartbeats 4000000 in
theorem c_X9_wouldBring (l : Launch) (D : va_G) (ty : Nat → ClassId) (r : Nat → Nat) (F S : pS) (v : Int32)  : Mi l yX9_wouldBring wsX9_wouldBring (kR 3 57 0 0) D (kTY ty) [.ref (r 0), .int v] [moB r F, arB ty (r 1) 215 (sqA 215 S)] [moB r (upd F 7 (t1 (pIn v 0 60))), arB ty (r 1) 215 (sqA 215 S)] (gT (t1 (pIn v 0 60)) (pBrings S (cN v))) 0 0 := by
  refine m_i (cc := cX9_wouldBring) (maxL := 2) (ret := (some .int)) (by decide +kernel) rfl (Nat.le_of_ble_eq_true rfl) ?_
  intro p e s m below meth c A ls hx hb hml hr hlocks hown hts w hl
  have hown : s.vm.findClass RX9 = some m.cls := hown
  have hl : lv_has ls 2 [(0, .ref (r 0)), (1, .int v)] := hl
  refine lv_aload_n hx hb dX9_wouldBring_0 rfl (lv_at hl 0 rfl) ?_
  refine lv_iload_n hx hb dX9_wouldBring_1 rfl (lv_at hl 1 rfl) ?_
  refine lv_iconst (v := 0) hx hb dX9_wouldBring_2 (by decide) ?_
  refine lv_bipush (v := 60) hx hb dX9_wouldBring_3 (by decide) ?_
  refine k_iS (As := [.int v, .int 0, .int 60]) (rest := [.ref (r 0)]) (Rs := [moB r F, arB ty (r 1) 215 (sqA 215 S)]) (Bs' := [moB r F, arB ty (r 1) 215 (sqA 215 S)]) ⟨hx, hb, hml, hown, hts⟩ w (c_X9_isIn l D ty v 0 60) (va_cwS 3 hts gX9_wouldBring_X9_isIn rfl rfl rfl hdN_X9_isIn ⟨Nat.le_of_ble_eq_true rfl, Nat.le_of_ble_eq_true rfl⟩) [0, 1] (nB := 2) (by decide) rfl rfl rfl rfl rfl hl.1 rfl (Nat.le_of_ble_eq_true rfl) dX9_wouldBring_5 ⟨(Nat.zero_le _), (Nat.zero_le _)⟩ (fun H locs w => ?_)
  refine lv_if_eq (tgt := 15) hx hb dX9_wouldBring_8 (by decide) (fun c8 => ?_) (fun c8 => ?_)
  · have c8 := bI_0.mp c8
    refine lv_iconst (v := 1) hx hb dX9_wouldBring_15 (by decide) ?_
    have ht : t1 (pIn v 0 60) = 1 := by simp [t1, c8]
    refine r_put hx hb hts in_X9_wouldBring_X9 tyX9 tyX9_ok nmX9 hown w 0 0 rfl rfl (ci := 13) rfl 7 (by decide) (hts _ (List.mem_of_getElem? (i := 1) rfl)) rfl rfl (ty := .int) (by decide +kernel) rfl rfl (Nat.le_of_ble_eq_true rfl) (moB r (upd F 7 1)) rfl [moB r (upd F 7 1), arB ty (r 1) 215 (sqA 215 S)] rfl dX9_wouldBring_16 (fun H locs w => ?_)
    refine lv_aload_n hx hb dX9_wouldBring_19 rfl (lv_at hl 0 rfl) ?_
    refine r_get (v' := .int 1) hx hb hts in_X9_wouldBring_X9 hown w 0 0 rfl rfl (ci := 13) rfl 7 (by decide) (hts _ (List.mem_of_getElem? (i := 1) rfl)) rfl rfl rfl dX9_wouldBring_20 ?_
    refine lv_if_ne (tgt := 34) hx hb dX9_wouldBring_23 (by decide) (fun c23 => ?_) (fun c23 => ?_)
    · refine lv_iconst (v := 0) hx hb dX9_wouldBring_34 (by decide) ?_
      exact e_i hx hb hr hlocks (w.cast (by rw [ht])) (by rw [gT, ht]; rfl) dX9_wouldBring_35 (Nat.le_refl _) (Nat.le_refl _)
    · exact absurd c23 (by decide)
  · have c8 := bI_1.mp c8
    obtain ⟨j, ggj, rfl⟩ := pIn_nat0 (k := 60) (by omega) c8
    refine lv_iconst (v := 0) hx hb dX9_wouldBring_11 (by decide) ?_
    refine lv_goto (tgt := 16) hx hb dX9_wouldBring_12 (by decide) ?_
    have ht : t1 (pIn (nI j) 0 60) = 0 := by simp [t1, c8]
    refine r_put hx hb hts in_X9_wouldBring_X9 tyX9 tyX9_ok nmX9 hown w 0 0 rfl rfl (ci := 13) rfl 7 (by decide) (hts _ (List.mem_of_getElem? (i := 1) rfl)) rfl rfl (ty := .int) (by decide +kernel) rfl rfl (Nat.le_of_ble_eq_true rfl) (moB r (upd F 7 0)) rfl [moB r (upd F 7 0), arB ty (r 1) 215 (sqA 215 S)] rfl dX9_wouldBring_16 (fun H locs w => ?_)
    refine lv_aload_n hx hb dX9_wouldBring_19 rfl (lv_at hl 0 rfl) ?_
    refine r_get (v' := .int 0) hx hb hts in_X9_wouldBring_X9 hown w 0 0 rfl rfl (ci := 13) rfl 7 (by decide) (hts _ (List.mem_of_getElem? (i := 1) rfl)) rfl rfl rfl dX9_wouldBring_20 ?_
    refine lv_if_ne (tgt := 34) hx hb dX9_wouldBring_23 (by decide) (fun c23 => ?_) (fun c23 => ?_)
    · exact absurd c23 (by decide)
    · refine lv_aload_n hx hb dX9_wouldBring_26 rfl (lv_at hl 0 rfl) ?_
      refine lv_iload_n hx hb dX9_wouldBring_27 rfl (lv_at hl 1 rfl) ?_
      refine k_iV (As := [.int (nI j)]) (rest := []) (Rs := []) (Bs' := [moB r (upd F 7 0), arB ty (r 1) 215 (sqA 215 S)]) ⟨hx, hb, hml, hown, hts⟩ w (c_X9_allBring l D ty r (upd F 7 0) S j (by omega)) (cwV 1 hts gX9_wouldBring_X9_allBring rfl rfl rfl ⟨rfl, hdN_X9_allBring⟩ ⟨Nat.le_of_ble_eq_true rfl, Nat.le_of_ble_eq_true rfl⟩) [0, 1] (nB := 2) (by decide) rfl rfl rfl rfl 0 rfl rfl (ci := 13) rfl rfl rfl hl.1 rfl (Nat.le_of_ble_eq_true rfl) dX9_wouldBring_28 ⟨(Nat.zero_le _), (Nat.zero_le _)⟩ (fun H locs w => ?_)
      refine lv_goto (tgt := 35) hx hb dX9_wouldBring_31 (by decide) ?_
      exact e_i hx hb hr hlocks (w.cast (by rw [ht])) (by rw [gT, ht, if_pos rfl, cN_nI (show j < 2 ^ 31 by omega)]) dX9_wouldBring_35 (Nat.le_refl _) (Nat.le_refl _)

theorem in_X9_wellAfter_X9 : ∀ w ∈ wsX90, w ∈ wsX9_wellAfter := by decide +kernel
theorem hdN_X9_wellAfter : yX9_wellAfter.cls ≠ "java/lang/invoke/MethodHandle" ∧ yX9_wellAfter.cls ≠ "java/lang/invoke/VarHandle" ∧ (parseMethodDescriptor yX9_wellAfter.desc).map (fun d => d.parameters.length) = some 2 := by decide +kernel
set_option maxRecDepth 100000 in
set_option maxHeartbeats 4000000 in
theorem c_X9_wellAfter (l : Launch) (D : va_G) (ty : Nat → ClassId) (r : Nat → Nat) (F S : pS) (j : Nat) (hj : j ≤ 100) (d : Int32)  : Mi l yX9_wellAfter wsX9_wellAfter (kR 1 14 0 0) D (kTY ty) [.ref (r 0), .int (nI j), .int d] [moB r F, arB ty (r 1) 215 (sqA 215 S)] [moB r F, arB ty (r 1) 215 (sqA 215 S)] (pWell S d j) 0 0 := by
  refine m_i (cc := cX9_wellAfter) (maxL := 5) (ret := (some .int)) (by decide +kernel) rfl (Nat.le_of_ble_eq_true rfl) ?_
  intro p e s m below meth c A ls hx hb hml hr hlocks hown hts w hl
  have hown : s.vm.findClass RX9 = some m.cls := hown
  have hl : lv_has ls 5 [(0, .ref (r 0)), (1, .int (nI j)), (2, .int d)] := hl
  refine lv_aload_n hx hb dX9_wellAfter_0 rfl (lv_at hl 0 rfl) ?_
  refine r_get (v' := .ref (r 1)) hx hb hts in_X9_wellAfter_X9 hown w 0 0 rfl rfl (ci := 13) rfl 0 (by decide) (hts _ (List.mem_of_getElem? (i := 1) rfl)) rfl rfl rfl dX9_wellAfter_1 ?_
  refine lv_sipush (v := 204) hx hb dX9_wellAfter_4 (by decide) ?_
  refine r_iald (v := (S 204)) hx hb w 1 0 rfl rfl 0 rfl 204 (by omega) (Nat.le_of_ble_eq_true rfl) rfl (sqA_at (by omega)) dX9_wellAfter_7 ?_
  refine lv_istore_n (lv' := [(3, .int (S 204)), (0, .ref (r 0)), (1, .int (nI j)), (2, .int d)]) hx hb dX9_wellAfter_8 rfl hl (by decide) rfl (fun ls hl => ?_)
  refine lv_iconst (v := 0) hx hb dX9_wellAfter_9 (by decide) ?_
  refine lv_istore (lv' := [(4, .int 0), (3, .int (S 204)), (0, .ref (r 0)), (1, .int (nI j)), (2, .int d)]) hx hb dX9_wellAfter_10 hl (by decide) rfl (fun ls hl => ?_)
  refine k_loop (fun k H locs ls => kW D (kTY ty) A s.heap s H locs [moB r F, arB ty (r 1) 215 (sqA 215 S)] ∧ lv_has ls 5 [(0, .ref (r 0)), (1, .int (nI j)), (2, .int d), (3, .int (pWell S d k)), (4, .int (nI k))]) j 0 (by omega) ⟨w, lv_sub hl [2, 3, 4, 1, 0] rfl⟩ ?_
  intro k hk0 hk ihk H locs ls hI
  obtain ⟨w, hl⟩ := hI
  refine lv_iload hx hb dX9_wellAfter_12 (lv_at hl 4 rfl) ?_
  refine lv_iload_n hx hb dX9_wellAfter_14 rfl (lv_at hl 1 rfl) ?_
  refine lv_icmp_ge (tgt := 50) hx hb dX9_wellAfter_15 (by decide) (fun c15 => ?_) (fun c15 => ?_)
  · have c15 := (nI_leI (a := j) (b := k) (by omega) (by omega)).mp c15
    obtain rfl : j = k := by omega
    refine lv_iload_n hx hb dX9_wellAfter_50 rfl (lv_at hl 3 rfl) ?_
    exact e_i hx hb hr hlocks w rfl dX9_wellAfter_51 (Nat.le_refl _) (Nat.le_refl _)
  · have c15 := mt (nI_leI (a := j) (b := k) (by omega) (by omega)).mpr c15
    refine lv_sipush (v := 999) hx hb dX9_wellAfter_18 (by decide) ?_
    refine lv_iconst (v := 0) hx hb dX9_wellAfter_21 (by decide) ?_
    refine lv_iload_n hx hb dX9_wellAfter_22 rfl (lv_at hl 3 rfl) ?_
    refine lv_iload_n hx hb dX9_wellAfter_23 rfl (lv_at hl 2 rfl) ?_
    refine lv_isub hx hb dX9_wellAfter_24 ?_
    refine va_mmax hx hb (hml.trans hl.1.symm) hown (hts _ (List.mem_of_getElem? (i := 2) rfl)) (hts _ (List.mem_of_getElem? (i := 3) rfl)) (hts _ (List.mem_of_getElem? (i := 4) rfl)) (hts _ (List.mem_of_getElem? (i := 5) rfl)) (Nat.le_of_ble_eq_true rfl) (Nat.le_of_ble_eq_true rfl) (Nat.zero_le _) (Nat.zero_le _) dX9_wellAfter_25 ?_
    refine r_eq (y := (jmax 0 ((pWell S d k) - d))) rfl ?_
    refine lv_bipush (v := 10) hx hb dX9_wellAfter_28 (by decide) ?_
    refine lv_aload_n hx hb dX9_wellAfter_30 rfl (lv_at hl 0 rfl) ?_
    refine r_get (v' := .ref (r 1)) hx hb hts in_X9_wellAfter_X9 hown w 0 0 rfl rfl (ci := 13) rfl 0 (by decide) (hts _ (List.mem_of_getElem? (i := 1) rfl)) rfl rfl rfl dX9_wellAfter_31 ?_
    refine lv_sipush (v := 208) hx hb dX9_wellAfter_34 (by decide) ?_
    refine r_iald (v := (S 208)) hx hb w 1 0 rfl rfl 0 rfl 208 (by omega) (Nat.le_of_ble_eq_true rfl) rfl (sqA_at (by omega)) dX9_wellAfter_37 ?_
    refine lv_imul hx hb dX9_wellAfter_38 ?_
    refine lv_iadd hx hb dX9_wellAfter_39 ?_
    refine va_mmin hx hb (hml.trans hl.1.symm) hown (hts _ (List.mem_of_getElem? (i := 6) rfl)) (hts _ (List.mem_of_getElem? (i := 7) rfl)) (hts _ (List.mem_of_getElem? (i := 4) rfl)) (hts _ (List.mem_of_getElem? (i := 8) rfl)) (Nat.le_of_ble_eq_true rfl) (Nat.le_of_ble_eq_true rfl) (Nat.zero_le _) (Nat.zero_le _) dX9_wellAfter_40 ?_
    refine r_eq (y := (jmin 999 ((jmax 0 ((pWell S d k) - d)) + (10 * (S 208))))) rfl ?_
    refine r_eq (y := (pWell S d (k + 1))) rfl ?_
    refine lv_istore_n (lv' := [(3, .int (pWell S d (k + 1))), (0, .ref (r 0)), (1, .int (nI j)), (2, .int d), (4, .int (nI k))]) hx hb dX9_wellAfter_43 rfl hl (by decide) rfl (fun ls hl => ?_)
    refine lv_iinc (v := (nI (k + 1))) (lv' := [(4, .int (nI (k + 1))), (3, .int (pWell S d (k + 1))), (0, .ref (r 0)), (1, .int (nI j)), (2, .int d)]) hx hb dX9_wellAfter_44 hl (k := 4) rfl (inc1 k) (by decide) rfl (fun ls hl => ?_)
    refine lv_goto (tgt := 12) hx hb dX9_wellAfter_47 (by decide) ?_
    exact ihk _ _ _ ⟨w, lv_sub hl [2, 3, 4, 1, 0] rfl⟩ (by omega)

theorem in_X9_wellIn_X9 : ∀ w ∈ wsX90, w ∈ wsX9_wellIn := by decide +kernel
theorem hdN_X9_wellIn : yX9_wellIn.cls ≠ "java/lang/invoke/MethodHandle" ∧ yX9_wellIn.cls ≠ "java/lang/invoke/VarHandle" ∧ (parseMethodDescriptor yX9_wellIn.desc).map (fun d => d.parameters.length) = some 2 := by decide +kernel
set_option maxRecDepth 100000 in
set_option maxHeartbeats 4000000 in
theorem c_X9_wellIn (l : Launch) (D : va_G) (ty : Nat → ClassId) (r : Nat → Nat) (F S : pS) (v d : Int32)  : Mi l yX9_wellIn wsX9_wellIn (kR 2 38 0 0) D (kTY ty) [.ref (r 0), .int v, .int d] [moB r F, arB ty (r 1) 215 (sqA 215 S)] [moB r (upd F 7 (t1 (pIn v 0 100 && pIn d 0 999))), arB ty (r 1) 215 (sqA 215 S)] (gT (t1 (pIn v 0 100 && pIn d 0 999)) (pWell S d (cN v))) 0 0 := by
  refine m_i (cc := cX9_wellIn) (maxL := 3) (ret := (some .int)) (by decide +kernel) rfl (Nat.le_of_ble_eq_true rfl) ?_
  intro p e s m below meth c A ls hx hb hml hr hlocks hown hts w hl
  have hown : s.vm.findClass RX9 = some m.cls := hown
  have hl : lv_has ls 3 [(0, .ref (r 0)), (1, .int v), (2, .int d)] := hl
  refine lv_aload_n hx hb dX9_wellIn_0 rfl (lv_at hl 0 rfl) ?_
  refine lv_iload_n hx hb dX9_wellIn_1 rfl (lv_at hl 1 rfl) ?_
  refine lv_iconst (v := 0) hx hb dX9_wellIn_2 (by decide) ?_
  refine lv_bipush (v := 100) hx hb dX9_wellIn_3 (by decide) ?_
  refine k_iS (As := [.int v, .int 0, .int 100]) (rest := [.ref (r 0)]) (Rs := [moB r F, arB ty (r 1) 215 (sqA 215 S)]) (Bs' := [moB r F, arB ty (r 1) 215 (sqA 215 S)]) ⟨hx, hb, hml, hown, hts⟩ w (c_X9_isIn l D ty v 0 100) (va_cwS 3 hts gX9_wellIn_X9_isIn rfl rfl rfl hdN_X9_isIn ⟨Nat.le_of_ble_eq_true rfl, Nat.le_of_ble_eq_true rfl⟩) [0, 1] (nB := 2) (by decide) rfl rfl rfl rfl rfl hl.1 rfl (Nat.le_of_ble_eq_true rfl) dX9_wellIn_5 ⟨(Nat.zero_le _), (Nat.zero_le _)⟩ (fun H locs w => ?_)
  refine lv_if_eq (tgt := 26) hx hb dX9_wellIn_8 (by decide) (fun c8 => ?_) (fun c8 => ?_)
  · have c8 := bI_0.mp c8
    refine lv_iconst (v := 1) hx hb dX9_wellIn_26 (by decide) ?_
    have ht : t1 (pIn v 0 100 && pIn d 0 999) = 1 := by simp [t1, c8]
    refine r_put hx hb hts in_X9_wellIn_X9 tyX9 tyX9_ok nmX9 hown w 0 0 rfl rfl (ci := 13) rfl 7 (by decide) (hts _ (List.mem_of_getElem? (i := 1) rfl)) rfl rfl (ty := .int) (by decide +kernel) rfl rfl (Nat.le_of_ble_eq_true rfl) (moB r (upd F 7 1)) rfl [moB r (upd F 7 1), arB ty (r 1) 215 (sqA 215 S)] rfl dX9_wellIn_27 (fun H locs w => ?_)
    refine lv_aload_n hx hb dX9_wellIn_30 rfl (lv_at hl 0 rfl) ?_
    refine r_get (v' := .int 1) hx hb hts in_X9_wellIn_X9 hown w 0 0 rfl rfl (ci := 13) rfl 7 (by decide) (hts _ (List.mem_of_getElem? (i := 1) rfl)) rfl rfl rfl dX9_wellIn_31 ?_
    refine lv_if_ne (tgt := 46) hx hb dX9_wellIn_34 (by decide) (fun c34 => ?_) (fun c34 => ?_)
    · refine lv_iconst (v := 0) hx hb dX9_wellIn_46 (by decide) ?_
      exact e_i hx hb hr hlocks (w.cast (by rw [ht])) (by rw [gT, ht]; rfl) dX9_wellIn_47 (Nat.le_refl _) (Nat.le_refl _)
    · exact absurd c34 (by decide)
  · have c8 := bI_1.mp c8
    obtain ⟨j, ggj, rfl⟩ := pIn_nat0 (k := 100) (by omega) c8
    refine lv_iload_n hx hb dX9_wellIn_11 rfl (lv_at hl 2 rfl) ?_
    refine lv_iconst (v := 0) hx hb dX9_wellIn_12 (by decide) ?_
    refine lv_sipush (v := 999) hx hb dX9_wellIn_13 (by decide) ?_
    refine k_iS (As := [.int d, .int 0, .int 999]) (rest := [.ref (r 0)]) (Rs := [moB r F, arB ty (r 1) 215 (sqA 215 S)]) (Bs' := [moB r F, arB ty (r 1) 215 (sqA 215 S)]) ⟨hx, hb, hml, hown, hts⟩ w (c_X9_isIn l D ty d 0 999) (va_cwS 3 hts gX9_wellIn_X9_isIn rfl rfl rfl hdN_X9_isIn ⟨Nat.le_of_ble_eq_true rfl, Nat.le_of_ble_eq_true rfl⟩) [0, 1] (nB := 2) (by decide) rfl rfl rfl rfl rfl hl.1 rfl (Nat.le_of_ble_eq_true rfl) dX9_wellIn_16 ⟨(Nat.zero_le _), (Nat.zero_le _)⟩ (fun H locs w => ?_)
    refine lv_if_eq (tgt := 26) hx hb dX9_wellIn_19 (by decide) (fun c19 => ?_) (fun c19 => ?_)
    · have c19 := bI_0.mp c19
      refine lv_iconst (v := 1) hx hb dX9_wellIn_26 (by decide) ?_
      have ht : t1 (pIn (nI j) 0 100 && pIn d 0 999) = 1 := by simp [t1, c8, c19]
      refine r_put hx hb hts in_X9_wellIn_X9 tyX9 tyX9_ok nmX9 hown w 0 0 rfl rfl (ci := 13) rfl 7 (by decide) (hts _ (List.mem_of_getElem? (i := 1) rfl)) rfl rfl (ty := .int) (by decide +kernel) rfl rfl (Nat.le_of_ble_eq_true rfl) (moB r (upd F 7 1)) rfl [moB r (upd F 7 1), arB ty (r 1) 215 (sqA 215 S)] rfl dX9_wellIn_27 (fun H locs w => ?_)
      refine lv_aload_n hx hb dX9_wellIn_30 rfl (lv_at hl 0 rfl) ?_
      refine r_get (v' := .int 1) hx hb hts in_X9_wellIn_X9 hown w 0 0 rfl rfl (ci := 13) rfl 7 (by decide) (hts _ (List.mem_of_getElem? (i := 1) rfl)) rfl rfl rfl dX9_wellIn_31 ?_
      refine lv_if_ne (tgt := 46) hx hb dX9_wellIn_34 (by decide) (fun c34 => ?_) (fun c34 => ?_)
      · refine lv_iconst (v := 0) hx hb dX9_wellIn_46 (by decide) ?_
        exact e_i hx hb hr hlocks (w.cast (by rw [ht])) (by rw [gT, ht]; rfl) dX9_wellIn_47 (Nat.le_refl _) (Nat.le_refl _)
      · exact absurd c34 (by decide)
    · have c19 := bI_1.mp c19
      refine lv_iconst (v := 0) hx hb dX9_wellIn_22 (by decide) ?_
      refine lv_goto (tgt := 27) hx hb dX9_wellIn_23 (by decide) ?_
      have ht : t1 (pIn (nI j) 0 100 && pIn d 0 999) = 0 := by simp [t1, c8, c19]
      refine r_put hx hb hts in_X9_wellIn_X9 tyX9 tyX9_ok nmX9 hown w 0 0 rfl rfl (ci := 13) rfl 7 (by decide) (hts _ (List.mem_of_getElem? (i := 1) rfl)) rfl rfl (ty := .int) (by decide +kernel) rfl rfl (Nat.le_of_ble_eq_true rfl) (moB r (upd F 7 0)) rfl [moB r (upd F 7 0), arB ty (r 1) 215 (sqA 215 S)] rfl dX9_wellIn_27 (fun H locs w => ?_)
      refine lv_aload_n hx hb dX9_wellIn_30 rfl (lv_at hl 0 rfl) ?_
      refine r_get (v' := .int 0) hx hb hts in_X9_wellIn_X9 hown w 0 0 rfl rfl (ci := 13) rfl 7 (by decide) (hts _ (List.mem_of_getElem? (i := 1) rfl)) rfl rfl rfl dX9_wellIn_31 ?_
      refine lv_if_ne (tgt := 46) hx hb dX9_wellIn_34 (by decide) (fun c34 => ?_) (fun c34 => ?_)
      · exact absurd c34 (by decide)
      · refine lv_aload_n hx hb dX9_wellIn_37 rfl (lv_at hl 0 rfl) ?_
        refine lv_iload_n hx hb dX9_wellIn_38 rfl (lv_at hl 1 rfl) ?_
        refine lv_iload_n hx hb dX9_wellIn_39 rfl (lv_at hl 2 rfl) ?_
        refine k_iV (As := [.int (nI j), .int d]) (rest := []) (Rs := []) (Bs' := [moB r (upd F 7 0), arB ty (r 1) 215 (sqA 215 S)]) ⟨hx, hb, hml, hown, hts⟩ w (c_X9_wellAfter l D ty r (upd F 7 0) S j (by omega) d) (cwV 2 hts gX9_wellIn_X9_wellAfter rfl rfl rfl ⟨rfl, hdN_X9_wellAfter⟩ ⟨Nat.le_of_ble_eq_true rfl, Nat.le_of_ble_eq_true rfl⟩) [0, 1] (nB := 2) (by decide) rfl rfl rfl rfl 0 rfl rfl (ci := 13) rfl rfl rfl hl.1 rfl (Nat.le_of_ble_eq_true rfl) dX9_wellIn_40 ⟨(Nat.zero_le _), (Nat.zero_le _)⟩ (fun H locs w => ?_)
        refine lv_goto (tgt := 47) hx hb dX9_wellIn_43 (by decide) ?_
        exact e_i hx hb hr hlocks (w.cast (by rw [ht])) (by rw [gT, ht, if_pos rfl, cN_nI (show j < 2 ^ 31 by omega)]) dX9_wellIn_47 (Nat.le_refl _) (Nat.le_refl _)

theorem in_X9_droughtIn_X9 : ∀ w ∈ wsX90, w ∈ wsX9_droughtIn := by decide +kernel
theorem hdN_X9_droughtIn : yX9_droughtIn.cls ≠ "java/lang/invoke/MethodHandle" ∧ yX9_droughtIn.cls ≠ "java/lang/invoke/VarHandle" ∧ (parseMethodDescriptor yX9_droughtIn.desc).map (fun d => d.parameters.length) = some 1 := by decide +kernel
set_option maxRecDepth 100000 in
set_option maxHeartbeats 4000000 in
theorem c_X9_droughtIn (l : Launch) (D : va_G) (ty : Nat → ClassId) (r : Nat → Nat) (F S : pS) (d : Int32)  : Mi l yX9_droughtIn wsX9_droughtIn (kR 2 38 0 0) D (kTY ty) [.ref (r 0), .int d] [moB r F, arB ty (r 1) 215 (sqA 215 S)] [moB r (upd F 7 (tDr S d)), arB ty (r 1) 215 (sqA 215 S)] (gT (tDr S d) (pDrR S d)) 0 0 := by
  refine m_i (cc := cX9_droughtIn) (maxL := 4) (ret := (some .int)) (by decide +kernel) rfl (Nat.le_of_ble_eq_true rfl) ?_
  intro p e s m below meth c A ls hx hb hml hr hlocks hown hts w hl
  have hown : s.vm.findClass RX9 = some m.cls := hown
  have hl : lv_has ls 4 [(0, .ref (r 0)), (1, .int d)] := hl
  refine lv_aload_n hx hb dX9_droughtIn_0 rfl (lv_at hl 0 rfl) ?_
  refine lv_iload_n hx hb dX9_droughtIn_1 rfl (lv_at hl 1 rfl) ?_
  refine lv_iconst (v := 0) hx hb dX9_droughtIn_2 (by decide) ?_
  refine lv_sipush (v := 999) hx hb dX9_droughtIn_3 (by decide) ?_
  refine k_iS (As := [.int d, .int 0, .int 999]) (rest := [.ref (r 0)]) (Rs := [moB r F, arB ty (r 1) 215 (sqA 215 S)]) (Bs' := [moB r F, arB ty (r 1) 215 (sqA 215 S)]) ⟨hx, hb, hml, hown, hts⟩ w (c_X9_isIn l D ty d 0 999) (va_cwS 3 hts gX9_droughtIn_X9_isIn rfl rfl rfl hdN_X9_isIn ⟨Nat.le_of_ble_eq_true rfl, Nat.le_of_ble_eq_true rfl⟩) [0, 1] (nB := 2) (by decide) rfl rfl rfl rfl rfl hl.1 rfl (Nat.le_of_ble_eq_true rfl) dX9_droughtIn_6 ⟨(Nat.zero_le _), (Nat.zero_le _)⟩ (fun H locs w => ?_)
  refine lv_if_eq (tgt := 16) hx hb dX9_droughtIn_9 (by decide) (fun c9 => ?_) (fun c9 => ?_)
  · have c9 := bI_0.mp c9
    refine lv_iconst (v := 1) hx hb dX9_droughtIn_16 (by decide) ?_
    have ht : tDr S d = 1 := by simp [tDr, c9]
    refine r_put hx hb hts in_X9_droughtIn_X9 tyX9 tyX9_ok nmX9 hown w 0 0 rfl rfl (ci := 13) rfl 7 (by decide) (hts _ (List.mem_of_getElem? (i := 1) rfl)) rfl rfl (ty := .int) (by decide +kernel) rfl rfl (Nat.le_of_ble_eq_true rfl) (moB r (upd F 7 1)) rfl [moB r (upd F 7 1), arB ty (r 1) 215 (sqA 215 S)] rfl dX9_droughtIn_17 (fun H locs w => ?_)
    refine lv_aload_n hx hb dX9_droughtIn_20 rfl (lv_at hl 0 rfl) ?_
    refine r_get (v' := .int 1) hx hb hts in_X9_droughtIn_X9 hown w 0 0 rfl rfl (ci := 13) rfl 7 (by decide) (hts _ (List.mem_of_getElem? (i := 1) rfl)) rfl rfl rfl dX9_droughtIn_21 ?_
    refine lv_if_eq (tgt := 29) hx hb dX9_droughtIn_24 (by decide) (fun c24 => ?_) (fun c24 => ?_)
    · exact absurd c24 (by decide)
    · refine lv_iconst (v := 0) hx hb dX9_droughtIn_27 (by decide) ?_
      exact e_i hx hb hr hlocks (w.cast (by rw [ht])) (by rw [gT, ht]; rfl) dX9_droughtIn_28 (Nat.le_refl _) (Nat.le_refl _)
  · have c9 := bI_1.mp c9
    refine lv_iconst (v := 0) hx hb dX9_droughtIn_12 (by decide) ?_
    refine lv_goto (tgt := 17) hx hb dX9_droughtIn_13 (by decide) ?_
    
    refine r_put hx hb hts in_X9_droughtIn_X9 tyX9 tyX9_ok nmX9 hown w 0 0 rfl rfl (ci := 13) rfl 7 (by decide) (hts _ (List.mem_of_getElem? (i := 1) rfl)) rfl rfl (ty := .int) (by decide +kernel) rfl rfl (Nat.le_of_ble_eq_true rfl) (moB r (upd F 7 0)) rfl [moB r (upd F 7 0), arB ty (r 1) 215 (sqA 215 S)] rfl dX9_droughtIn_17 (fun H locs w => ?_)
    refine lv_aload_n hx hb dX9_droughtIn_20 rfl (lv_at hl 0 rfl) ?_
    refine r_get (v' := .int 0) hx hb hts in_X9_droughtIn_X9 hown w 0 0 rfl rfl (ci := 13) rfl 7 (by decide) (hts _ (List.mem_of_getElem? (i := 1) rfl)) rfl rfl rfl dX9_droughtIn_21 ?_
    refine lv_if_eq (tgt := 29) hx hb dX9_droughtIn_24 (by decide) (fun c24 => ?_) (fun c24 => ?_)
    · refine lv_iconst (v := 0) hx hb dX9_droughtIn_29 (by decide) ?_
      refine lv_istore_n (lv' := [(2, .int 0), (0, .ref (r 0)), (1, .int d)]) hx hb dX9_droughtIn_30 rfl hl (by decide) rfl (fun ls hl => ?_)
      refine lv_aload_n hx hb dX9_droughtIn_31 rfl (lv_at hl 1 rfl) ?_
      refine r_get (v' := .ref (r 1)) hx hb hts in_X9_droughtIn_X9 hown w 0 0 rfl rfl (ci := 13) rfl 0 (by decide) (hts _ (List.mem_of_getElem? (i := 2) rfl)) rfl rfl rfl dX9_droughtIn_32 ?_
      refine lv_sipush (v := 207) hx hb dX9_droughtIn_35 (by decide) ?_
      refine r_iald (v := (S 207)) hx hb w 1 0 rfl rfl 0 rfl 207 (by omega) (Nat.le_of_ble_eq_true rfl) rfl (sqA_at (by omega)) dX9_droughtIn_38 ?_
      refine lv_iconst (v := 1) hx hb dX9_droughtIn_39 (by decide) ?_
      refine lv_icmp_ne (tgt := 47) hx hb dX9_droughtIn_40 (by decide) (fun c40 => ?_) (fun c40 => ?_)
      · have hdr : pDrR S d = pDr S d 100 := if_neg c40
        refine lv_iconst (v := 0) hx hb dX9_droughtIn_47 (by decide) ?_
        refine lv_istore_n (lv' := [(3, .int 0), (2, .int 0), (0, .ref (r 0)), (1, .int d)]) hx hb dX9_droughtIn_48 rfl hl (by decide) rfl (fun ls hl => ?_)
        refine k_loop (fun k H locs ls => ∃ (b : Bool), kW D (kTY ty) A s.heap s H locs [moB r (upd F 7 0), arB ty (r 1) 215 (sqA 215 S)] ∧ lv_has ls 4 [(0, .ref (r 0)), (1, .int d), (2, .int (nI k)), (3, .int (bI b))] ∧ (b = true → pDrR S d = nI k) ∧ (b = false → pDrR S d = pDr S d (100 - k))) 100 0 (by omega) ⟨false, w, lv_sub hl [2, 3, 1, 0] rfl, (fun e => absurd e (by decide)), (fun _ => hdr)⟩ ?_
        intro k hk0 hk ihk H locs ls hI
        obtain ⟨b, w, hl, hbt, hbf⟩ := hI
        refine lv_iload_n hx hb dX9_droughtIn_49 rfl (lv_at hl 3 rfl) ?_
        refine lv_if_ne (tgt := 82) hx hb dX9_droughtIn_50 (by decide) (fun c50 => ?_) (fun c50 => ?_)
        · have c50 := bI_1.mp c50
          refine lv_aload_n hx hb dX9_droughtIn_82 rfl (lv_at hl 0 rfl) ?_
          refine lv_iload_n hx hb dX9_droughtIn_83 rfl (lv_at hl 3 rfl) ?_
          refine lv_if_eq (tgt := 91) hx hb dX9_droughtIn_84 (by decide) (fun c84 => ?_) (fun c84 => ?_)
          · have c84 := bI_0.mp c84
            exact absurd c50 (by rw [c84]; decide)
          · have c84 := bI_1.mp c84
            refine lv_iconst (v := 0) hx hb dX9_droughtIn_87 (by decide) ?_
            refine lv_goto (tgt := 92) hx hb dX9_droughtIn_88 (by decide) ?_
            have ht : tDr S d = 0 := by rw [tDr, if_pos c9, if_neg (by rw [hbt c50]; exact nI_nm1 (by omega))]
            refine r_put hx hb hts in_X9_droughtIn_X9 tyX9 tyX9_ok nmX9 hown w 0 0 rfl rfl (ci := 13) rfl 7 (by decide) (hts _ (List.mem_of_getElem? (i := 1) rfl)) rfl rfl (ty := .int) (by decide +kernel) rfl rfl (Nat.le_of_ble_eq_true rfl) (moB r (upd F 7 0)) rfl [moB r (upd F 7 0), arB ty (r 1) 215 (sqA 215 S)] rfl dX9_droughtIn_92 (fun H locs w => ?_)
            refine lv_iload_n hx hb dX9_droughtIn_95 rfl (lv_at hl 3 rfl) ?_
            refine lv_if_eq (tgt := 103) hx hb dX9_droughtIn_96 (by decide) (fun c96 => ?_) (fun c96 => ?_)
            · have c96 := bI_0.mp c96
              exact absurd c50 (by rw [c96]; decide)
            · have c96 := bI_1.mp c96
              refine lv_iload_n hx hb dX9_droughtIn_99 rfl (lv_at hl 2 rfl) ?_
              refine lv_goto (tgt := 104) hx hb dX9_droughtIn_100 (by decide) ?_
              exact e_i hx hb hr hlocks (w.cast (by rw [ht])) (by rw [gT, ht, if_pos rfl, hbt c50]) dX9_droughtIn_104 (Nat.le_refl _) (Nat.le_refl _)
        · have c50 := bI_0.mp c50
          refine lv_iload_n hx hb dX9_droughtIn_53 rfl (lv_at hl 2 rfl) ?_
          refine lv_bipush (v := 100) hx hb dX9_droughtIn_54 (by decide) ?_
          refine lv_icmp_ge (tgt := 82) hx hb dX9_droughtIn_56 (by decide) (fun c56 => ?_) (fun c56 => ?_)
          · have c56 := (nI_leI (a := 100) (b := k) (by omega) (by omega)).mp c56
            obtain rfl : 100 = k := by omega
            refine lv_aload_n hx hb dX9_droughtIn_82 rfl (lv_at hl 0 rfl) ?_
            refine lv_iload_n hx hb dX9_droughtIn_83 rfl (lv_at hl 3 rfl) ?_
            refine lv_if_eq (tgt := 91) hx hb dX9_droughtIn_84 (by decide) (fun c84 => ?_) (fun c84 => ?_)
            · have c84 := bI_0.mp c84
              refine lv_iconst (v := 2) hx hb dX9_droughtIn_91 (by decide) ?_
              have ht : tDr S d = 2 := by rw [tDr, if_pos c9, if_pos (by rw [hbf c50]; rfl)]
              refine r_put hx hb hts in_X9_droughtIn_X9 tyX9 tyX9_ok nmX9 hown w 0 0 rfl rfl (ci := 13) rfl 7 (by decide) (hts _ (List.mem_of_getElem? (i := 1) rfl)) rfl rfl (ty := .int) (by decide +kernel) rfl rfl (Nat.le_of_ble_eq_true rfl) (moB r (upd F 7 2)) rfl [moB r (upd F 7 2), arB ty (r 1) 215 (sqA 215 S)] rfl dX9_droughtIn_92 (fun H locs w => ?_)
              refine lv_iload_n hx hb dX9_droughtIn_95 rfl (lv_at hl 3 rfl) ?_
              refine lv_if_eq (tgt := 103) hx hb dX9_droughtIn_96 (by decide) (fun c96 => ?_) (fun c96 => ?_)
              · have c96 := bI_0.mp c96
                refine lv_iconst (v := 0) hx hb dX9_droughtIn_103 (by decide) ?_
                exact e_i hx hb hr hlocks (w.cast (by rw [ht])) (by rw [gT, ht]; rfl) dX9_droughtIn_104 (Nat.le_refl _) (Nat.le_refl _)
              · have c96 := bI_1.mp c96
                exact absurd c96 (by rw [c50]; decide)
            · have c84 := bI_1.mp c84
              exact absurd c84 (by rw [c50]; decide)
          · have c56 := mt (nI_leI (a := 100) (b := k) (by omega) (by omega)).mpr c56
            refine lv_iinc (v := (nI (k + 1))) (lv' := [(2, .int (nI (k + 1))), (0, .ref (r 0)), (1, .int d), (3, .int (bI b))]) hx hb dX9_droughtIn_59 hl (k := 2) rfl (inc1 k) (by decide) rfl (fun ls hl => ?_)
            refine lv_aload_n hx hb dX9_droughtIn_62 rfl (lv_at hl 1 rfl) ?_
            refine lv_iload_n hx hb dX9_droughtIn_63 rfl (lv_at hl 0 rfl) ?_
            refine lv_iload_n hx hb dX9_droughtIn_64 rfl (lv_at hl 2 rfl) ?_
            refine k_iV (As := [.int (nI (k + 1)), .int d]) (rest := []) (Rs := []) (Bs' := [moB r (upd F 7 0), arB ty (r 1) 215 (sqA 215 S)]) ⟨hx, hb, hml, hown, hts⟩ w (c_X9_wellAfter l D ty r (upd F 7 0) S (k + 1) (by omega) d) (cwV 2 hts gX9_droughtIn_X9_wellAfter rfl rfl rfl ⟨rfl, hdN_X9_wellAfter⟩ ⟨Nat.le_of_ble_eq_true rfl, Nat.le_of_ble_eq_true rfl⟩) [0, 1] (nB := 2) (by decide) rfl rfl rfl rfl 0 rfl rfl (ci := 13) rfl rfl rfl hl.1 rfl (Nat.le_of_ble_eq_true rfl) dX9_droughtIn_65 ⟨(Nat.zero_le _), (Nat.zero_le _)⟩ (fun H locs w => ?_)
            refine lv_bipush (v := 100) hx hb dX9_droughtIn_68 (by decide) ?_
            refine lv_icmp_ge (tgt := 77) hx hb dX9_droughtIn_70 (by decide) (fun c70 => ?_) (fun c70 => ?_)
            · refine lv_iconst (v := 0) hx hb dX9_droughtIn_77 (by decide) ?_
              refine lv_istore_n (lv' := [(3, .int 0), (2, .int (nI (k + 1))), (0, .ref (r 0)), (1, .int d)]) hx hb dX9_droughtIn_78 rfl hl (by decide) rfl (fun ls hl => ?_)
              refine lv_goto (tgt := 49) hx hb dX9_droughtIn_79 (by decide) ?_
              exact ihk _ _ _ ⟨false, w, lv_sub hl [2, 3, 1, 0] rfl, (fun e => absurd e (by decide)), (fun _ => by rw [hbf c50]; exact pDr_no (by omega) (Int32.not_lt.mpr c70))⟩ (by omega)
            · refine lv_iconst (v := 1) hx hb dX9_droughtIn_73 (by decide) ?_
              refine lv_goto (tgt := 78) hx hb dX9_droughtIn_74 (by decide) ?_
              refine lv_istore_n (lv' := [(3, .int 1), (2, .int (nI (k + 1))), (0, .ref (r 0)), (1, .int d)]) hx hb dX9_droughtIn_78 rfl hl (by decide) rfl (fun ls hl => ?_)
              refine lv_goto (tgt := 49) hx hb dX9_droughtIn_79 (by decide) ?_
              exact ihk _ _ _ ⟨true, w, lv_sub hl [2, 3, 1, 0] rfl, (fun _ => by rw [hbf c50]; exact pDr_yes (by omega) (Int32.not_le.mp c70)), (fun e => absurd e (by decide))⟩ (by omega)
      · have hdr : pDrR S d = 0 := if_pos c40
        refine lv_iconst (v := 1) hx hb dX9_droughtIn_43 (by decide) ?_
        refine lv_goto (tgt := 48) hx hb dX9_droughtIn_44 (by decide) ?_
        refine lv_istore_n (lv' := [(3, .int 1), (2, .int 0), (0, .ref (r 0)), (1, .int d)]) hx hb dX9_droughtIn_48 rfl hl (by decide) rfl (fun ls hl => ?_)
        refine k_loop (fun k H locs ls => ∃ (b : Bool), kW D (kTY ty) A s.heap s H locs [moB r (upd F 7 0), arB ty (r 1) 215 (sqA 215 S)] ∧ lv_has ls 4 [(0, .ref (r 0)), (1, .int d), (2, .int (nI k)), (3, .int (bI b))] ∧ (b = true → pDrR S d = nI k) ∧ (b = false → pDrR S d = pDr S d (100 - k))) 100 0 (by omega) ⟨true, w, lv_sub hl [2, 3, 1, 0] rfl, (fun _ => hdr), (fun e => absurd e (by decide))⟩ ?_
        intro k hk0 hk ihk H locs ls hI
        obtain ⟨b, w, hl, hbt, hbf⟩ := hI
        refine lv_iload_n hx hb dX9_droughtIn_49 rfl (lv_at hl 3 rfl) ?_
        refine lv_if_ne (tgt := 82) hx hb dX9_droughtIn_50 (by decide) (fun c50 => ?_) (fun c50 => ?_)
        · have c50 := bI_1.mp c50
          refine lv_aload_n hx hb dX9_droughtIn_82 rfl (lv_at hl 0 rfl) ?_
          refine lv_iload_n hx hb dX9_droughtIn_83 rfl (lv_at hl 3 rfl) ?_
          refine lv_if_eq (tgt := 91) hx hb dX9_droughtIn_84 (by decide) (fun c84 => ?_) (fun c84 => ?_)
          · have c84 := bI_0.mp c84
            exact absurd c50 (by rw [c84]; decide)
          · have c84 := bI_1.mp c84
            refine lv_iconst (v := 0) hx hb dX9_droughtIn_87 (by decide) ?_
            refine lv_goto (tgt := 92) hx hb dX9_droughtIn_88 (by decide) ?_
            have ht : tDr S d = 0 := by rw [tDr, if_pos c9, if_neg (by rw [hbt c50]; exact nI_nm1 (by omega))]
            refine r_put hx hb hts in_X9_droughtIn_X9 tyX9 tyX9_ok nmX9 hown w 0 0 rfl rfl (ci := 13) rfl 7 (by decide) (hts _ (List.mem_of_getElem? (i := 1) rfl)) rfl rfl (ty := .int) (by decide +kernel) rfl rfl (Nat.le_of_ble_eq_true rfl) (moB r (upd F 7 0)) rfl [moB r (upd F 7 0), arB ty (r 1) 215 (sqA 215 S)] rfl dX9_droughtIn_92 (fun H locs w => ?_)
            refine lv_iload_n hx hb dX9_droughtIn_95 rfl (lv_at hl 3 rfl) ?_
            refine lv_if_eq (tgt := 103) hx hb dX9_droughtIn_96 (by decide) (fun c96 => ?_) (fun c96 => ?_)
            · have c96 := bI_0.mp c96
              exact absurd c50 (by rw [c96]; decide)
            · have c96 := bI_1.mp c96
              refine lv_iload_n hx hb dX9_droughtIn_99 rfl (lv_at hl 2 rfl) ?_
              refine lv_goto (tgt := 104) hx hb dX9_droughtIn_100 (by decide) ?_
              exact e_i hx hb hr hlocks (w.cast (by rw [ht])) (by rw [gT, ht, if_pos rfl, hbt c50]) dX9_droughtIn_104 (Nat.le_refl _) (Nat.le_refl _)
        · have c50 := bI_0.mp c50
          refine lv_iload_n hx hb dX9_droughtIn_53 rfl (lv_at hl 2 rfl) ?_
          refine lv_bipush (v := 100) hx hb dX9_droughtIn_54 (by decide) ?_
          refine lv_icmp_ge (tgt := 82) hx hb dX9_droughtIn_56 (by decide) (fun c56 => ?_) (fun c56 => ?_)
          · have c56 := (nI_leI (a := 100) (b := k) (by omega) (by omega)).mp c56
            obtain rfl : 100 = k := by omega
            refine lv_aload_n hx hb dX9_droughtIn_82 rfl (lv_at hl 0 rfl) ?_
            refine lv_iload_n hx hb dX9_droughtIn_83 rfl (lv_at hl 3 rfl) ?_
            refine lv_if_eq (tgt := 91) hx hb dX9_droughtIn_84 (by decide) (fun c84 => ?_) (fun c84 => ?_)
            · have c84 := bI_0.mp c84
              refine lv_iconst (v := 2) hx hb dX9_droughtIn_91 (by decide) ?_
              have ht : tDr S d = 2 := by rw [tDr, if_pos c9, if_pos (by rw [hbf c50]; rfl)]
              refine r_put hx hb hts in_X9_droughtIn_X9 tyX9 tyX9_ok nmX9 hown w 0 0 rfl rfl (ci := 13) rfl 7 (by decide) (hts _ (List.mem_of_getElem? (i := 1) rfl)) rfl rfl (ty := .int) (by decide +kernel) rfl rfl (Nat.le_of_ble_eq_true rfl) (moB r (upd F 7 2)) rfl [moB r (upd F 7 2), arB ty (r 1) 215 (sqA 215 S)] rfl dX9_droughtIn_92 (fun H locs w => ?_)
              refine lv_iload_n hx hb dX9_droughtIn_95 rfl (lv_at hl 3 rfl) ?_
              refine lv_if_eq (tgt := 103) hx hb dX9_droughtIn_96 (by decide) (fun c96 => ?_) (fun c96 => ?_)
              · have c96 := bI_0.mp c96
                refine lv_iconst (v := 0) hx hb dX9_droughtIn_103 (by decide) ?_
                exact e_i hx hb hr hlocks (w.cast (by rw [ht])) (by rw [gT, ht]; rfl) dX9_droughtIn_104 (Nat.le_refl _) (Nat.le_refl _)
              · have c96 := bI_1.mp c96
                exact absurd c96 (by rw [c50]; decide)
            · have c84 := bI_1.mp c84
              exact absurd c84 (by rw [c50]; decide)
          · have c56 := mt (nI_leI (a := 100) (b := k) (by omega) (by omega)).mpr c56
            refine lv_iinc (v := (nI (k + 1))) (lv' := [(2, .int (nI (k + 1))), (0, .ref (r 0)), (1, .int d), (3, .int (bI b))]) hx hb dX9_droughtIn_59 hl (k := 2) rfl (inc1 k) (by decide) rfl (fun ls hl => ?_)
            refine lv_aload_n hx hb dX9_droughtIn_62 rfl (lv_at hl 1 rfl) ?_
            refine lv_iload_n hx hb dX9_droughtIn_63 rfl (lv_at hl 0 rfl) ?_
            refine lv_iload_n hx hb dX9_droughtIn_64 rfl (lv_at hl 2 rfl) ?_
            refine k_iV (As := [.int (nI (k + 1)), .int d]) (rest := []) (Rs := []) (Bs' := [moB r (upd F 7 0), arB ty (r 1) 215 (sqA 215 S)]) ⟨hx, hb, hml, hown, hts⟩ w (c_X9_wellAfter l D ty r (upd F 7 0) S (k + 1) (by omega) d) (cwV 2 hts gX9_droughtIn_X9_wellAfter rfl rfl rfl ⟨rfl, hdN_X9_wellAfter⟩ ⟨Nat.le_of_ble_eq_true rfl, Nat.le_of_ble_eq_true rfl⟩) [0, 1] (nB := 2) (by decide) rfl rfl rfl rfl 0 rfl rfl (ci := 13) rfl rfl rfl hl.1 rfl (Nat.le_of_ble_eq_true rfl) dX9_droughtIn_65 ⟨(Nat.zero_le _), (Nat.zero_le _)⟩ (fun H locs w => ?_)
            refine lv_bipush (v := 100) hx hb dX9_droughtIn_68 (by decide) ?_
            refine lv_icmp_ge (tgt := 77) hx hb dX9_droughtIn_70 (by decide) (fun c70 => ?_) (fun c70 => ?_)
            · refine lv_iconst (v := 0) hx hb dX9_droughtIn_77 (by decide) ?_
              refine lv_istore_n (lv' := [(3, .int 0), (2, .int (nI (k + 1))), (0, .ref (r 0)), (1, .int d)]) hx hb dX9_droughtIn_78 rfl hl (by decide) rfl (fun ls hl => ?_)
              refine lv_goto (tgt := 49) hx hb dX9_droughtIn_79 (by decide) ?_
              exact ihk _ _ _ ⟨false, w, lv_sub hl [2, 3, 1, 0] rfl, (fun e => absurd e (by decide)), (fun _ => by rw [hbf c50]; exact pDr_no (by omega) (Int32.not_lt.mpr c70))⟩ (by omega)
            · refine lv_iconst (v := 1) hx hb dX9_droughtIn_73 (by decide) ?_
              refine lv_goto (tgt := 78) hx hb dX9_droughtIn_74 (by decide) ?_
              refine lv_istore_n (lv' := [(3, .int 1), (2, .int (nI (k + 1))), (0, .ref (r 0)), (1, .int d)]) hx hb dX9_droughtIn_78 rfl hl (by decide) rfl (fun ls hl => ?_)
              refine lv_goto (tgt := 49) hx hb dX9_droughtIn_79 (by decide) ?_
              exact ihk _ _ _ ⟨true, w, lv_sub hl [2, 3, 1, 0] rfl, (fun _ => by rw [hbf c50]; exact pDr_yes (by omega) (Int32.not_le.mp c70)), (fun e => absurd e (by decide))⟩ (by omega)
    · exact absurd c24 (by decide)

theorem in_X9_water_X9 : ∀ w ∈ wsX90, w ∈ wsX9_water := by decide +kernel
theorem hdN_X9_water : yX9_water.cls ≠ "java/lang/invoke/MethodHandle" ∧ yX9_water.cls ≠ "java/lang/invoke/VarHandle" ∧ (parseMethodDescriptor yX9_water.desc).map (fun d => d.parameters.length) = some 0 := by decide +kernel
set_option maxRecDepth 100000 in
set_option maxHeartbeats 4000000 in
theorem c_X9_water (l : Launch) (D : va_G) (ty : Nat → ClassId) (r : Nat → Nat) (F S : pS)  : Mi l yX9_water wsX9_water (kR 0 0 0 0) D (kTY ty) [.ref (r 0)] [moB r F, arB ty (r 1) 215 (sqA 215 S)] [moB r (upd F 7 0), arB ty (r 1) 215 (sqA 215 S)] (S 204 + S 210 + S 211) 0 0 := by
  refine m_i (cc := cX9_water) (maxL := 1) (ret := (some .int)) (by decide +kernel) rfl (Nat.le_of_ble_eq_true rfl) ?_
  intro p e s m below meth c A ls hx hb hml hr hlocks hown hts w hl
  have hown : s.vm.findClass RX9 = some m.cls := hown
  have hl : lv_has ls 1 [(0, .ref (r 0))] := hl
  refine lv_aload_n hx hb dX9_water_0 rfl (lv_at hl 0 rfl) ?_
  refine lv_iconst (v := 0) hx hb dX9_water_1 (by decide) ?_
  refine r_put hx hb hts in_X9_water_X9 tyX9 tyX9_ok nmX9 hown w 0 0 rfl rfl (ci := 13) rfl 7 (by decide) (hts _ (List.mem_of_getElem? (i := 1) rfl)) rfl rfl (ty := .int) (by decide +kernel) rfl rfl (Nat.le_of_ble_eq_true rfl) (moB r (upd F 7 0)) rfl [moB r (upd F 7 0), arB ty (r 1) 215 (sqA 215 S)] rfl dX9_water_2 (fun H locs w => ?_)
  refine lv_aload_n hx hb dX9_water_5 rfl (lv_at hl 0 rfl) ?_
  refine r_get (v' := .ref (r 1)) hx hb hts in_X9_water_X9 hown w 0 0 rfl rfl (ci := 13) rfl 0 (by decide) (hts _ (List.mem_of_getElem? (i := 2) rfl)) rfl rfl rfl dX9_water_6 ?_
  refine lv_sipush (v := 204) hx hb dX9_water_9 (by decide) ?_
  refine r_iald (v := (S 204)) hx hb w 1 0 rfl rfl 0 rfl 204 (by omega) (Nat.le_of_ble_eq_true rfl) rfl (sqA_at (by omega)) dX9_water_12 ?_
  refine lv_aload_n hx hb dX9_water_13 rfl (lv_at hl 0 rfl) ?_
  refine r_get (v' := .ref (r 1)) hx hb hts in_X9_water_X9 hown w 0 0 rfl rfl (ci := 13) rfl 0 (by decide) (hts _ (List.mem_of_getElem? (i := 2) rfl)) rfl rfl rfl dX9_water_14 ?_
  refine lv_sipush (v := 210) hx hb dX9_water_17 (by decide) ?_
  refine r_iald (v := (S 210)) hx hb w 1 0 rfl rfl 0 rfl 210 (by omega) (Nat.le_of_ble_eq_true rfl) rfl (sqA_at (by omega)) dX9_water_20 ?_
  refine lv_iadd hx hb dX9_water_21 ?_
  refine lv_aload_n hx hb dX9_water_22 rfl (lv_at hl 0 rfl) ?_
  refine r_get (v' := .ref (r 1)) hx hb hts in_X9_water_X9 hown w 0 0 rfl rfl (ci := 13) rfl 0 (by decide) (hts _ (List.mem_of_getElem? (i := 2) rfl)) rfl rfl rfl dX9_water_23 ?_
  refine lv_sipush (v := 211) hx hb dX9_water_26 (by decide) ?_
  refine r_iald (v := (S 211)) hx hb w 1 0 rfl rfl 0 rfl 211 (by omega) (Nat.le_of_ble_eq_true rfl) rfl (sqA_at (by omega)) dX9_water_29 ?_
  refine lv_iadd hx hb dX9_water_30 ?_
  exact e_i hx hb hr hlocks w rfl dX9_water_31 (Nat.le_refl _) (Nat.le_refl _)

theorem in_X9_waterAgain_X9 : ∀ w ∈ wsX90, w ∈ wsX9_waterAgain := by decide +kernel
theorem hdN_X9_waterAgain : yX9_waterAgain.cls ≠ "java/lang/invoke/MethodHandle" ∧ yX9_waterAgain.cls ≠ "java/lang/invoke/VarHandle" ∧ (parseMethodDescriptor yX9_waterAgain.desc).map (fun d => d.parameters.length) = some 0 := by decide +kernel
set_option maxRecDepth 100000 in
set_option maxHeartbeats 4000000 in
theorem c_X9_waterAgain (l : Launch) (D : va_G) (ty : Nat → ClassId) (r : Nat → Nat) (F S : pS)  : Mi l yX9_waterAgain wsX9_waterAgain (kR 0 0 0 0) D (kTY ty) [.ref (r 0)] [moB r F, arB ty (r 1) 215 (sqA 215 S)] [moB r (upd F 7 0), arB ty (r 1) 215 (sqA 215 S)] (500 + S 214) 0 0 := by
  refine m_i (cc := cX9_waterAgain) (maxL := 1) (ret := (some .int)) (by decide +kernel) rfl (Nat.le_of_ble_eq_true rfl) ?_
  intro p e s m below meth c A ls hx hb hml hr hlocks hown hts w hl
  have hown : s.vm.findClass RX9 = some m.cls := hown
  have hl : lv_has ls 1 [(0, .ref (r 0))] := hl
  refine lv_aload_n hx hb dX9_waterAgain_0 rfl (lv_at hl 0 rfl) ?_
  refine lv_iconst (v := 0) hx hb dX9_waterAgain_1 (by decide) ?_
  refine r_put hx hb hts in_X9_waterAgain_X9 tyX9 tyX9_ok nmX9 hown w 0 0 rfl rfl (ci := 13) rfl 7 (by decide) (hts _ (List.mem_of_getElem? (i := 1) rfl)) rfl rfl (ty := .int) (by decide +kernel) rfl rfl (Nat.le_of_ble_eq_true rfl) (moB r (upd F 7 0)) rfl [moB r (upd F 7 0), arB ty (r 1) 215 (sqA 215 S)] rfl dX9_waterAgain_2 (fun H locs w => ?_)
  refine lv_sipush (v := 500) hx hb dX9_waterAgain_5 (by decide) ?_
  refine lv_aload_n hx hb dX9_waterAgain_8 rfl (lv_at hl 0 rfl) ?_
  refine r_get (v' := .ref (r 1)) hx hb hts in_X9_waterAgain_X9 hown w 0 0 rfl rfl (ci := 13) rfl 0 (by decide) (hts _ (List.mem_of_getElem? (i := 2) rfl)) rfl rfl rfl dX9_waterAgain_9 ?_
  refine lv_sipush (v := 214) hx hb dX9_waterAgain_12 (by decide) ?_
  refine r_iald (v := (S 214)) hx hb w 1 0 rfl rfl 0 rfl 214 (by omega) (Nat.le_of_ble_eq_true rfl) rfl (sqA_at (by omega)) dX9_waterAgain_15 ?_
  refine lv_iadd hx hb dX9_waterAgain_16 ?_
  exact e_i hx hb hr hlocks w rfl dX9_waterAgain_17 (Nat.le_refl _) (Nat.le_refl _)
