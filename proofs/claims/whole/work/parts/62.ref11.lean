theorem in_X9_meanTemper_X9 : ∀ w ∈ wsX90, w ∈ wsX9_meanTemper := by decide +kernel
theorem hdN_X9_meanTemper : yX9_meanTemper.cls ≠ "java/lang/invoke/MethodHandle" ∧ yX9_meanTemper.cls ≠ "java/lang/invoke/VarHandle" ∧ (parseMethodDescriptor yX9_meanTemper.desc).map (fun d => d.parameters.length) = some 0 := by decide +kernel
set_option maxRecDepth 100000 in
set_option maxHeartbeats 4000000 in
theorem c_X9_meanTemper (l : Launch) (D : va_G) (ty : Nat → ClassId) (r : Nat → Nat) (F S : pS) (n : Nat) (h0 : S 0 = nI n) (hn : n ≤ 8)  : Mf l yX9_meanTemper wsX9_meanTemper (kR 1 22 0 0) D (kTY ty) [.ref (r 0)] [moB r F, arB ty (r 1) 215 (sqA 215 S)] [moB r (upd F 7 (tMean n)), arB ty (r 1) 215 (sqA 215 S)] (vMean S n) 0 0 := by
  refine m_f (cc := cX9_meanTemper) (maxL := 3) (ret := (some .float)) (by decide +kernel) rfl (Nat.le_of_ble_eq_true rfl) ?_
  intro p e s m below meth c A ls hx hb hml hr hlocks hown hts w hl
  have hown : s.vm.findClass RX9 = some m.cls := hown
  have hl : lv_has ls 3 [(0, .ref (r 0))] := hl
  refine lv_iconst (v := 0) hx hb dX9_meanTemper_0 (by decide) ?_
  refine lv_istore_n (lv' := [(1, .int 0), (0, .ref (r 0))]) hx hb dX9_meanTemper_1 rfl hl (by decide) rfl (fun ls hl => ?_)
  refine lv_iconst (v := 0) hx hb dX9_meanTemper_2 (by decide) ?_
  refine lv_istore_n (lv' := [(2, .int 0), (1, .int 0), (0, .ref (r 0))]) hx hb dX9_meanTemper_3 rfl hl (by decide) rfl (fun ls hl => ?_)
  refine k_loop (fun k H locs ls => kW D (kTY ty) A s.heap s H locs [moB r F, arB ty (r 1) 215 (sqA 215 S)] ∧ lv_has ls 3 [(0, .ref (r 0)), (1, .int (pTemp S k)), (2, .int (nI k))]) n 0 (by omega) ⟨w, lv_sub hl [2, 1, 0] rfl⟩ ?_
  intro k hk0 hk ihk H locs ls hI
  obtain ⟨w, hl⟩ := hI
  refine lv_iload_n hx hb dX9_meanTemper_4 rfl (lv_at hl 2 rfl) ?_
  refine lv_aload_n hx hb dX9_meanTemper_5 rfl (lv_at hl 0 rfl) ?_
  refine r_get (v' := .ref (r 1)) hx hb hts in_X9_meanTemper_X9 hown w 0 0 rfl rfl (ci := 13) rfl 0 (by decide) (hts _ (List.mem_of_getElem? (i := 1) rfl)) rfl rfl rfl dX9_meanTemper_6 ?_
  refine lv_iconst (v := 0) hx hb dX9_meanTemper_9 (by decide) ?_
  refine r_iald (v := (S 0)) hx hb w 1 0 rfl rfl 0 rfl 0 (by omega) (Nat.le_of_ble_eq_true rfl) rfl (sqA_at (by omega)) dX9_meanTemper_10 ?_
  refine r_eq (y := (nI n)) h0 ?_
  refine lv_icmp_ge (tgt := 29) hx hb dX9_meanTemper_11 (by decide) (fun c11 => ?_) (fun c11 => ?_)
  · have c11 := (nI_leI (a := n) (b := k) (by omega) (by omega)).mp c11
    obtain rfl : n = k := by omega
    refine lv_aload_n hx hb dX9_meanTemper_29 rfl (lv_at hl 0 rfl) ?_
    refine lv_aload_n hx hb dX9_meanTemper_30 rfl (lv_at hl 0 rfl) ?_
    refine r_get (v' := .ref (r 1)) hx hb hts in_X9_meanTemper_X9 hown w 0 0 rfl rfl (ci := 13) rfl 0 (by decide) (hts _ (List.mem_of_getElem? (i := 1) rfl)) rfl rfl rfl dX9_meanTemper_31 ?_
    refine lv_iconst (v := 0) hx hb dX9_meanTemper_34 (by decide) ?_
    refine r_iald (v := (S 0)) hx hb w 1 0 rfl rfl 0 rfl 0 (by omega) (Nat.le_of_ble_eq_true rfl) rfl (sqA_at (by omega)) dX9_meanTemper_35 ?_
    refine r_eq (y := (nI n)) h0 ?_
    refine lv_if_ne (tgt := 43) hx hb dX9_meanTemper_36 (by decide) (fun c36 => ?_) (fun c36 => ?_)
    · have hn0 : ¬ n = 0 := fun q => c36 (by rw [q]; rfl)
      refine lv_iconst (v := 0) hx hb dX9_meanTemper_43 (by decide) ?_
      refine r_put hx hb hts in_X9_meanTemper_X9 tyX9 tyX9_ok nmX9 hown w 0 0 rfl rfl (ci := 13) rfl 7 (by decide) (hts _ (List.mem_of_getElem? (i := 2) rfl)) rfl rfl (ty := .int) (by decide +kernel) rfl rfl (Nat.le_of_ble_eq_true rfl) (moB r (upd F 7 0)) rfl [moB r (upd F 7 0), arB ty (r 1) 215 (sqA 215 S)] rfl dX9_meanTemper_44 (fun H locs w => ?_)
      refine lv_aload_n hx hb dX9_meanTemper_47 rfl (lv_at hl 0 rfl) ?_
      refine r_get (v' := .int 0) hx hb hts in_X9_meanTemper_X9 hown w 0 0 rfl rfl (ci := 13) rfl 7 (by decide) (hts _ (List.mem_of_getElem? (i := 2) rfl)) rfl rfl rfl dX9_meanTemper_48 ?_
      refine lv_if_ne (tgt := 67) hx hb dX9_meanTemper_51 (by decide) (fun c51 => ?_) (fun c51 => ?_)
      · exact absurd c51 (by decide)
      · refine lv_iload_n hx hb dX9_meanTemper_54 rfl (lv_at hl 1 rfl) ?_
        refine lv_i2f hx hb dX9_meanTemper_55 ?_
        refine lv_aload_n hx hb dX9_meanTemper_56 rfl (lv_at hl 0 rfl) ?_
        refine r_get (v' := .ref (r 1)) hx hb hts in_X9_meanTemper_X9 hown w 0 0 rfl rfl (ci := 13) rfl 0 (by decide) (hts _ (List.mem_of_getElem? (i := 1) rfl)) rfl rfl rfl dX9_meanTemper_57 ?_
        refine lv_iconst (v := 0) hx hb dX9_meanTemper_60 (by decide) ?_
        refine r_iald (v := (S 0)) hx hb w 1 0 rfl rfl 0 rfl 0 (by omega) (Nat.le_of_ble_eq_true rfl) rfl (sqA_at (by omega)) dX9_meanTemper_61 ?_
        refine r_eq (y := (nI n)) h0 ?_
        refine lv_i2f hx hb dX9_meanTemper_62 ?_
        refine lv_fdiv hx hb dX9_meanTemper_63 (fl_f c36) ?_
        refine lv_goto (tgt := 68) hx hb dX9_meanTemper_64 (by decide) ?_
        exact e_f hx hb hr hlocks (w.cast (by rw [tMean, if_neg hn0])) (by rw [vMean, if_neg hn0]) dX9_meanTemper_68 (Nat.le_refl _) (Nat.le_refl _)
    · have hn0 : n = 0 := by
        rcases Nat.eq_zero_or_pos n with q | q
        · exact q
        · exact absurd c36 (nI_ne0 q (by omega))
      refine lv_iconst (v := 1) hx hb dX9_meanTemper_39 (by decide) ?_
      refine lv_goto (tgt := 44) hx hb dX9_meanTemper_40 (by decide) ?_
      refine r_put hx hb hts in_X9_meanTemper_X9 tyX9 tyX9_ok nmX9 hown w 0 0 rfl rfl (ci := 13) rfl 7 (by decide) (hts _ (List.mem_of_getElem? (i := 2) rfl)) rfl rfl (ty := .int) (by decide +kernel) rfl rfl (Nat.le_of_ble_eq_true rfl) (moB r (upd F 7 1)) rfl [moB r (upd F 7 1), arB ty (r 1) 215 (sqA 215 S)] rfl dX9_meanTemper_44 (fun H locs w => ?_)
      refine lv_aload_n hx hb dX9_meanTemper_47 rfl (lv_at hl 0 rfl) ?_
      refine r_get (v' := .int 1) hx hb hts in_X9_meanTemper_X9 hown w 0 0 rfl rfl (ci := 13) rfl 7 (by decide) (hts _ (List.mem_of_getElem? (i := 2) rfl)) rfl rfl rfl dX9_meanTemper_48 ?_
      refine lv_if_ne (tgt := 67) hx hb dX9_meanTemper_51 (by decide) (fun c51 => ?_) (fun c51 => ?_)
      · refine lv_fconst0 hx hb dX9_meanTemper_67 ?_
        exact e_f hx hb hr hlocks (w.cast (by rw [tMean, if_pos hn0])) (by rw [vMean, if_pos hn0]) dX9_meanTemper_68 (Nat.le_refl _) (Nat.le_refl _)
      · exact absurd c51 (by decide)
  · have c11 := mt (nI_leI (a := n) (b := k) (by omega) (by omega)).mpr c11
    refine lv_iload_n hx hb dX9_meanTemper_14 rfl (lv_at hl 1 rfl) ?_
    refine lv_aload_n hx hb dX9_meanTemper_15 rfl (lv_at hl 0 rfl) ?_
    refine lv_iload_n hx hb dX9_meanTemper_16 rfl (lv_at hl 2 rfl) ?_
    refine lv_iconst (v := 2) hx hb dX9_meanTemper_17 (by decide) ?_
    refine k_iV (As := [.int (nI k), .int 2]) (rest := [.int (pTemp S k)]) (Rs := []) (Bs' := [moB r F, arB ty (r 1) 215 (sqA 215 S)]) ⟨hx, hb, hml, hown, hts⟩ w (c_X9_of l D ty r F S k 2 (by omega)) (cwV 2 hts gX9_meanTemper_X9_of rfl rfl rfl ⟨rfl, hdN_X9_of⟩ ⟨Nat.le_of_ble_eq_true rfl, Nat.le_of_ble_eq_true rfl⟩) [0, 1] (nB := 2) (by decide) rfl rfl rfl rfl 0 rfl rfl (ci := 13) rfl rfl rfl hl.1 rfl (Nat.le_of_ble_eq_true rfl) dX9_meanTemper_18 ⟨(Nat.zero_le _), (Nat.zero_le _)⟩ (fun H locs w => ?_)
    refine lv_iadd hx hb dX9_meanTemper_21 ?_
    refine r_eq (y := (pTemp S (k + 1))) rfl ?_
    refine lv_istore_n (lv' := [(1, .int (pTemp S (k + 1))), (0, .ref (r 0)), (2, .int (nI k))]) hx hb dX9_meanTemper_22 rfl hl (by decide) rfl (fun ls hl => ?_)
    refine lv_iinc (v := (nI (k + 1))) (lv' := [(2, .int (nI (k + 1))), (1, .int (pTemp S (k + 1))), (0, .ref (r 0))]) hx hb dX9_meanTemper_23 hl (k := 2) rfl (inc1 k) (by decide) rfl (fun ls hl => ?_)
    refine lv_goto (tgt := 4) hx hb dX9_meanTemper_26 (by decide) ?_
    exact ihk _ _ _ ⟨w, lv_sub hl [2, 1, 0] rfl⟩ (by omega)

theorem in_X9_share_X9 : ∀ w ∈ wsX90, w ∈ wsX9_share := by decide +kernel
theorem hdN_X9_share : yX9_share.cls ≠ "java/lang/invoke/MethodHandle" ∧ yX9_share.cls ≠ "java/lang/invoke/VarHandle" ∧ (parseMethodDescriptor yX9_share.desc).map (fun d => d.parameters.length) = some 1 := by decide +kernel
set_option maxRecDepth 100000 in
set_option maxHeartbeats 4000000 in
theorem c_X9_share (l : Launch) (D : va_G) (ty : Nat → ClassId) (r : Nat → Nat) (F S : pS) (n : Nat) (h0 : S 0 = nI n) (hn : n ≤ 8) (v : Int32)  : Md l yX9_share wsX9_share (kR 2 43 0 0) D (kTY ty) [.ref (r 0), .int v] [moB r F, arB ty (r 1) 215 (sqA 215 S)] [moB r (upd F 7 (tShare S n v)), arB ty (r 1) 215 (sqA 215 S)] (if tShare S n v = 0 then vShare S v else FP.dconst0) 0 0 := by
  refine m_d (cc := cX9_share) (maxL := 2) (ret := (some .double)) (by decide +kernel) rfl (Nat.le_of_ble_eq_true rfl) ?_
  intro p e s m below meth c A ls hx hb hml hr hlocks hown hts w hl
  have hown : s.vm.findClass RX9 = some m.cls := hown
  have hl : lv_has ls 2 [(0, .ref (r 0)), (1, .int v)] := hl
  refine lv_aload_n hx hb dX9_share_0 rfl (lv_at hl 0 rfl) ?_
  refine lv_aload_n hx hb dX9_share_1 rfl (lv_at hl 0 rfl) ?_
  refine lv_iload_n hx hb dX9_share_2 rfl (lv_at hl 1 rfl) ?_
  refine k_iV (As := [.int v]) (rest := [.ref (r 0)]) (Rs := []) (Bs' := [moB r F, arB ty (r 1) 215 (sqA 215 S)]) ⟨hx, hb, hml, hown, hts⟩ w (c_X9_isHousehold l D ty r F S n h0 hn v) (cwV 1 hts gX9_share_X9_isHousehold rfl rfl rfl ⟨rfl, hdN_X9_isHousehold⟩ ⟨Nat.le_of_ble_eq_true rfl, Nat.le_of_ble_eq_true rfl⟩) [0, 1] (nB := 2) (by decide) rfl rfl rfl rfl 0 rfl rfl (ci := 13) rfl rfl rfl hl.1 rfl (Nat.le_of_ble_eq_true rfl) dX9_share_3 ⟨(Nat.zero_le _), (Nat.zero_le _)⟩ (fun H locs w => ?_)
  refine lv_if_ne (tgt := 13) hx hb dX9_share_6 (by decide) (fun c6 => ?_) (fun c6 => ?_)
  · have c6 := bI_1.mp c6
    obtain ⟨i, ggi, rfl⟩ := (pHas_iff (by omega)).mp c6
    refine lv_aload_n hx hb dX9_share_13 rfl (lv_at hl 0 rfl) ?_
    refine r_get (v' := .ref (r 1)) hx hb hts in_X9_share_X9 hown w 0 0 rfl rfl (ci := 13) rfl 0 (by decide) (hts _ (List.mem_of_getElem? (i := 1) rfl)) rfl rfl rfl dX9_share_14 ?_
    refine lv_sipush (v := 210) hx hb dX9_share_17 (by decide) ?_
    refine r_iald (v := (S 210)) hx hb w 1 0 rfl rfl 0 rfl 210 (by omega) (Nat.le_of_ble_eq_true rfl) rfl (sqA_at (by omega)) dX9_share_20 ?_
    refine lv_if_ne (tgt := 28) hx hb dX9_share_21 (by decide) (fun c21 => ?_) (fun c21 => ?_)
    · refine lv_iconst (v := 0) hx hb dX9_share_28 (by decide) ?_
      have ht : tShare S n (nI i) = 0 := by rw [tShare, if_pos c6, if_neg c21]
      refine r_put hx hb hts in_X9_share_X9 tyX9 tyX9_ok nmX9 hown w 0 0 rfl rfl (ci := 13) rfl 7 (by decide) (hts _ (List.mem_of_getElem? (i := 2) rfl)) rfl rfl (ty := .int) (by decide +kernel) rfl rfl (Nat.le_of_ble_eq_true rfl) (moB r (upd F 7 0)) rfl [moB r (upd F 7 0), arB ty (r 1) 215 (sqA 215 S)] rfl dX9_share_29 (fun H locs w => ?_)
      refine lv_aload_n hx hb dX9_share_32 rfl (lv_at hl 0 rfl) ?_
      refine r_get (v' := .int 0) hx hb hts in_X9_share_X9 hown w 0 0 rfl rfl (ci := 13) rfl 7 (by decide) (hts _ (List.mem_of_getElem? (i := 2) rfl)) rfl rfl rfl dX9_share_33 ?_
      refine lv_if_ne (tgt := 59) hx hb dX9_share_36 (by decide) (fun c36 => ?_) (fun c36 => ?_)
      · exact absurd c36 (by decide)
      · refine lv_aload_n hx hb dX9_share_39 rfl (lv_at hl 0 rfl) ?_
        refine lv_iload_n hx hb dX9_share_40 rfl (lv_at hl 1 rfl) ?_
        refine lv_iconst (v := 5) hx hb dX9_share_41 (by decide) ?_
        refine k_iV (As := [.int (nI i), .int 5]) (rest := []) (Rs := []) (Bs' := [moB r (upd F 7 0), arB ty (r 1) 215 (sqA 215 S)]) ⟨hx, hb, hml, hown, hts⟩ w (c_X9_of l D ty r (upd F 7 0) S i 5 (by omega)) (cwV 2 hts gX9_share_X9_of rfl rfl rfl ⟨rfl, hdN_X9_of⟩ ⟨Nat.le_of_ble_eq_true rfl, Nat.le_of_ble_eq_true rfl⟩) [0, 1] (nB := 2) (by decide) rfl rfl rfl rfl 0 rfl rfl (ci := 13) rfl rfl rfl hl.1 rfl (Nat.le_of_ble_eq_true rfl) dX9_share_42 ⟨(Nat.zero_le _), (Nat.zero_le _)⟩ (fun H locs w => ?_)
        refine lv_i2d hx hb dX9_share_45 ?_
        refine lv_aload_n hx hb dX9_share_46 rfl (lv_at hl 0 rfl) ?_
        refine r_get (v' := .ref (r 1)) hx hb hts in_X9_share_X9 hown w 0 0 rfl rfl (ci := 13) rfl 0 (by decide) (hts _ (List.mem_of_getElem? (i := 1) rfl)) rfl rfl rfl dX9_share_47 ?_
        refine lv_sipush (v := 210) hx hb dX9_share_50 (by decide) ?_
        refine r_iald (v := (S 210)) hx hb w 1 0 rfl rfl 0 rfl 210 (by omega) (Nat.le_of_ble_eq_true rfl) rfl (sqA_at (by omega)) dX9_share_53 ?_
        refine lv_i2d hx hb dX9_share_54 ?_
        refine lv_ddiv hx hb dX9_share_55 (fl_d c21) ?_
        refine lv_goto (tgt := 60) hx hb dX9_share_56 (by decide) ?_
        exact e_d hx hb hr hlocks (w.cast (by rw [ht])) (by rw [if_pos ht, vShare, cN_nI (show i < 2 ^ 31 by omega)]) dX9_share_60 (Nat.le_refl _) (Nat.le_refl _)
    · refine lv_iconst (v := 2) hx hb dX9_share_24 (by decide) ?_
      refine lv_goto (tgt := 29) hx hb dX9_share_25 (by decide) ?_
      have ht : tShare S n (nI i) = 2 := by rw [tShare, if_pos c6, if_pos c21]
      refine r_put hx hb hts in_X9_share_X9 tyX9 tyX9_ok nmX9 hown w 0 0 rfl rfl (ci := 13) rfl 7 (by decide) (hts _ (List.mem_of_getElem? (i := 2) rfl)) rfl rfl (ty := .int) (by decide +kernel) rfl rfl (Nat.le_of_ble_eq_true rfl) (moB r (upd F 7 2)) rfl [moB r (upd F 7 2), arB ty (r 1) 215 (sqA 215 S)] rfl dX9_share_29 (fun H locs w => ?_)
      refine lv_aload_n hx hb dX9_share_32 rfl (lv_at hl 0 rfl) ?_
      refine r_get (v' := .int 2) hx hb hts in_X9_share_X9 hown w 0 0 rfl rfl (ci := 13) rfl 7 (by decide) (hts _ (List.mem_of_getElem? (i := 2) rfl)) rfl rfl rfl dX9_share_33 ?_
      refine lv_if_ne (tgt := 59) hx hb dX9_share_36 (by decide) (fun c36 => ?_) (fun c36 => ?_)
      · refine lv_dconst0 hx hb dX9_share_59 ?_
        exact e_d hx hb hr hlocks (w.cast (by rw [ht])) (by rw [if_neg (by rw [ht]; decide)]) dX9_share_60 (Nat.le_refl _) (Nat.le_refl _)
      · exact absurd c36 (by decide)
  · have c6 := bI_0.mp c6
    refine lv_iconst (v := 1) hx hb dX9_share_9 (by decide) ?_
    refine lv_goto (tgt := 29) hx hb dX9_share_10 (by decide) ?_
    have ht : tShare S n v = 1 := by rw [tShare, if_neg (bt_n c6)]
    refine r_put hx hb hts in_X9_share_X9 tyX9 tyX9_ok nmX9 hown w 0 0 rfl rfl (ci := 13) rfl 7 (by decide) (hts _ (List.mem_of_getElem? (i := 2) rfl)) rfl rfl (ty := .int) (by decide +kernel) rfl rfl (Nat.le_of_ble_eq_true rfl) (moB r (upd F 7 1)) rfl [moB r (upd F 7 1), arB ty (r 1) 215 (sqA 215 S)] rfl dX9_share_29 (fun H locs w => ?_)
    refine lv_aload_n hx hb dX9_share_32 rfl (lv_at hl 0 rfl) ?_
    refine r_get (v' := .int 1) hx hb hts in_X9_share_X9 hown w 0 0 rfl rfl (ci := 13) rfl 7 (by decide) (hts _ (List.mem_of_getElem? (i := 2) rfl)) rfl rfl rfl dX9_share_33 ?_
    refine lv_if_ne (tgt := 59) hx hb dX9_share_36 (by decide) (fun c36 => ?_) (fun c36 => ?_)
    · refine lv_dconst0 hx hb dX9_share_59 ?_
      exact e_d hx hb hr hlocks (w.cast (by rw [ht])) (by rw [if_neg (by rw [ht]; decide)]) dX9_share_60 (Nat.le_refl _) (Nat.le_refl _)
    · exact absurd c36 (by decide)

theorem in_X8_meanTemper_X2 : ∀ w ∈ wsX20, w ∈ wsX8_meanTemper := by decide +kernel
theorem in_X8_meanTemper_X6 : ∀ w ∈ wsX60, w ∈ wsX8_meanTemper := by decide +kernel
theorem in_X8_meanTemper_X8 : ∀ w ∈ wsX80, w ∈ wsX8_meanTemper := by decide +kernel
theorem inx_X8_meanTemper_361 : ∀ w ∈ (vx_atS RX8 361 "java/lang/ArithmeticException" ["java/lang/RuntimeException", "java/lang/Exception"]).filter goodWord, w ∈ wsX8_meanTemper := by decide +kernel
theorem hdN_X8_meanTemper : yX8_meanTemper.cls ≠ "java/lang/invoke/MethodHandle" ∧ yX8_meanTemper.cls ≠ "java/lang/invoke/VarHandle" ∧ (parseMethodDescriptor yX8_meanTemper.desc).map (fun d => d.parameters.length) = some 0 := by decide +kernel
set_option maxRecDepth 100000 in
set_option maxHeartbeats 4000000 in
theorem c_X8_meanTemper (l : Launch) (hst : l.stackTraces = false) (D : va_G) (ty : Nat → ClassId) (o : Nat) (a b sn h t : Nat → Nat) (r sb : Nat) (hs lf : Int32) (S M : pS) (n q : Nat) (hA : IA S n q) : Xf l yX8_meanTemper wsX8_meanTemper (kR 6 90 1 6) D (kTY ty) [.ref o] [ppB o (a 0) (b 0) (sn 0) (h 0) r (t 0) sb hs lf, stB a S, lnB ty a S, quB ty a S, weB a S, miB ty a M] (tMean n = 0) [ppB o (a 0) (b 0) (sn 0) (h 0) r (t 0) sb hs lf, stB a S, lnB ty a S, quB ty a S, weB a S, miB ty a M] (vMean S n) "java/lang/ArithmeticException" [ppB o (a 0) (b 0) (sn 0) (h 0) r (t 0) sb hs lf, stB a S, lnB ty a S, quB ty a S, weB a S, miB ty a M] 1 6 := by
  refine m_xf (cc := cX8_meanTemper) (maxL := 1) (ret := (some .float)) (by decide +kernel) rfl (Nat.le_of_ble_eq_true rfl) ?_
  intro p e s m below meth c A ls hx hb hml hr hlocks hown hts hex hz w hl
  have hown : s.vm.findClass RX8 = some m.cls := hown
  have hl : lv_has ls 1 [(0, .ref o)] := hl
  have hI := hA.1
  obtain ⟨h0, hn, h1, hq, he, hd, hdr, hwr⟩ := id hI
  refine lv_aload_n hx hb dX8_meanTemper_0 rfl (lv_at hl 0 rfl) ?_
  refine r_get (v' := .ref (a 0)) hx hb hts in_X8_meanTemper_X8 hown w 0 0 rfl rfl (ci := 12) rfl 0 (by decide) (hts _ (List.mem_of_getElem? (i := 3) rfl)) rfl rfl rfl dX8_meanTemper_1 ?_
  refine r_getN (v' := .ref (a 1)) hx hb hts in_X8_meanTemper_X6 hown w 1 0 rfl rfl (ci := 10) rfl 0 (by decide) (w.2.2.2.2.2 _ (List.mem_of_getElem? (i := 33) rfl)) rfl rfl rfl dX8_meanTemper_4 ?_
  refine r_getN (v' := .int (nI n)) hx hb hts in_X8_meanTemper_X2 hown w 2 0 rfl rfl (ci := 6) rfl 0 (by decide) (w.2.2.2.2.2 _ (List.mem_of_getElem? (i := 3) rfl)) rfl rfl (congrArg Value.int h0) dX8_meanTemper_7 ?_
  refine lv_if_ne (tgt := 24) hx hb dX8_meanTemper_10 (by decide) (fun c10 => ?_) (fun c10 => ?_)
  · have hn0 : ¬ n = 0 := fun q => c10 (by rw [q]; rfl)
    refine lv_aload_n hx hb dX8_meanTemper_24 rfl (lv_at hl 0 rfl) ?_
    refine r_get (v' := .ref (a 0)) hx hb hts in_X8_meanTemper_X8 hown w 0 0 rfl rfl (ci := 12) rfl 0 (by decide) (hts _ (List.mem_of_getElem? (i := 3) rfl)) rfl rfl rfl dX8_meanTemper_25 ?_
    refine r_getN (v' := .ref (a 1)) hx hb hts in_X8_meanTemper_X6 hown w 1 0 rfl rfl (ci := 10) rfl 0 (by decide) (w.2.2.2.2.2 _ (List.mem_of_getElem? (i := 33) rfl)) rfl rfl rfl dX8_meanTemper_28 ?_
    refine k_iVN (As := []) (rest := []) (Rs := [ppB o (a 0) (b 0) (sn 0) (h 0) r (t 0) sb hs lf, stB a S, quB ty a S, weB a S, miB ty a M]) (Bs' := [ppB o (a 0) (b 0) (sn 0) (h 0) r (t 0) sb hs lf, stB a S, lnB ty a S, quB ty a S, weB a S, miB ty a M]) ⟨hx, hb, hml, hown, hts⟩ w (c_X2_temperSum l D ty a S n (hI).1 (hI).2.1) ⟨va_cnB 0 hts gX8_meanTemper_X2_temperSum_n362 rfl rfl rfl (w.2.2.2.2.2 _ (List.mem_of_getElem? (i := 114) rfl)) (hts _ (List.mem_of_getElem? (i := 5) rfl)) hdN_X2_temperSum ⟨Nat.le_of_ble_eq_true rfl, Nat.le_of_ble_eq_true rfl⟩, (hts _ (List.mem_of_getElem? (i := 4) rfl)), (hts _ (List.mem_of_getElem? (i := 6) rfl))⟩ [2, 0, 1, 3, 4, 5] (nB := 6) (by decide) rfl rfl rfl rfl 2 rfl rfl (ci := 6) rfl rfl rfl hl.1 rfl (Nat.le_of_ble_eq_true rfl) dX8_meanTemper_31 ⟨(Nat.zero_le _), (Nat.zero_le _)⟩ (fun H locs w => ?_)
    refine lv_i2f hx hb dX8_meanTemper_34 ?_
    refine lv_aload_n hx hb dX8_meanTemper_35 rfl (lv_at hl 0 rfl) ?_
    refine r_get (v' := .ref (a 0)) hx hb hts in_X8_meanTemper_X8 hown w 0 0 rfl rfl (ci := 12) rfl 0 (by decide) (hts _ (List.mem_of_getElem? (i := 3) rfl)) rfl rfl rfl dX8_meanTemper_36 ?_
    refine r_getN (v' := .ref (a 1)) hx hb hts in_X8_meanTemper_X6 hown w 1 0 rfl rfl (ci := 10) rfl 0 (by decide) (w.2.2.2.2.2 _ (List.mem_of_getElem? (i := 33) rfl)) rfl rfl rfl dX8_meanTemper_39 ?_
    refine r_getN (v' := .int (nI n)) hx hb hts in_X8_meanTemper_X2 hown w 2 0 rfl rfl (ci := 6) rfl 0 (by decide) (w.2.2.2.2.2 _ (List.mem_of_getElem? (i := 3) rfl)) rfl rfl (congrArg Value.int h0) dX8_meanTemper_42 ?_
    refine lv_i2f hx hb dX8_meanTemper_45 ?_
    refine lv_fdiv hx hb dX8_meanTemper_46 (fl_f c10) ?_
    exact x_f hx hb hr hlocks w (by rw [tMean, if_neg hn0]) (by rw [vMean, if_neg hn0]) dX8_meanTemper_47 (Nat.le_of_ble_eq_true rfl) (Nat.le_of_ble_eq_true rfl)
  · have hn0 : n = 0 := by
      rcases Nat.eq_zero_or_pos n with q | q
      · exact q
      · exact absurd c10 (nI_ne0 q (by omega))
    exact x_throwW hx hb hst w hz (by rw [tMean, if_pos hn0]; decide) rfl hown (by decide) (by decide) (hts _ (List.mem_of_getElem? (i := 1) rfl)) (hts _ (List.mem_of_getElem? (i := 2) rfl)) (hz.1.2 (359, "there are no households") (by decide)) (vx_hat (fun w hw => hts w (inx_X8_meanTemper_361 w hw)) xb_361 hz.1.1.use) (xg_c xg_361) (hl.1.trans hml.symm) dX8_meanTemper_13 dX8_meanTemper_16 dX8_meanTemper_17 dX8_meanTemper_20 dX8_meanTemper_23 hex (Nat.le_of_ble_eq_true rfl) (Nat.le_of_ble_eq_true rfl) (Nat.le_of_ble_eq_true rfl) (Nat.le_of_ble_eq_true rfl) hlocks (Nat.le_of_ble_eq_true rfl) (Nat.le_of_ble_eq_true rfl)

theorem in_X8_share_X2 : ∀ w ∈ wsX20, w ∈ wsX8_share := by decide +kernel
theorem in_X8_share_X6 : ∀ w ∈ wsX60, w ∈ wsX8_share := by decide +kernel
theorem in_X8_share_X7 : ∀ w ∈ wsX70, w ∈ wsX8_share := by decide +kernel
theorem in_X8_share_X8 : ∀ w ∈ wsX80, w ∈ wsX8_share := by decide +kernel
theorem inx_X8_share_161 : ∀ w ∈ (vx_atS RX8 161 "java/lang/IndexOutOfBoundsException" ["java/lang/RuntimeException", "java/lang/Exception"]).filter goodWord, w ∈ wsX8_share := by decide +kernel
theorem inx_X8_share_361 : ∀ w ∈ (vx_atS RX8 361 "java/lang/ArithmeticException" ["java/lang/RuntimeException", "java/lang/Exception"]).filter goodWord, w ∈ wsX8_share := by decide +kernel
theorem hdN_X8_share : yX8_share.cls ≠ "java/lang/invoke/MethodHandle" ∧ yX8_share.cls ≠ "java/lang/invoke/VarHandle" ∧ (parseMethodDescriptor yX8_share.desc).map (fun d => d.parameters.length) = some 1 := by decide +kernel
set_option maxRecDepth 100000 in
set_option maxHeartbeats 4000000 in
theorem c_X8_share (l : Launch) (hst : l.stackTraces = false) (D : va_G) (ty : Nat → ClassId) (o : Nat) (a b sn h t : Nat → Nat) (r sb : Nat) (hs lf : Int32) (S M : pS) (n q : Nat) (hA : IA S n q) (v : Int32) : Xd l yX8_share wsX8_share (kR 6 90 1 6) D (kTY ty) [.ref o, .int v] [ppB o (a 0) (b 0) (sn 0) (h 0) r (t 0) sb hs lf, stB a S, lnB ty a S, quB ty a S, weB a S, miB ty a M] (tShare S n v = 0) [ppB o (a 0) (b 0) (sn 0) (h 0) r (t 0) sb hs lf, stB a S, lnB ty a S, quB ty a S, weB a S, miB ty a M] (vShare S v) (if tShare S n v = 2 then "java/lang/ArithmeticException" else "java/lang/IndexOutOfBoundsException") [ppB o (a 0) (b 0) (sn 0) (h 0) r (t 0) sb hs lf, stB a S, lnB ty a S, quB ty a S, weB a S, miB ty a M] 1 6 := by
  refine m_xd (cc := cX8_share) (maxL := 2) (ret := (some .double)) (by decide +kernel) rfl (Nat.le_of_ble_eq_true rfl) ?_
  intro p e s m below meth c A ls hx hb hml hr hlocks hown hts hex hz w hl
  have hown : s.vm.findClass RX8 = some m.cls := hown
  have hl : lv_has ls 2 [(0, .ref o), (1, .int v)] := hl
  have hI := hA.1
  obtain ⟨h0, hn, h1, hq, he, hd, hdr, hwr⟩ := id hI
  refine lv_aload_n hx hb dX8_share_0 rfl (lv_at hl 0 rfl) ?_
  refine r_get (v' := .ref (a 0)) hx hb hts in_X8_share_X8 hown w 0 0 rfl rfl (ci := 12) rfl 0 (by decide) (hts _ (List.mem_of_getElem? (i := 5) rfl)) rfl rfl rfl dX8_share_1 ?_
  refine r_getN (v' := .ref (a 1)) hx hb hts in_X8_share_X6 hown w 1 0 rfl rfl (ci := 10) rfl 0 (by decide) (w.2.2.2.2.2 _ (List.mem_of_getElem? (i := 33) rfl)) rfl rfl rfl dX8_share_4 ?_
  refine lv_iload_n hx hb dX8_share_7 rfl (lv_at hl 1 rfl) ?_
  refine k_iVN (As := [.int v]) (rest := []) (Rs := [ppB o (a 0) (b 0) (sn 0) (h 0) r (t 0) sb hs lf, stB a S, quB ty a S, weB a S, miB ty a M]) (Bs' := [ppB o (a 0) (b 0) (sn 0) (h 0) r (t 0) sb hs lf, stB a S, lnB ty a S, quB ty a S, weB a S, miB ty a M]) ⟨hx, hb, hml, hown, hts⟩ w (c_X2_has l D ty a S n (hI).1 (hI).2.1 v) ⟨va_cnB 1 hts gX8_share_X2_has_n153 rfl rfl rfl (w.2.2.2.2.2 _ (List.mem_of_getElem? (i := 95) rfl)) (hts _ (List.mem_of_getElem? (i := 7) rfl)) hdN_X2_has ⟨Nat.le_of_ble_eq_true rfl, Nat.le_of_ble_eq_true rfl⟩, (hts _ (List.mem_of_getElem? (i := 6) rfl)), (hts _ (List.mem_of_getElem? (i := 8) rfl))⟩ [2, 0, 1, 3, 4, 5] (nB := 6) (by decide) rfl rfl rfl rfl 2 rfl rfl (ci := 6) rfl rfl rfl hl.1 rfl (Nat.le_of_ble_eq_true rfl) dX8_share_8 ⟨(Nat.zero_le _), (Nat.zero_le _)⟩ (fun H locs w => ?_)
  refine lv_if_ne (tgt := 24) hx hb dX8_share_11 (by decide) (fun c11 => ?_) (fun c11 => ?_)
  · have c11 := bI_1.mp c11
    obtain ⟨i, ggi, rfl⟩ := (pHas_iff (by omega)).mp c11
    refine lv_aload_n hx hb dX8_share_24 rfl (lv_at hl 0 rfl) ?_
    refine r_get (v' := .ref (a 0)) hx hb hts in_X8_share_X8 hown w 0 0 rfl rfl (ci := 12) rfl 0 (by decide) (hts _ (List.mem_of_getElem? (i := 5) rfl)) rfl rfl rfl dX8_share_25 ?_
    refine r_getN (v' := .ref (a 19)) hx hb hts in_X8_share_X6 hown w 1 0 rfl rfl (ci := 10) rfl 2 (by decide) (w.2.2.2.2.2 _ (List.mem_of_getElem? (i := 35) rfl)) rfl rfl rfl dX8_share_28 ?_
    refine r_getN (v' := .int (S 210)) hx hb hts in_X8_share_X7 hown w 4 0 rfl rfl (ci := 11) rfl 1 (by decide) (w.2.2.2.2.2 _ (List.mem_of_getElem? (i := 23) rfl)) rfl rfl rfl dX8_share_31 ?_
    refine lv_if_ne (tgt := 48) hx hb dX8_share_34 (by decide) (fun c34 => ?_) (fun c34 => ?_)
    · refine lv_aload_n hx hb dX8_share_48 rfl (lv_at hl 0 rfl) ?_
      refine r_get (v' := .ref (a 0)) hx hb hts in_X8_share_X8 hown w 0 0 rfl rfl (ci := 12) rfl 0 (by decide) (hts _ (List.mem_of_getElem? (i := 5) rfl)) rfl rfl rfl dX8_share_49 ?_
      refine r_getN (v' := .ref (a 1)) hx hb hts in_X8_share_X6 hown w 1 0 rfl rfl (ci := 10) rfl 0 (by decide) (w.2.2.2.2.2 _ (List.mem_of_getElem? (i := 33) rfl)) rfl rfl rfl dX8_share_52 ?_
      refine r_getN (v' := .ref (a 7)) hx hb hts in_X8_share_X2 hown w 2 0 rfl rfl (ci := 6) rfl 7 (by decide) (w.2.2.2.2.2 _ (List.mem_of_getElem? (i := 12) rfl)) rfl rfl rfl dX8_share_55 ?_
      refine lv_iload_n hx hb dX8_share_58 rfl (lv_at hl 1 rfl) ?_
      refine r_iald (v := (S (1 + 6 * i + 5))) hx hb w 2 6 rfl rfl 0 rfl i (by omega) (Nat.le_of_ble_eq_true rfl) rfl (lnA_at (by omega)) dX8_share_59 ?_
      refine lv_i2d hx hb dX8_share_60 ?_
      refine lv_aload_n hx hb dX8_share_61 rfl (lv_at hl 0 rfl) ?_
      refine r_get (v' := .ref (a 0)) hx hb hts in_X8_share_X8 hown w 0 0 rfl rfl (ci := 12) rfl 0 (by decide) (hts _ (List.mem_of_getElem? (i := 5) rfl)) rfl rfl rfl dX8_share_62 ?_
      refine r_getN (v' := .ref (a 19)) hx hb hts in_X8_share_X6 hown w 1 0 rfl rfl (ci := 10) rfl 2 (by decide) (w.2.2.2.2.2 _ (List.mem_of_getElem? (i := 35) rfl)) rfl rfl rfl dX8_share_65 ?_
      refine r_getN (v' := .int (S 210)) hx hb hts in_X8_share_X7 hown w 4 0 rfl rfl (ci := 11) rfl 1 (by decide) (w.2.2.2.2.2 _ (List.mem_of_getElem? (i := 23) rfl)) rfl rfl rfl dX8_share_68 ?_
      refine lv_i2d hx hb dX8_share_71 ?_
      refine lv_ddiv hx hb dX8_share_72 (fl_d c34) ?_
      exact x_d hx hb hr hlocks w (by rw [tShare, if_pos c11, if_neg c34]) (by rw [vShare, cN_nI (show i < 2 ^ 31 by omega)]) dX8_share_73 (Nat.le_of_ble_eq_true rfl) (Nat.le_of_ble_eq_true rfl)
    · have hno : tShare S n (nI i) = 2 := by rw [tShare, if_pos c11, if_pos c34]
      exact x_throwW hx hb hst w hz (by rw [hno]; decide) (by rw [hno]; rfl) hown (by decide) (by decide) (hts _ (List.mem_of_getElem? (i := 3) rfl)) (hts _ (List.mem_of_getElem? (i := 4) rfl)) (hz.1.2 (365, "nothing was drawn") (by decide)) (vx_hat (fun w hw => hts w (inx_X8_share_361 w hw)) xb_361 hz.1.1.use) (xg_c xg_361) (hl.1.trans hml.symm) dX8_share_37 dX8_share_40 dX8_share_41 dX8_share_44 dX8_share_47 hex (Nat.le_of_ble_eq_true rfl) (Nat.le_of_ble_eq_true rfl) (Nat.le_of_ble_eq_true rfl) (Nat.le_of_ble_eq_true rfl) hlocks (Nat.le_of_ble_eq_true rfl) (Nat.le_of_ble_eq_true rfl)
  · have c11 := bI_0.mp c11
    have hno : tShare S n v = 1 := by rw [tShare, if_neg (bt_n c11)]
    exact x_throw hx hb hst w hz (by rw [hno]; decide) (by rw [hno]; rfl) hown (by decide) (by decide) (hts _ (List.mem_of_getElem? (i := 1) rfl)) (hts _ (List.mem_of_getElem? (i := 2) rfl)) (hz.1.2 (159, "there is no such household") (by decide)) (vx_hat (fun w hw => hts w (inx_X8_share_161 w hw)) xb_161 hz.1.1.use) (xg_c xg_161) (hl.1.trans hml.symm) dX8_share_14 dX8_share_17 dX8_share_18 dX8_share_20 dX8_share_23 hex (Nat.le_of_ble_eq_true rfl) (Nat.le_of_ble_eq_true rfl) (Nat.le_of_ble_eq_true rfl) (Nat.le_of_ble_eq_true rfl) hlocks (Nat.le_of_ble_eq_true rfl) (Nat.le_of_ble_eq_true rfl)
