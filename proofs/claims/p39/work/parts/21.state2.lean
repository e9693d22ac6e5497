theorem in_X6_letJoin_X4 : ∀ w ∈ wsX40, w ∈ wsX6_letJoin := by decide +kernel
theorem in_X6_letJoin_X6 : ∀ w ∈ wsX60, w ∈ wsX6_letJoin := by decide +kernel
theorem hdN_X6_letJoin : yX6_letJoin.cls ≠ "java/lang/invoke/MethodHandle" ∧ yX6_letJoin.cls ≠ "java/lang/invoke/VarHandle" ∧ (parseMethodDescriptor yX6_letJoin.desc).map (fun d => d.parameters.length) = some 1 := by decide +kernel
set_option maxRecDepth 100000 in
set_option maxHeartbeats 4000000 in
theorem c_X6_letJoin (l : Launch) (D : va_G) (ty : Nat → ClassId) (a : Nat → Nat) (S M : pS) (n q : Nat) (hI : pSh S n q) (ht : cN (S 122) ≤ 20) (x : Nat) (hM : mOK M x) (i : Nat) (hi : i < n) (hnq : ∀ j, j < q → S (50 + j) ≠ nI i)  : Mi l yX6_letJoin wsX6_letJoin (kR 3 60 0 0) D (kTY ty) [.ref (a 0), .int (nI i)] [stB a S, lnB ty a S, quB ty a S, weB a S, miB ty a M] [stB a (((oJL n i q (S, M)).2).1), lnB ty a (((oJL n i q (S, M)).2).1), quB ty a (((oJL n i q (S, M)).2).1), weB a (((oJL n i q (S, M)).2).1), miB ty a (((oJL n i q (S, M)).2).2)] ((oJL n i q (S, M)).1) 0 0 := by
  refine m_i (cc := cX6_letJoin) (maxL := 4) (ret := (some .int)) (by decide +kernel) rfl (Nat.le_of_ble_eq_true rfl) ?_
  intro p e s m below meth c A ls hx hb hml hr hlocks hown hts w hl
  have hown : s.vm.findClass RX6 = some m.cls := hown
  have hl : lv_has ls 4 [(0, .ref (a 0)), (1, .int (nI i))] := hl
  obtain ⟨h0, hn, h1, hq, he, hd, hdr, hwr⟩ := id hI
  refine lv_aload_n hx hb dX6_letJoin_0 rfl (lv_at hl 0 rfl) ?_
  refine r_get (v' := .ref (a 17)) hx hb hts in_X6_letJoin_X6 hown w 0 0 rfl rfl (ci := 10) rfl 1 (by decide) (hts _ (List.mem_of_getElem? (i := 1) rfl)) rfl rfl rfl dX6_letJoin_1 ?_
  refine r_getN (v' := .int (nI q)) hx hb hts in_X6_letJoin_X4 hown w 2 0 rfl rfl (ci := 8) rfl 0 (by decide) (w.2.2.2.2.2 _ (List.mem_of_getElem? (i := 16) rfl)) rfl rfl (congrArg Value.int h1) dX6_letJoin_4 ?_
  refine lv_iconst (v := 1) hx hb dX6_letJoin_7 (by decide) ?_
  refine lv_isub hx hb dX6_letJoin_8 ?_
  refine r_eq (y := (nI (q - 0) - 1)) rfl ?_
  refine lv_istore_n (lv' := [(2, .int (nI (q - 0) - 1)), (0, .ref (a 0)), (1, .int (nI i))]) hx hb dX6_letJoin_9 rfl hl (by decide) rfl (fun ls hl => ?_)
  refine k_loop (fun k H locs ls => ∃ (T : pS) (U : pS) (y : Nat), kW D (kTY ty) A s.heap s H locs [stB a T, lnB ty a T, quB ty a T, weB a T, miB ty a U] ∧ lv_has ls 4 [(0, .ref (a 0)), (1, .int (nI i)), (2, .int (nI (q - k) - 1))] ∧ (pSh T n (q - k)) ∧ (cN (T 122) ≤ 20) ∧ (mOK U y) ∧ (∀ j, j < q - k → T (50 + j) ≠ nI i) ∧ (oJL n i q (S, M) = oJL n i (q - k) (T, U))) q 0 (by omega) ⟨S, M, x, w, lv_sub hl [1, 2, 0] rfl, hI, ht, hM, hnq, rfl⟩ ?_
  intro k hk0 hk ihk H locs ls hI
  obtain ⟨T, U, y, w, hl, hT, htT, hU, hnqT, hoj⟩ := hI
  refine lv_iload_n hx hb dX6_letJoin_10 rfl (lv_at hl 2 rfl) ?_
  refine lv_if_lt (tgt := 80) hx hb dX6_letJoin_11 (by decide) (fun c11 => ?_) (fun c11 => ?_)
  · have e0 := jl_0 (q := q - k) (by omega) c11
    refine lv_aload_n hx hb dX6_letJoin_80 rfl (lv_at hl 0 rfl) ?_
    refine r_get (v' := .ref (a 17)) hx hb hts in_X6_letJoin_X6 hown w 0 0 rfl rfl (ci := 10) rfl 1 (by decide) (hts _ (List.mem_of_getElem? (i := 1) rfl)) rfl rfl rfl dX6_letJoin_81 ?_
    refine lv_iload_n hx hb dX6_letJoin_84 rfl (lv_at hl 1 rfl) ?_
    refine k_vVN (As := [.int (nI i)]) (rest := []) (Rs := [stB a T, lnB ty a T, weB a T, miB ty a U]) (Bs' := [stB a T, lnB ty a T, quB ty a (sCome T (q - k) i), weB a T, miB ty a U]) ⟨hx, hb, hml, hown, hts⟩ w (c_X4_addLast l D ty a T (q - k) (hT).2.2.1 (by omega) i) ⟨va_cnB 1 hts gX6_letJoin_X4_addLast_n129 rfl rfl rfl (w.2.2.2.2.2 _ (List.mem_of_getElem? (i := 68) rfl)) (hts _ (List.mem_of_getElem? (i := 52) rfl)) hdN_X4_addLast ⟨Nat.le_of_ble_eq_true rfl, Nat.le_of_ble_eq_true rfl⟩, (hts _ (List.mem_of_getElem? (i := 61) rfl)), (hts _ (List.mem_of_getElem? (i := 62) rfl))⟩ [2, 0, 1, 3, 4] (nB := 5) (by decide) rfl rfl rfl rfl 2 rfl rfl (ci := 8) rfl rfl rfl hl.1 rfl (Nat.le_of_ble_eq_true rfl) dX6_letJoin_85 ⟨(Nat.zero_le _), (Nat.zero_le _)⟩ (fun H locs w => ?_)
    refine lv_aload_n hx hb dX6_letJoin_88 rfl (lv_at hl 0 rfl) ?_
    refine r_get (v' := .ref (a 17)) hx hb hts in_X6_letJoin_X6 hown w 0 0 rfl rfl (ci := 10) rfl 1 (by decide) (hts _ (List.mem_of_getElem? (i := 1) rfl)) rfl rfl rfl dX6_letJoin_89 ?_
    refine r_getN (v' := .int ((sCome T (q - k) i) 49)) hx hb hts in_X6_letJoin_X4 hown w 2 0 rfl rfl (ci := 8) rfl 0 (by decide) (w.2.2.2.2.2 _ (List.mem_of_getElem? (i := 16) rfl)) rfl rfl rfl dX6_letJoin_92 ?_
    refine r_eq (y := (nI (q - k + 1))) rfl ?_
    refine lv_iconst (v := 1) hx hb dX6_letJoin_95 (by decide) ?_
    refine lv_isub hx hb dX6_letJoin_96 ?_
    refine r_eq (y := (nI (q - k))) (nI_pred (q - k)) ?_
    exact e_i hx hb hr hlocks ((w.cast (come_w5 (by omega))).cast (by rw [hoj, e0]; rfl)) (by rw [hoj, e0]; rfl) dX6_letJoin_97 (Nat.le_refl _) (Nat.le_refl _)
  · have hp := jl_1 (q := q - k) (by omega) c11
    rw [show nI (q - k) - 1 = nI (q - k - 1) from pk_sub (a := q - k) (b := 1) (by omega)] at hl
    obtain ⟨z, hz, ez⟩ := hT.2.2.2.2.1 (q - k - 1) (by omega)
    have hroom := pSh_room hT hi hnqT
    have hzi : z ≠ i := fun e => hnqT (q - k - 1) (by omega) (by rw [ez, e])
    refine lv_aload_n hx hb dX6_letJoin_14 rfl (lv_at hl 0 rfl) ?_
    refine r_get (v' := .ref (a 17)) hx hb hts in_X6_letJoin_X6 hown w 0 0 rfl rfl (ci := 10) rfl 1 (by decide) (hts _ (List.mem_of_getElem? (i := 1) rfl)) rfl rfl rfl dX6_letJoin_15 ?_
    refine r_getN (v' := .ref (a 18)) hx hb hts in_X6_letJoin_X4 hown w 2 0 rfl rfl (ci := 8) rfl 1 (by decide) (w.2.2.2.2.2 _ (List.mem_of_getElem? (i := 18) rfl)) rfl rfl rfl dX6_letJoin_18 ?_
    refine lv_iload_n hx hb dX6_letJoin_21 rfl (lv_at hl 2 rfl) ?_
    refine r_iald (v := (T (50 + (q - k - 1)))) hx hb w 2 1 rfl rfl 0 rfl (q - k - 1) (by omega) (Nat.le_of_ble_eq_true rfl) rfl (quA_at (by omega)) dX6_letJoin_22 ?_
    refine r_eq (y := (nI z)) ez ?_
    refine lv_istore_n (lv' := [(3, .int (nI z)), (0, .ref (a 0)), (1, .int (nI i)), (2, .int (nI (q - k - 1)))]) hx hb dX6_letJoin_23 rfl hl (by decide) rfl (fun ls hl => ?_)
    refine lv_aload_n hx hb dX6_letJoin_24 rfl (lv_at hl 1 rfl) ?_
    refine r_get (v' := .ref (a 1)) hx hb hts in_X6_letJoin_X6 hown w 0 0 rfl rfl (ci := 10) rfl 0 (by decide) (hts _ (List.mem_of_getElem? (i := 2) rfl)) rfl rfl rfl dX6_letJoin_25 ?_
    refine lv_iload_n hx hb dX6_letJoin_28 rfl (lv_at hl 0 rfl) ?_
    refine lv_iload_n hx hb dX6_letJoin_29 rfl (lv_at hl 2 rfl) ?_
    refine k_iVN (As := [.int (nI z), .int (nI i)]) (rest := []) (Rs := [stB a T, quB ty a T, weB a T, miB ty a U]) (Bs' := [stB a T, lnB ty a T, quB ty a T, weB a T, miB ty a U]) ⟨hx, hb, hml, hown, hts⟩ w (c_X2_wouldQuarrel l D ty a T z i (by omega) (by omega)) ⟨va_cnB 2 hts gX6_letJoin_X2_wouldQuarrel_n115 rfl rfl rfl (w.2.2.2.2.2 _ (List.mem_of_getElem? (i := 63) rfl)) (hts _ (List.mem_of_getElem? (i := 4) rfl)) hdN_X2_wouldQuarrel ⟨Nat.le_of_ble_eq_true rfl, Nat.le_of_ble_eq_true rfl⟩, (hts _ (List.mem_of_getElem? (i := 3) rfl)), (hts _ (List.mem_of_getElem? (i := 5) rfl))⟩ [1, 0, 2, 3, 4] (nB := 5) (by decide) rfl rfl rfl rfl 1 rfl rfl (ci := 6) rfl rfl rfl hl.1 rfl (Nat.le_of_ble_eq_true rfl) dX6_letJoin_30 ⟨(Nat.zero_le _), (Nat.zero_le _)⟩ (fun H locs w => ?_)
    refine lv_if_ne (tgt := 39) hx hb dX6_letJoin_33 (by decide) (fun c33 => ?_) (fun c33 => ?_)
    · have c33 := bI_1.mp c33
      refine lv_aload_n hx hb dX6_letJoin_39 rfl (lv_at hl 1 rfl) ?_
      refine r_get (v' := .ref (a 1)) hx hb hts in_X6_letJoin_X6 hown w 0 0 rfl rfl (ci := 10) rfl 0 (by decide) (hts _ (List.mem_of_getElem? (i := 2) rfl)) rfl rfl rfl dX6_letJoin_40 ?_
      refine lv_iload_n hx hb dX6_letJoin_43 rfl (lv_at hl 0 rfl) ?_
      refine lv_iload_n hx hb dX6_letJoin_44 rfl (lv_at hl 2 rfl) ?_
      refine k_iVN (As := [.int (nI z), .int (nI i)]) (rest := []) (Rs := [stB a T, quB ty a T, weB a T, miB ty a U]) (Bs' := [stB a T, lnB ty a T, quB ty a T, weB a T, miB ty a U]) ⟨hx, hb, hml, hown, hts⟩ w (c_X2_winnerOf l D ty a T n (hT).1 (hT).2.1 z i (by omega) (by omega)) ⟨va_cnB 2 hts gX6_letJoin_X2_winnerOf_n118 rfl rfl rfl (w.2.2.2.2.2 _ (List.mem_of_getElem? (i := 64) rfl)) (hts _ (List.mem_of_getElem? (i := 4) rfl)) hdN_X2_winnerOf ⟨Nat.le_of_ble_eq_true rfl, Nat.le_of_ble_eq_true rfl⟩, (hts _ (List.mem_of_getElem? (i := 17) rfl)), (hts _ (List.mem_of_getElem? (i := 18) rfl))⟩ [1, 0, 2, 3, 4] (nB := 5) (by decide) rfl rfl rfl rfl 1 rfl rfl (ci := 6) rfl rfl rfl hl.1 rfl (Nat.le_of_ble_eq_true rfl) dX6_letJoin_45 ⟨(Nat.zero_le _), (Nat.zero_le _)⟩ (fun H locs w => ?_)
      have hpw := pWin_lt (S := T) (n := n) (a := z) (j := i) (by omega) (by omega)
      refine lv_iload_n hx hb dX6_letJoin_48 rfl (lv_at hl 0 rfl) ?_
      refine lv_icmp_ne (tgt := 60) hx hb dX6_letJoin_49 (by decide) (fun c49 => ?_) (fun c49 => ?_)
      · have c49 := mt (nI_eq (a := (pWin T n z i)) (b := z) (by omega) (by omega)).mpr c49
        refine lv_aload_n hx hb dX6_letJoin_60 rfl (lv_at hl 1 rfl) ?_
        refine lv_iload_n hx hb dX6_letJoin_61 rfl (lv_at hl 2 rfl) ?_
        refine lv_iload_n hx hb dX6_letJoin_62 rfl (lv_at hl 0 rfl) ?_
        refine k_vV (As := [.int (nI i), .int (nI z)]) (rest := []) (Rs := []) (Bs' := [stB a ((oQuarrel (T, U) i z).1), lnB ty a ((oQuarrel (T, U) i z).1), quB ty a ((oQuarrel (T, U) i z).1), weB a ((oQuarrel (T, U) i z).1), miB ty a ((oQuarrel (T, U) i z).2)]) ⟨hx, hb, hml, hown, hts⟩ w (c_X6_quarrel l D ty a T U n (q - k) (hT) htT y (hU) i z (by omega) (by omega)) (cwV 2 hts gX6_letJoin_X6_quarrel rfl rfl rfl ⟨rfl, hdN_X6_quarrel⟩ ⟨Nat.le_of_ble_eq_true rfl, Nat.le_of_ble_eq_true rfl⟩) [0, 1, 2, 3, 4] (nB := 5) (by decide) rfl rfl rfl rfl 0 rfl rfl (ci := 10) rfl rfl rfl hl.1 rfl (Nat.le_of_ble_eq_true rfl) dX6_letJoin_63 ⟨(Nat.zero_le _), (Nat.zero_le _)⟩ (fun H locs w => ?_)
        have hT1 := pSh_quarrel (M := U) (w := i) (l := z) hT htT (by omega) (by omega)
        refine lv_aload_n hx hb dX6_letJoin_66 rfl (lv_at hl 1 rfl) ?_
        refine r_get (v' := .ref (a 17)) hx hb hts in_X6_letJoin_X6 hown w 0 0 rfl rfl (ci := 10) rfl 1 (by decide) (hts _ (List.mem_of_getElem? (i := 1) rfl)) rfl rfl rfl dX6_letJoin_67 ?_
        refine lv_iload_n hx hb dX6_letJoin_70 rfl (lv_at hl 3 rfl) ?_
        refine k_vVN (As := [.int (nI (q - k - 1))]) (rest := []) (Rs := [stB a ((oQuarrel (T, U) i z).1), lnB ty a ((oQuarrel (T, U) i z).1), weB a ((oQuarrel (T, U) i z).1), miB ty a ((oQuarrel (T, U) i z).2)]) (Bs' := [stB a ((oQuarrel (T, U) i z).1), lnB ty a ((oQuarrel (T, U) i z).1), quB ty a (sGo ((oQuarrel (T, U) i z).1) (q - k) (q - k - 1)), weB a ((oQuarrel (T, U) i z).1), miB ty a ((oQuarrel (T, U) i z).2)]) ⟨hx, hb, hml, hown, hts⟩ w (c_X4_removePlace l D ty a ((oQuarrel (T, U) i z).1) (q - k) (hT1).2.2.1 (hT1).2.2.2.1 (q - k - 1) (by omega)) ⟨va_cnB 1 hts gX6_letJoin_X4_removePlace_n125 rfl rfl rfl (w.2.2.2.2.2 _ (List.mem_of_getElem? (i := 67) rfl)) (hts _ (List.mem_of_getElem? (i := 52) rfl)) hdN_X4_removePlace ⟨Nat.le_of_ble_eq_true rfl, Nat.le_of_ble_eq_true rfl⟩, (hts _ (List.mem_of_getElem? (i := 51) rfl)), (hts _ (List.mem_of_getElem? (i := 53) rfl))⟩ [2, 0, 1, 3, 4] (nB := 5) (by decide) rfl rfl rfl rfl 2 rfl rfl (ci := 8) rfl rfl rfl hl.1 rfl (Nat.le_of_ble_eq_true rfl) dX6_letJoin_71 ⟨(Nat.zero_le _), (Nat.zero_le _)⟩ (fun H locs w => ?_)
        have w := w.cast (go_w5 (by omega))
        refine lv_iinc (v := (nI (q - (k + 1)) - 1)) (lv' := [(2, .int (nI (q - (k + 1)) - 1)), (3, .int (nI z)), (0, .ref (a 0)), (1, .int (nI i))]) hx hb dX6_letJoin_74 hl (k := 3) rfl (jl_dec2 (by omega)) (by decide) rfl (fun ls hl => ?_)
        refine lv_goto (tgt := 10) hx hb dX6_letJoin_77 (by decide) ?_
        exact ihk _ _ _ ⟨sGo (oQuarrel (T, U) i z).1 (q - k) (q - k - 1), (oQuarrel (T, U) i z).2, (y + 1) % 20, w, lv_sub hl [2, 3, 0] rfl, (by rw [show q - (k + 1) = q - k - 1 by omega]; exact pSh_go hT1 (by omega)), (by rw [sGo_off (by omega) (by omega)]; exact qu_t htT (by omega) (by omega)), (mOK_n hU _ _ _ _), (by rw [show q - (k + 1) = q - k - 1 by omega]; exact jl_next hT htT hp (by omega) (by omega) hnqT), (by rw [show q - (k + 1) = q - k - 1 by omega, hoj]; exact oJL_win hp ez (by omega) (by rw [← wq_do hzi]; exact c33) c49)⟩ (by omega)
      · have c49 := (nI_eq (a := (pWin T n z i)) (b := z) (by omega) (by omega)).mp c49
        refine lv_aload_n hx hb dX6_letJoin_52 rfl (lv_at hl 1 rfl) ?_
        refine lv_iload_n hx hb dX6_letJoin_53 rfl (lv_at hl 0 rfl) ?_
        refine lv_iload_n hx hb dX6_letJoin_54 rfl (lv_at hl 2 rfl) ?_
        refine k_vV (As := [.int (nI z), .int (nI i)]) (rest := []) (Rs := []) (Bs' := [stB a ((oQuarrel (T, U) z i).1), lnB ty a ((oQuarrel (T, U) z i).1), quB ty a ((oQuarrel (T, U) z i).1), weB a ((oQuarrel (T, U) z i).1), miB ty a ((oQuarrel (T, U) z i).2)]) ⟨hx, hb, hml, hown, hts⟩ w (c_X6_quarrel l D ty a T U n (q - k) (hT) htT y (hU) z i (by omega) (by omega)) (cwV 2 hts gX6_letJoin_X6_quarrel rfl rfl rfl ⟨rfl, hdN_X6_quarrel⟩ ⟨Nat.le_of_ble_eq_true rfl, Nat.le_of_ble_eq_true rfl⟩) [0, 1, 2, 3, 4] (nB := 5) (by decide) rfl rfl rfl rfl 0 rfl rfl (ci := 10) rfl rfl rfl hl.1 rfl (Nat.le_of_ble_eq_true rfl) dX6_letJoin_55 ⟨(Nat.zero_le _), (Nat.zero_le _)⟩ (fun H locs w => ?_)
        refine lv_iconst (v := (-1)) hx hb dX6_letJoin_58 (by decide) ?_
        exact e_i hx hb hr hlocks (w.cast (by rw [hoj, oJL_lose hp ez (by omega) hzi (by rw [← wq_do hzi]; exact c33) c49])) (by rw [hoj, oJL_lose hp ez (by omega) hzi (by rw [← wq_do hzi]; exact c33) c49]) dX6_letJoin_59 (Nat.le_refl _) (Nat.le_refl _)
    · have c33 := bI_0.mp c33
      refine lv_goto (tgt := 80) hx hb dX6_letJoin_36 (by decide) ?_
      refine lv_aload_n hx hb dX6_letJoin_80 rfl (lv_at hl 1 rfl) ?_
      refine r_get (v' := .ref (a 17)) hx hb hts in_X6_letJoin_X6 hown w 0 0 rfl rfl (ci := 10) rfl 1 (by decide) (hts _ (List.mem_of_getElem? (i := 1) rfl)) rfl rfl rfl dX6_letJoin_81 ?_
      refine lv_iload_n hx hb dX6_letJoin_84 rfl (lv_at hl 2 rfl) ?_
      refine k_vVN (As := [.int (nI i)]) (rest := []) (Rs := [stB a T, lnB ty a T, weB a T, miB ty a U]) (Bs' := [stB a T, lnB ty a T, quB ty a (sCome T (q - k) i), weB a T, miB ty a U]) ⟨hx, hb, hml, hown, hts⟩ w (c_X4_addLast l D ty a T (q - k) (hT).2.2.1 (by omega) i) ⟨va_cnB 1 hts gX6_letJoin_X4_addLast_n129 rfl rfl rfl (w.2.2.2.2.2 _ (List.mem_of_getElem? (i := 68) rfl)) (hts _ (List.mem_of_getElem? (i := 52) rfl)) hdN_X4_addLast ⟨Nat.le_of_ble_eq_true rfl, Nat.le_of_ble_eq_true rfl⟩, (hts _ (List.mem_of_getElem? (i := 61) rfl)), (hts _ (List.mem_of_getElem? (i := 62) rfl))⟩ [2, 0, 1, 3, 4] (nB := 5) (by decide) rfl rfl rfl rfl 2 rfl rfl (ci := 8) rfl rfl rfl hl.1 rfl (Nat.le_of_ble_eq_true rfl) dX6_letJoin_85 ⟨(Nat.zero_le _), (Nat.zero_le _)⟩ (fun H locs w => ?_)
      refine lv_aload_n hx hb dX6_letJoin_88 rfl (lv_at hl 1 rfl) ?_
      refine r_get (v' := .ref (a 17)) hx hb hts in_X6_letJoin_X6 hown w 0 0 rfl rfl (ci := 10) rfl 1 (by decide) (hts _ (List.mem_of_getElem? (i := 1) rfl)) rfl rfl rfl dX6_letJoin_89 ?_
      refine r_getN (v' := .int ((sCome T (q - k) i) 49)) hx hb hts in_X6_letJoin_X4 hown w 2 0 rfl rfl (ci := 8) rfl 0 (by decide) (w.2.2.2.2.2 _ (List.mem_of_getElem? (i := 16) rfl)) rfl rfl rfl dX6_letJoin_92 ?_
      refine r_eq (y := (nI (q - k + 1))) rfl ?_
      refine lv_iconst (v := 1) hx hb dX6_letJoin_95 (by decide) ?_
      refine lv_isub hx hb dX6_letJoin_96 ?_
      refine r_eq (y := (nI (q - k))) (nI_pred (q - k)) ?_
      exact e_i hx hb hr hlocks ((w.cast (come_w5 (by omega))).cast (by rw [hoj, oJL_no hp ez (by omega) (by rw [← wq_do hzi]; exact c33)])) (by rw [hoj, oJL_no hp ez (by omega) (by rw [← wq_do hzi]; exact c33)]) dX6_letJoin_97 (Nat.le_refl _) (Nat.le_refl _)

theorem in_X6_letVote_X4 : ∀ w ∈ wsX40, w ∈ wsX6_letVote := by decide +kernel
theorem in_X6_letVote_X6 : ∀ w ∈ wsX60, w ∈ wsX6_letVote := by decide +kernel
theorem hdN_X6_letVote : yX6_letVote.cls ≠ "java/lang/invoke/MethodHandle" ∧ yX6_letVote.cls ≠ "java/lang/invoke/VarHandle" ∧ (parseMethodDescriptor yX6_letVote.desc).map (fun d => d.parameters.length) = some 0 := by decide +kernel
set_option maxRecDepth 100000 in
set_option maxHeartbeats 4000000 in
theorem c_X6_letVote (l : Launch) (D : va_G) (ty : Nat → ClassId) (a : Nat → Nat) (S M : pS) (n q : Nat) (hI : pSh S n q) (ht : cN (S 122) ≤ 20) (x : Nat) (hM : mOK M x)  : Mi l yX6_letVote wsX6_letVote (kR 4 92 0 0) D (kTY ty) [.ref (a 0)] [stB a S, lnB ty a S, quB ty a S, weB a S, miB ty a M] [stB a (((oVote (S, M)).2).1), lnB ty a (((oVote (S, M)).2).1), quB ty a (((oVote (S, M)).2).1), weB a (((oVote (S, M)).2).1), miB ty a (((oVote (S, M)).2).2)] ((oVote (S, M)).1) 0 0 := by
  refine m_i (cc := cX6_letVote) (maxL := 2) (ret := (some .int)) (by decide +kernel) rfl (Nat.le_of_ble_eq_true rfl) ?_
  intro p e s m below meth c A ls hx hb hml hr hlocks hown hts w hl
  have hown : s.vm.findClass RX6 = some m.cls := hown
  have hl : lv_has ls 2 [(0, .ref (a 0))] := hl
  obtain ⟨h0, hn, h1, hq, he, hd, hdr, hwr⟩ := id hI
  refine lv_aload_n hx hb dX6_letVote_0 rfl (lv_at hl 0 rfl) ?_
  refine lv_aload_n hx hb dX6_letVote_1 rfl (lv_at hl 0 rfl) ?_
  refine r_get (v' := .ref (a 1)) hx hb hts in_X6_letVote_X6 hown w 0 0 rfl rfl (ci := 10) rfl 0 (by decide) (hts _ (List.mem_of_getElem? (i := 1) rfl)) rfl rfl rfl dX6_letVote_2 ?_
  refine k_iVN (As := []) (rest := [.ref (a 0)]) (Rs := [stB a S, quB ty a S, weB a S, miB ty a M]) (Bs' := [stB a S, lnB ty a S, quB ty a S, weB a S, miB ty a M]) ⟨hx, hb, hml, hown, hts⟩ w (c_X2_lawOfMost l D ty a S n (hI).1 (hI).2.1) ⟨va_cnB 0 hts gX6_letVote_X2_lawOfMost_n158 rfl rfl rfl (w.2.2.2.2.2 _ (List.mem_of_getElem? (i := 77) rfl)) (hts _ (List.mem_of_getElem? (i := 7) rfl)) hdN_X2_lawOfMost ⟨Nat.le_of_ble_eq_true rfl, Nat.le_of_ble_eq_true rfl⟩, (hts _ (List.mem_of_getElem? (i := 6) rfl)), (hts _ (List.mem_of_getElem? (i := 8) rfl))⟩ [1, 0, 2, 3, 4] (nB := 5) (by decide) rfl rfl rfl rfl 1 rfl rfl (ci := 6) rfl rfl rfl hl.1 rfl (Nat.le_of_ble_eq_true rfl) dX6_letVote_5 ⟨(Nat.zero_le _), (Nat.zero_le _)⟩ (fun H locs w => ?_)
  refine r_put hx hb hts in_X6_letVote_X6 tyX6 tyX6_ok nmX6 hown w 0 0 rfl rfl (ci := 10) rfl 5 (by decide) (hts _ (List.mem_of_getElem? (i := 2) rfl)) rfl rfl (ty := .int) (by decide +kernel) rfl rfl (Nat.le_of_ble_eq_true rfl) (stB a (upd S 203 (nI (pMost S n 3)))) rfl [stB a (upd S 203 (nI (pMost S n 3))), lnB ty a S, quB ty a S, weB a S, miB ty a M] rfl dX6_letVote_8 (fun H locs w => ?_)
  have w := w.cast law_w5
  refine lv_aload_n hx hb dX6_letVote_11 rfl (lv_at hl 0 rfl) ?_
  refine r_get (v' := .ref (a 17)) hx hb hts in_X6_letVote_X6 hown w 0 0 rfl rfl (ci := 10) rfl 1 (by decide) (hts _ (List.mem_of_getElem? (i := 3) rfl)) rfl rfl rfl dX6_letVote_12 ?_
  refine r_getN (v' := .int (nI q)) hx hb hts in_X6_letVote_X4 hown w 2 0 rfl rfl (ci := 8) rfl 0 (by decide) (w.2.2.2.2.2 _ (List.mem_of_getElem? (i := 16) rfl)) rfl rfl (congrArg Value.int h1) dX6_letVote_15 ?_
  refine lv_iconst (v := 1) hx hb dX6_letVote_18 (by decide) ?_
  refine lv_isub hx hb dX6_letVote_19 ?_
  refine r_eq (y := (nI (q - 0) - 1)) rfl ?_
  refine lv_istore_n (lv' := [(1, .int (nI (q - 0) - 1)), (0, .ref (a 0))]) hx hb dX6_letVote_20 rfl hl (by decide) rfl (fun ls hl => ?_)
  refine k_loop (fun k H locs ls => ∃ (T : pS) (q1 : Nat), kW D (kTY ty) A s.heap s H locs [stB a T, lnB ty a T, quB ty a T, weB a T, miB ty a M] ∧ lv_has ls 2 [(0, .ref (a 0)), (1, .int (nI (q - k) - 1))] ∧ (pSh T n q1) ∧ (q - k ≤ q1) ∧ (∀ i, (i < 49 ∨ 58 ≤ i) → T i = (upd S 203 (nI (pMost S n 3))) i) ∧ (sSweep q (upd S 203 (nI (pMost S n 3))) = sSweep (q - k) T)) q 0 (by omega) ⟨upd S 203 (nI (pMost S n 3)), q, w, lv_sub hl [1, 0] rfl, (pSh_ext hI fun i hi => updn (by omega)), (by omega), (fun i hi => rfl), rfl⟩ ?_
  intro k hk0 hk ihk H locs ls hI
  obtain ⟨T, q1, w, hl, hT, hq1, hoff, hsw⟩ := hI
  refine lv_iload_n hx hb dX6_letVote_21 rfl (lv_at hl 1 rfl) ?_
  refine lv_if_lt (tgt := 55) hx hb dX6_letVote_22 (by decide) (fun c22 => ?_) (fun c22 => ?_)
  · have e0 := jl_0 (q := q - k) (by omega) c22
    rw [e0] at hsw
    refine lv_aload_n hx hb dX6_letVote_55 rfl (lv_at hl 0 rfl) ?_
    refine r_get (v' := .ref (a 20)) hx hb hts in_X6_letVote_X6 hown w 0 0 rfl rfl (ci := 10) rfl 3 (by decide) (hts _ (List.mem_of_getElem? (i := 4) rfl)) rfl rfl rfl dX6_letVote_56 ?_
    refine lv_iconst (v := 2) hx hb dX6_letVote_59 (by decide) ?_
    refine lv_aload_n hx hb dX6_letVote_60 rfl (lv_at hl 0 rfl) ?_
    refine r_get (v' := .int (T 206)) hx hb hts in_X6_letVote_X6 hown w 0 0 rfl rfl (ci := 10) rfl 4 (by decide) (hts _ (List.mem_of_getElem? (i := 5) rfl)) rfl rfl rfl dX6_letVote_61 ?_
    refine r_eq (y := (S 206)) (by rw [hoff 206 (by omega), updn (by omega)]) ?_
    refine lv_aload_n hx hb dX6_letVote_64 rfl (lv_at hl 0 rfl) ?_
    refine r_get (v' := .int (T 203)) hx hb hts in_X6_letVote_X6 hown w 0 0 rfl rfl (ci := 10) rfl 5 (by decide) (hts _ (List.mem_of_getElem? (i := 2) rfl)) rfl rfl rfl dX6_letVote_65 ?_
    refine r_eq (y := (nI (pMost S n 3))) (by rw [hoff 203 (by omega), upds rfl]) ?_
    refine lv_iconst (v := 0) hx hb dX6_letVote_68 (by decide) ?_
    refine k_vVN (As := [.int 2, .int (S 206), .int (nI (pMost S n 3)), .int 0]) (rest := []) (Rs := [stB a T, lnB ty a T, quB ty a T, weB a T]) (Bs' := [stB a T, lnB ty a T, quB ty a T, weB a T, miB ty a (mNote M 2 (S 206) (nI (pMost S n 3)) 0)]) ⟨hx, hb, hml, hown, hts⟩ w (c_X3_note l D ty a M x (hM).1 (hM).2 2 (S 206) (nI (pMost S n 3)) 0) ⟨va_cnB 4 hts gX6_letVote_X3_note_n135 rfl rfl rfl (w.2.2.2.2.2 _ (List.mem_of_getElem? (i := 66) rfl)) (hts _ (List.mem_of_getElem? (i := 50) rfl)) hdN_X3_note ⟨Nat.le_of_ble_eq_true rfl, Nat.le_of_ble_eq_true rfl⟩, (hts _ (List.mem_of_getElem? (i := 49) rfl)), (hts _ (List.mem_of_getElem? (i := 51) rfl))⟩ [4, 0, 1, 2, 3] (nB := 5) (by decide) rfl rfl rfl rfl 4 rfl rfl (ci := 7) rfl rfl rfl hl.1 rfl (Nat.le_of_ble_eq_true rfl) dX6_letVote_69 ⟨(Nat.zero_le _), (Nat.zero_le _)⟩ (fun H locs w => ?_)
    refine lv_aload_n hx hb dX6_letVote_72 rfl (lv_at hl 0 rfl) ?_
    refine r_get (v' := .int (T 203)) hx hb hts in_X6_letVote_X6 hown w 0 0 rfl rfl (ci := 10) rfl 5 (by decide) (hts _ (List.mem_of_getElem? (i := 2) rfl)) rfl rfl rfl dX6_letVote_73 ?_
    refine r_eq (y := (nI (pMost S n 3))) (by rw [hoff 203 (by omega), upds rfl]) ?_
    exact e_i hx hb hr hlocks (w.cast (vote_w5 hI ht hsw)) (by show _ = nI (pMost S (cN (S 0)) 3); rw [h0, cN_nI (by omega)]) dX6_letVote_76 (Nat.le_refl _) (Nat.le_refl _)
  · have hp := jl_1 (q := q - k) (by omega) c22
    rw [show nI (q - k) - 1 = nI (q - k - 1) from pk_sub (a := q - k) (b := 1) (by omega)] at hl
    obtain ⟨z, hz, ez⟩ := hT.2.2.2.2.1 (q - k - 1) (by omega)
    have hq18 := hT.2.2.2.1
    refine lv_aload_n hx hb dX6_letVote_25 rfl (lv_at hl 0 rfl) ?_
    refine lv_aload_n hx hb dX6_letVote_26 rfl (lv_at hl 0 rfl) ?_
    refine r_get (v' := .ref (a 17)) hx hb hts in_X6_letVote_X6 hown w 0 0 rfl rfl (ci := 10) rfl 1 (by decide) (hts _ (List.mem_of_getElem? (i := 3) rfl)) rfl rfl rfl dX6_letVote_27 ?_
    refine r_getN (v' := .ref (a 18)) hx hb hts in_X6_letVote_X4 hown w 2 0 rfl rfl (ci := 8) rfl 1 (by decide) (w.2.2.2.2.2 _ (List.mem_of_getElem? (i := 18) rfl)) rfl rfl rfl dX6_letVote_30 ?_
    refine lv_iload_n hx hb dX6_letVote_33 rfl (lv_at hl 1 rfl) ?_
    refine r_iald (v := (T (50 + (q - k - 1)))) hx hb w 2 1 rfl rfl 0 rfl (q - k - 1) (by omega) (Nat.le_of_ble_eq_true rfl) rfl (quA_at (by omega)) dX6_letVote_34 ?_
    refine r_eq (y := (nI z)) ez ?_
    refine k_iV (As := [.int (nI z)]) (rest := []) (Rs := []) (Bs' := [stB a T, lnB ty a T, quB ty a T, weB a T, miB ty a M]) ⟨hx, hb, hml, hown, hts⟩ w (c_X6_turnsLeft l D ty a T M n q1 (hT) z (by omega)) (cwV 1 hts gX6_letVote_X6_turnsLeft rfl rfl rfl ⟨rfl, hdN_X6_turnsLeft⟩ ⟨Nat.le_of_ble_eq_true rfl, Nat.le_of_ble_eq_true rfl⟩) [0, 1, 2, 3, 4] (nB := 5) (by decide) rfl rfl rfl rfl 0 rfl rfl (ci := 10) rfl rfl rfl hl.1 rfl (Nat.le_of_ble_eq_true rfl) dX6_letVote_35 ⟨(Nat.zero_le _), (Nat.zero_le _)⟩ (fun H locs w => ?_)
    refine lv_if_ne (tgt := 49) hx hb dX6_letVote_38 (by decide) (fun c38 => ?_) (fun c38 => ?_)
    · refine lv_iinc (v := (nI (q - (k + 1)) - 1)) (lv' := [(1, .int (nI (q - (k + 1)) - 1)), (0, .ref (a 0))]) hx hb dX6_letVote_49 hl (k := 1) rfl (jl_dec2 (by omega)) (by decide) rfl (fun ls hl => ?_)
      refine lv_goto (tgt := 21) hx hb dX6_letVote_52 (by decide) ?_
      exact ihk _ _ _ ⟨T, q1, w, lv_sub hl [1, 0] rfl, hT, (by omega), hoff, (by rw [show q - (k + 1) = q - k - 1 by omega, hsw, sweep_s hp hT.2.2.1 (by omega) ez (by omega), if_neg c38])⟩ (by omega)
    · refine lv_aload_n hx hb dX6_letVote_41 rfl (lv_at hl 0 rfl) ?_
      refine r_get (v' := .ref (a 17)) hx hb hts in_X6_letVote_X6 hown w 0 0 rfl rfl (ci := 10) rfl 1 (by decide) (hts _ (List.mem_of_getElem? (i := 3) rfl)) rfl rfl rfl dX6_letVote_42 ?_
      refine lv_iload_n hx hb dX6_letVote_45 rfl (lv_at hl 1 rfl) ?_
      refine k_vVN (As := [.int (nI (q - k - 1))]) (rest := []) (Rs := [stB a T, lnB ty a T, weB a T, miB ty a M]) (Bs' := [stB a T, lnB ty a T, quB ty a (sGo T q1 (q - k - 1)), weB a T, miB ty a M]) ⟨hx, hb, hml, hown, hts⟩ w (c_X4_removePlace l D ty a T q1 (hT).2.2.1 (hT).2.2.2.1 (q - k - 1) (by omega)) ⟨va_cnB 1 hts gX6_letVote_X4_removePlace_n125 rfl rfl rfl (w.2.2.2.2.2 _ (List.mem_of_getElem? (i := 67) rfl)) (hts _ (List.mem_of_getElem? (i := 40) rfl)) hdN_X4_removePlace ⟨Nat.le_of_ble_eq_true rfl, Nat.le_of_ble_eq_true rfl⟩, (hts _ (List.mem_of_getElem? (i := 39) rfl)), (hts _ (List.mem_of_getElem? (i := 41) rfl))⟩ [2, 0, 1, 3, 4] (nB := 5) (by decide) rfl rfl rfl rfl 2 rfl rfl (ci := 8) rfl rfl rfl hl.1 rfl (Nat.le_of_ble_eq_true rfl) dX6_letVote_46 ⟨(Nat.zero_le _), (Nat.zero_le _)⟩ (fun H locs w => ?_)
      have w := w.cast (go_w5 (by omega))
      refine lv_iinc (v := (nI (q - (k + 1)) - 1)) (lv' := [(1, .int (nI (q - (k + 1)) - 1)), (0, .ref (a 0))]) hx hb dX6_letVote_49 hl (k := 1) rfl (jl_dec2 (by omega)) (by decide) rfl (fun ls hl => ?_)
      refine lv_goto (tgt := 21) hx hb dX6_letVote_52 (by decide) ?_
      exact ihk _ _ _ ⟨sGo T q1 (q - k - 1), q1 - 1, w, lv_sub hl [1, 0] rfl, (pSh_go hT (by omega)), (by omega), (fun i hi => by rw [sGo_off (by omega) hi]; exact hoff i hi), (by rw [show q - (k + 1) = q - k - 1 by omega, hsw, sweep_s hp hT.2.2.1 (by omega) ez (by omega), if_pos c38])⟩ (by omega)

theorem in_X6_drawFirst_X2 : ∀ w ∈ wsX20, w ∈ wsX6_drawFirst := by decide +kernel
theorem in_X6_drawFirst_X4 : ∀ w ∈ wsX40, w ∈ wsX6_drawFirst := by decide +kernel
theorem in_X6_drawFirst_X6 : ∀ w ∈ wsX60, w ∈ wsX6_drawFirst := by decide +kernel
theorem hdN_X6_drawFirst : yX6_drawFirst.cls ≠ "java/lang/invoke/MethodHandle" ∧ yX6_drawFirst.cls ≠ "java/lang/invoke/VarHandle" ∧ (parseMethodDescriptor yX6_drawFirst.desc).map (fun d => d.parameters.length) = some 0 := by decide +kernel
set_option maxRecDepth 100000 in
set_option maxHeartbeats 4000000 in
theorem c_X6_drawFirst (l : Launch) (D : va_G) (ty : Nat → ClassId) (a : Nat → Nat) (S M : pS) (n q : Nat) (hI : pSh S n q) (ht : cN (S 122) ≤ 20) (x : Nat) (hM : mOK M x) (hq0 : 0 < q)  : Mi l yX6_drawFirst wsX6_drawFirst (kR 3 65 0 0) D (kTY ty) [.ref (a 0)] [stB a S, lnB ty a S, quB ty a S, weB a S, miB ty a M] [stB a ((oDraw1 (S, M) q).1), lnB ty a ((oDraw1 (S, M) q).1), quB ty a ((oDraw1 (S, M) q).1), weB a ((oDraw1 (S, M) q).1), miB ty a ((oDraw1 (S, M) q).2)] (pBring (S 205)) 0 0 := by
  refine m_i (cc := cX6_drawFirst) (maxL := 3) (ret := (some .int)) (by decide +kernel) rfl (Nat.le_of_ble_eq_true rfl) ?_
  intro p e s m below meth c A ls hx hb hml hr hlocks hown hts w hl
  have hown : s.vm.findClass RX6 = some m.cls := hown
  have hl : lv_has ls 3 [(0, .ref (a 0))] := hl
  obtain ⟨h0, hn, h1, hq, he, hd, hdr, hwr⟩ := id hI
  obtain ⟨z, hz, ez⟩ := he 0 (by omega)
  refine lv_aload_n hx hb dX6_drawFirst_0 rfl (lv_at hl 0 rfl) ?_
  refine r_get (v' := .ref (a 17)) hx hb hts in_X6_drawFirst_X6 hown w 0 0 rfl rfl (ci := 10) rfl 1 (by decide) (hts _ (List.mem_of_getElem? (i := 1) rfl)) rfl rfl rfl dX6_drawFirst_1 ?_
  refine r_getN (v' := .ref (a 18)) hx hb hts in_X6_drawFirst_X4 hown w 2 0 rfl rfl (ci := 8) rfl 1 (by decide) (w.2.2.2.2.2 _ (List.mem_of_getElem? (i := 18) rfl)) rfl rfl rfl dX6_drawFirst_4 ?_
  refine lv_iconst (v := 0) hx hb dX6_drawFirst_7 (by decide) ?_
  refine r_iald (v := (S (50 + 0))) hx hb w 2 1 rfl rfl 0 rfl 0 (by omega) (Nat.le_of_ble_eq_true rfl) rfl (quA_at (by omega)) dX6_drawFirst_8 ?_
  refine r_eq (y := (nI z)) ez ?_
  refine lv_istore_n (lv' := [(1, .int (nI z)), (0, .ref (a 0))]) hx hb dX6_drawFirst_9 rfl hl (by decide) rfl (fun ls hl => ?_)
  refine lv_aload_n hx hb dX6_drawFirst_10 rfl (lv_at hl 1 rfl) ?_
  refine r_get (v' := .ref (a 19)) hx hb hts in_X6_drawFirst_X6 hown w 0 0 rfl rfl (ci := 10) rfl 2 (by decide) (hts _ (List.mem_of_getElem? (i := 2) rfl)) rfl rfl rfl dX6_drawFirst_11 ?_
  refine k_iVN (As := []) (rest := []) (Rs := [stB a S, lnB ty a S, quB ty a S, miB ty a M]) (Bs' := [stB a S, lnB ty a S, quB ty a S, weB a (sPump S), miB ty a M]) ⟨hx, hb, hml, hown, hts⟩ w (c_X7_drawOnce l D ty a S (hI).2.2.2.2.2.2.2) ⟨va_cnB 0 hts gX6_drawFirst_X7_drawOnce_n152 rfl rfl rfl (w.2.2.2.2.2 _ (List.mem_of_getElem? (i := 74) rfl)) (hts _ (List.mem_of_getElem? (i := 7) rfl)) hdN_X7_drawOnce ⟨Nat.le_of_ble_eq_true rfl, Nat.le_of_ble_eq_true rfl⟩, (hts _ (List.mem_of_getElem? (i := 6) rfl)), (hts _ (List.mem_of_getElem? (i := 8) rfl))⟩ [3, 0, 1, 2, 4] (nB := 5) (by decide) rfl rfl rfl rfl 3 rfl rfl (ci := 11) rfl rfl rfl hl.1 rfl (Nat.le_of_ble_eq_true rfl) dX6_drawFirst_14 ⟨(Nat.zero_le _), (Nat.zero_le _)⟩ (fun H locs w => ?_)
  refine lv_istore_n (lv' := [(2, .int (pBring (S 205))), (1, .int (nI z)), (0, .ref (a 0))]) hx hb dX6_drawFirst_17 rfl hl (by decide) rfl (fun ls hl => ?_)
  refine lv_aload_n hx hb dX6_drawFirst_18 rfl (lv_at hl 2 rfl) ?_
  refine r_get (v' := .ref (a 1)) hx hb hts in_X6_drawFirst_X6 hown w 0 0 rfl rfl (ci := 10) rfl 0 (by decide) (hts _ (List.mem_of_getElem? (i := 3) rfl)) rfl rfl rfl dX6_drawFirst_19 ?_
  refine r_getN (v' := .ref (a 5)) hx hb hts in_X6_drawFirst_X2 hown w 1 0 rfl rfl (ci := 6) rfl 5 (by decide) (w.2.2.2.2.2 _ (List.mem_of_getElem? (i := 8) rfl)) rfl rfl rfl dX6_drawFirst_22 ?_
  refine lv_iload_n hx hb dX6_drawFirst_25 rfl (lv_at hl 1 rfl) ?_
  refine lv_dup2_11 hx hb dX6_drawFirst_26 rfl rfl ?_
  refine r_iald (v := (S (1 + 6 * z + 3))) hx hb w 1 4 rfl rfl 0 rfl z (by omega) (Nat.le_of_ble_eq_true rfl) rfl (lnA_at (by omega)) dX6_drawFirst_27 ?_
  refine lv_iconst (v := 1) hx hb dX6_drawFirst_28 (by decide) ?_
  refine lv_iadd hx hb dX6_drawFirst_29 ?_
  refine r_iast hx hb w 1 4 rfl rfl 0 rfl z (by omega) (Nat.le_of_ble_eq_true rfl) rfl (lnB ty a (upd S (1 + 6 * z + 3) ((S (1 + 6 * z + 3)) + 1))) (lnB_st3 (by omega)) [stB a S, lnB ty a (upd S (1 + 6 * z + 3) ((S (1 + 6 * z + 3)) + 1)), quB ty a S, weB a (sPump S), miB ty a M] rfl dX6_drawFirst_30 (fun H locs w => ?_)
  refine lv_aload_n hx hb dX6_drawFirst_31 rfl (lv_at hl 2 rfl) ?_
  refine r_get (v' := .ref (a 1)) hx hb hts in_X6_drawFirst_X6 hown w 0 0 rfl rfl (ci := 10) rfl 0 (by decide) (hts _ (List.mem_of_getElem? (i := 3) rfl)) rfl rfl rfl dX6_drawFirst_32 ?_
  refine r_getN (v' := .ref (a 7)) hx hb hts in_X6_drawFirst_X2 hown w 1 0 rfl rfl (ci := 6) rfl 7 (by decide) (w.2.2.2.2.2 _ (List.mem_of_getElem? (i := 13) rfl)) rfl rfl rfl dX6_drawFirst_35 ?_
  refine lv_iload_n hx hb dX6_drawFirst_38 rfl (lv_at hl 1 rfl) ?_
  refine lv_dup2_11 hx hb dX6_drawFirst_39 rfl rfl ?_
  refine r_iald (v := ((upd S (1 + 6 * z + 3) ((S (1 + 6 * z + 3)) + 1)) (1 + 6 * z + 5))) hx hb w 1 6 rfl rfl 0 rfl z (by omega) (Nat.le_of_ble_eq_true rfl) rfl (lnA_at (by omega)) dX6_drawFirst_40 ?_
  refine r_eq (y := (S (1 + 6 * z + 5))) (updn (by omega)) ?_
  refine lv_iload_n hx hb dX6_drawFirst_41 rfl (lv_at hl 0 rfl) ?_
  refine lv_iadd hx hb dX6_drawFirst_42 ?_
  refine r_iast hx hb w 1 6 rfl rfl 0 rfl z (by omega) (Nat.le_of_ble_eq_true rfl) rfl (lnB ty a (sFetch S z (pBring (S 205)))) (lnB_st5 (by omega)) [stB a S, lnB ty a (sFetch S z (pBring (S 205))), quB ty a S, weB a (sPump S), miB ty a M] rfl dX6_drawFirst_43 (fun H locs w => ?_)
  refine lv_aload_n hx hb dX6_drawFirst_44 rfl (lv_at hl 2 rfl) ?_
  refine r_get (v' := .ref (a 20)) hx hb hts in_X6_drawFirst_X6 hown w 0 0 rfl rfl (ci := 10) rfl 3 (by decide) (hts _ (List.mem_of_getElem? (i := 4) rfl)) rfl rfl rfl dX6_drawFirst_45 ?_
  refine lv_iconst (v := 0) hx hb dX6_drawFirst_48 (by decide) ?_
  refine lv_aload_n hx hb dX6_drawFirst_49 rfl (lv_at hl 2 rfl) ?_
  refine r_get (v' := .int (S 206)) hx hb hts in_X6_drawFirst_X6 hown w 0 0 rfl rfl (ci := 10) rfl 4 (by decide) (hts _ (List.mem_of_getElem? (i := 5) rfl)) rfl rfl rfl dX6_drawFirst_50 ?_
  refine lv_iload_n hx hb dX6_drawFirst_53 rfl (lv_at hl 1 rfl) ?_
  refine lv_iload_n hx hb dX6_drawFirst_54 rfl (lv_at hl 0 rfl) ?_
  refine k_vVN (As := [.int 0, .int (S 206), .int (nI z), .int (pBring (S 205))]) (rest := []) (Rs := [stB a S, lnB ty a (sFetch S z (pBring (S 205))), quB ty a S, weB a (sPump S)]) (Bs' := [stB a S, lnB ty a (sFetch S z (pBring (S 205))), quB ty a S, weB a (sPump S), miB ty a (mNote M 0 (S 206) (nI z) (pBring (S 205)))]) ⟨hx, hb, hml, hown, hts⟩ w (c_X3_note l D ty a M x (hM).1 (hM).2 0 (S 206) (nI z) (pBring (S 205))) ⟨va_cnB 4 hts gX6_drawFirst_X3_note_n135 rfl rfl rfl (w.2.2.2.2.2 _ (List.mem_of_getElem? (i := 66) rfl)) (hts _ (List.mem_of_getElem? (i := 22) rfl)) hdN_X3_note ⟨Nat.le_of_ble_eq_true rfl, Nat.le_of_ble_eq_true rfl⟩, (hts _ (List.mem_of_getElem? (i := 21) rfl)), (hts _ (List.mem_of_getElem? (i := 23) rfl))⟩ [4, 0, 1, 2, 3] (nB := 5) (by decide) rfl rfl rfl rfl 4 rfl rfl (ci := 7) rfl rfl rfl hl.1 rfl (Nat.le_of_ble_eq_true rfl) dX6_drawFirst_55 ⟨(Nat.zero_le _), (Nat.zero_le _)⟩ (fun H locs w => ?_)
  refine lv_aload_n hx hb dX6_drawFirst_58 rfl (lv_at hl 2 rfl) ?_
  refine r_get (v' := .ref (a 17)) hx hb hts in_X6_drawFirst_X6 hown w 0 0 rfl rfl (ci := 10) rfl 1 (by decide) (hts _ (List.mem_of_getElem? (i := 1) rfl)) rfl rfl rfl dX6_drawFirst_59 ?_
  refine lv_iconst (v := 0) hx hb dX6_drawFirst_62 (by decide) ?_
  refine k_vVN (As := [.int 0]) (rest := []) (Rs := [stB a S, lnB ty a (sFetch S z (pBring (S 205))), weB a (sPump S), miB ty a (mNote M 0 (S 206) (nI z) (pBring (S 205)))]) (Bs' := [stB a S, lnB ty a (sFetch S z (pBring (S 205))), quB ty a (sGo S q 0), weB a (sPump S), miB ty a (mNote M 0 (S 206) (nI z) (pBring (S 205)))]) ⟨hx, hb, hml, hown, hts⟩ w (c_X4_removePlace l D ty a S q (hI).2.2.1 (hI).2.2.2.1 0 (by omega)) ⟨va_cnB 1 hts gX6_drawFirst_X4_removePlace_n125 rfl rfl rfl (w.2.2.2.2.2 _ (List.mem_of_getElem? (i := 67) rfl)) (hts _ (List.mem_of_getElem? (i := 33) rfl)) hdN_X4_removePlace ⟨Nat.le_of_ble_eq_true rfl, Nat.le_of_ble_eq_true rfl⟩, (hts _ (List.mem_of_getElem? (i := 32) rfl)), (hts _ (List.mem_of_getElem? (i := 34) rfl))⟩ [2, 0, 1, 3, 4] (nB := 5) (by decide) rfl rfl rfl rfl 2 rfl rfl (ci := 8) rfl rfl rfl hl.1 rfl (Nat.le_of_ble_eq_true rfl) dX6_drawFirst_63 ⟨(Nat.zero_le _), (Nat.zero_le _)⟩ (fun H locs w => ?_)
  have w := w.cast (drawA_w5 hI ht hq0 ez (by omega))
  refine lv_aload_n hx hb dX6_drawFirst_66 rfl (lv_at hl 2 rfl) ?_
  refine lv_iload_n hx hb dX6_drawFirst_67 rfl (lv_at hl 1 rfl) ?_
  refine k_iV (As := [.int (nI z)]) (rest := []) (Rs := []) (Bs' := [stB a ((oDrawA (S, M) q).1), lnB ty a ((oDrawA (S, M) q).1), quB ty a ((oDrawA (S, M) q).1), weB a ((oDrawA (S, M) q).1), miB ty a ((oDrawA (S, M) q).2)]) ⟨hx, hb, hml, hown, hts⟩ w (c_X6_turnsLeft l D ty a ((oDrawA (S, M) q).1) ((oDrawA (S, M) q).2) n (q - 1) (pSh_dA hI ht hq0 ez (by omega)) z (by omega)) (cwV 1 hts gX6_drawFirst_X6_turnsLeft rfl rfl rfl ⟨rfl, hdN_X6_turnsLeft⟩ ⟨Nat.le_of_ble_eq_true rfl, Nat.le_of_ble_eq_true rfl⟩) [0, 1, 2, 3, 4] (nB := 5) (by decide) rfl rfl rfl rfl 0 rfl rfl (ci := 10) rfl rfl rfl hl.1 rfl (Nat.le_of_ble_eq_true rfl) dX6_drawFirst_68 ⟨(Nat.zero_le _), (Nat.zero_le _)⟩ (fun H locs w => ?_)
  refine lv_if_le (tgt := 82) hx hb dX6_drawFirst_71 (by decide) (fun c71 => ?_) (fun c71 => ?_)
  · refine lv_iload_n hx hb dX6_drawFirst_82 rfl (lv_at hl 0 rfl) ?_
    exact e_i hx hb hr hlocks (w.cast (by rw [draw1_no ez (by omega) c71])) rfl dX6_drawFirst_83 (Nat.le_refl _) (Nat.le_refl _)
  · refine lv_aload_n hx hb dX6_drawFirst_74 rfl (lv_at hl 2 rfl) ?_
    refine r_get (v' := .ref (a 17)) hx hb hts in_X6_drawFirst_X6 hown w 0 0 rfl rfl (ci := 10) rfl 1 (by decide) (hts _ (List.mem_of_getElem? (i := 1) rfl)) rfl rfl rfl dX6_drawFirst_75 ?_
    refine lv_iload_n hx hb dX6_drawFirst_78 rfl (lv_at hl 1 rfl) ?_
    refine k_vVN (As := [.int (nI z)]) (rest := []) (Rs := [stB a ((oDrawA (S, M) q).1), lnB ty a ((oDrawA (S, M) q).1), weB a ((oDrawA (S, M) q).1), miB ty a ((oDrawA (S, M) q).2)]) (Bs' := [stB a ((oDrawA (S, M) q).1), lnB ty a ((oDrawA (S, M) q).1), quB ty a (sCome ((oDrawA (S, M) q).1) (q - 1) z), weB a ((oDrawA (S, M) q).1), miB ty a ((oDrawA (S, M) q).2)]) ⟨hx, hb, hml, hown, hts⟩ w (c_X4_addLast l D ty a ((oDrawA (S, M) q).1) (q - 1) (pSh_dA hI ht hq0 ez (by omega)).2.2.1 (by omega) z) ⟨va_cnB 1 hts gX6_drawFirst_X4_addLast_n129 rfl rfl rfl (w.2.2.2.2.2 _ (List.mem_of_getElem? (i := 68) rfl)) (hts _ (List.mem_of_getElem? (i := 33) rfl)) hdN_X4_addLast ⟨Nat.le_of_ble_eq_true rfl, Nat.le_of_ble_eq_true rfl⟩, (hts _ (List.mem_of_getElem? (i := 61) rfl)), (hts _ (List.mem_of_getElem? (i := 62) rfl))⟩ [2, 0, 1, 3, 4] (nB := 5) (by decide) rfl rfl rfl rfl 2 rfl rfl (ci := 8) rfl rfl rfl hl.1 rfl (Nat.le_of_ble_eq_true rfl) dX6_drawFirst_79 ⟨(Nat.zero_le _), (Nat.zero_le _)⟩ (fun H locs w => ?_)
    refine lv_iload_n hx hb dX6_drawFirst_82 rfl (lv_at hl 0 rfl) ?_
    exact e_i hx hb hr hlocks ((w.cast (come_w5 (by omega))).cast (by rw [draw1_yes ez (by omega) c71])) rfl dX6_drawFirst_83 (Nat.le_refl _) (Nat.le_refl _)

theorem in_X6_letDraw_X4 : ∀ w ∈ wsX40, w ∈ wsX6_letDraw := by decide +kernel
theorem in_X6_letDraw_X6 : ∀ w ∈ wsX60, w ∈ wsX6_letDraw := by decide +kernel
theorem hdN_X6_letDraw : yX6_letDraw.cls ≠ "java/lang/invoke/MethodHandle" ∧ yX6_letDraw.cls ≠ "java/lang/invoke/VarHandle" ∧ (parseMethodDescriptor yX6_letDraw.desc).map (fun d => d.parameters.length) = some 1 := by decide +kernel
set_option maxRecDepth 100000 in
set_option maxHeartbeats 4000000 in
theorem c_X6_letDraw (l : Launch) (D : va_G) (ty : Nat → ClassId) (a : Nat → Nat) (S M : pS) (n q : Nat) (hI : pSh S n q) (j : Nat) (hj : j ≤ 50) (hK : ∀ k, k ≤ j → ∃ q' x', pSh (oDrawN k (S, M)).2.1 n q' ∧ cN ((oDrawN k (S, M)).2.1 122) ≤ 20 ∧ mOK (oDrawN k (S, M)).2.2 x' ∧ (k < j → 0 < q'))  : Mi l yX6_letDraw wsX6_letDraw (kR 4 87 0 0) D (kTY ty) [.ref (a 0), .int (nI j)] [stB a S, lnB ty a S, quB ty a S, weB a S, miB ty a M] [stB a (((oDrawN j (S, M)).2).1), lnB ty a (((oDrawN j (S, M)).2).1), quB ty a (((oDrawN j (S, M)).2).1), weB a (((oDrawN j (S, M)).2).1), miB ty a (((oDrawN j (S, M)).2).2)] ((oDrawN j (S, M)).1) 0 0 := by
  refine m_i (cc := cX6_letDraw) (maxL := 4) (ret := (some .int)) (by decide +kernel) rfl (Nat.le_of_ble_eq_true rfl) ?_
  intro p e s m below meth c A ls hx hb hml hr hlocks hown hts w hl
  have hown : s.vm.findClass RX6 = some m.cls := hown
  have hl : lv_has ls 4 [(0, .ref (a 0)), (1, .int (nI j))] := hl
  refine lv_iconst (v := 0) hx hb dX6_letDraw_0 (by decide) ?_
  refine lv_istore_n (lv' := [(2, .int 0), (0, .ref (a 0)), (1, .int (nI j))]) hx hb dX6_letDraw_1 rfl hl (by decide) rfl (fun ls hl => ?_)
  refine lv_iconst (v := 0) hx hb dX6_letDraw_2 (by decide) ?_
  refine lv_istore_n (lv' := [(3, .int 0), (2, .int 0), (0, .ref (a 0)), (1, .int (nI j))]) hx hb dX6_letDraw_3 rfl hl (by decide) rfl (fun ls hl => ?_)
  refine k_loop (fun k H locs ls => ∃ (T : pS) (U : pS) (v : Int32), kW D (kTY ty) A s.heap s H locs [stB a T, lnB ty a T, quB ty a T, weB a T, miB ty a U] ∧ lv_has ls 4 [(0, .ref (a 0)), (1, .int (nI j)), (2, .int v), (3, .int (nI k))] ∧ (oDrawN k (S, M) = (v, (T, U)))) j 0 (by omega) ⟨S, M, 0, w, lv_sub hl [2, 3, 1, 0] rfl, rfl⟩ ?_
  intro k hk0 hk ihk H locs ls hI
  obtain ⟨T, U, v, w, hl, hoj⟩ := hI
  refine lv_iload_n hx hb dX6_letDraw_4 rfl (lv_at hl 3 rfl) ?_
  refine lv_iload_n hx hb dX6_letDraw_5 rfl (lv_at hl 1 rfl) ?_
  refine lv_icmp_ge (tgt := 32) hx hb dX6_letDraw_6 (by decide) (fun c6 => ?_) (fun c6 => ?_)
  · have c6 := (nI_leI (a := j) (b := k) (by omega) (by omega)).mp c6
    obtain rfl : j = k := by omega
    refine lv_iload_n hx hb dX6_letDraw_32 rfl (lv_at hl 2 rfl) ?_
    exact e_i hx hb hr hlocks (w.cast (by rw [hoj])) (by rw [hoj]) dX6_letDraw_33 (Nat.le_refl _) (Nat.le_refl _)
  · have c6 := mt (nI_leI (a := j) (b := k) (by omega) (by omega)).mpr c6
    obtain ⟨q1, x1, hs, ht1, hm1, hq1⟩ := hK k (by omega)
    rw [hoj] at hs ht1 hm1
    have hq1 := hq1 (by omega)
    refine lv_aload_n hx hb dX6_letDraw_9 rfl (lv_at hl 0 rfl) ?_
    refine r_get (v' := .ref (a 17)) hx hb hts in_X6_letDraw_X6 hown w 0 0 rfl rfl (ci := 10) rfl 1 (by decide) (hts _ (List.mem_of_getElem? (i := 1) rfl)) rfl rfl rfl dX6_letDraw_10 ?_
    refine r_getN (v' := .int (nI q1)) hx hb hts in_X6_letDraw_X4 hown w 2 0 rfl rfl (ci := 8) rfl 0 (by decide) (w.2.2.2.2.2 _ (List.mem_of_getElem? (i := 16) rfl)) rfl rfl (congrArg Value.int hs.2.2.1) dX6_letDraw_13 ?_
    refine lv_if_le (tgt := 32) hx hb dX6_letDraw_16 (by decide) (fun c16 => ?_) (fun c16 => ?_)
    · exact absurd c16 (nI_nle hq1 (by have := hs.2.2.2.1; omega))
    · refine lv_iload_n hx hb dX6_letDraw_19 rfl (lv_at hl 2 rfl) ?_
      refine lv_aload_n hx hb dX6_letDraw_20 rfl (lv_at hl 0 rfl) ?_
      refine k_iV (As := []) (rest := [.int v]) (Rs := []) (Bs' := [stB a ((oDraw1 (T, U) q1).1), lnB ty a ((oDraw1 (T, U) q1).1), quB ty a ((oDraw1 (T, U) q1).1), weB a ((oDraw1 (T, U) q1).1), miB ty a ((oDraw1 (T, U) q1).2)]) ⟨hx, hb, hml, hown, hts⟩ w (c_X6_drawFirst l D ty a T U n q1 (hs) ht1 x1 (hm1) hq1) (cwV 0 hts gX6_letDraw_X6_drawFirst rfl rfl rfl ⟨rfl, hdN_X6_drawFirst⟩ ⟨Nat.le_of_ble_eq_true rfl, Nat.le_of_ble_eq_true rfl⟩) [0, 1, 2, 3, 4] (nB := 5) (by decide) rfl rfl rfl rfl 0 rfl rfl (ci := 10) rfl rfl rfl hl.1 rfl (Nat.le_of_ble_eq_true rfl) dX6_letDraw_21 ⟨(Nat.zero_le _), (Nat.zero_le _)⟩ (fun H locs w => ?_)
      refine lv_iadd hx hb dX6_letDraw_24 ?_
      refine lv_istore_n (lv' := [(2, .int (v + (pBring (T 205)))), (0, .ref (a 0)), (1, .int (nI j)), (3, .int (nI k))]) hx hb dX6_letDraw_25 rfl hl (by decide) rfl (fun ls hl => ?_)
      refine lv_iinc (v := (nI (k + 1))) (lv' := [(3, .int (nI (k + 1))), (2, .int (v + (pBring (T 205)))), (0, .ref (a 0)), (1, .int (nI j))]) hx hb dX6_letDraw_26 hl (k := 3) rfl (inc1 k) (by decide) rfl (fun ls hl => ?_)
      refine lv_goto (tgt := 4) hx hb dX6_letDraw_29 (by decide) ?_
      exact ihk _ _ _ ⟨_, _, _, w, lv_sub hl [2, 3, 1, 0] rfl, (drawN_s hoj hs.2.2.1 hs.2.2.2.1)⟩ (by omega)
