theorem in_X9_leaves_X9 : ∀ w ∈ wsX90, w ∈ wsX9_leaves := by decide +kernel
theorem hdN_X9_leaves : yX9_leaves.cls ≠ "java/lang/invoke/MethodHandle" ∧ yX9_leaves.cls ≠ "java/lang/invoke/VarHandle" ∧ (parseMethodDescriptor yX9_leaves.desc).map (fun d => d.parameters.length) = some 1 := by decide +kernel
set_option maxRecDepth 100000 in
set_option maxHeartbeats 4000000 in
theorem c_X9_leaves (l : Launch) (D : va_G) (ty : Nat → ClassId) (r : Nat → Nat) (F S : pS) (hF : F 16 = 0) (n q : Nat) (hI : pSh S n q) (h : Int32)  : Mi l yX9_leaves wsX9_leaves (kR 2 43 0 0) D (kTY ty) [.ref (r 0), .int h] [moB r F, arB ty (r 1) 215 (sqA 215 S)] [moB r (hnd (wLeave S h) F), arB ty (r 1) 215 (sqA 215 (gR (wLeave S h) (sGo S q (cN (pPl S h q))) S))] (gR (wLeave S h) (pPl S h q) (-1)) 0 0 := by
  refine m_i (cc := cX9_leaves) (maxL := 3) (ret := (some .int)) (by decide +kernel) rfl (Nat.le_of_ble_eq_true rfl) ?_
  intro p e s m below meth c A ls hx hb hml hr hlocks hown hts w hl
  have hown : s.vm.findClass RX9 = some m.cls := hown
  have hl : lv_has ls 3 [(0, .ref (r 0)), (1, .int h)] := hl
  obtain ⟨h0, hn, h1, hq, he, hd, hdr, hwr⟩ := id hI
  refine lv_aload_n hx hb dX9_leaves_0 rfl (lv_at hl 0 rfl) ?_
  refine k_cut (fun H locs ls => kW D (kTY ty) A s.heap s H locs [moB r F, arB ty (r 1) 215 (sqA 215 S)] ∧ lv_has ls 3 [(0, .ref (r 0)), (1, .int h)]) (pc' := 14) (st' := [.int (bI (!(pHas h n))), .ref (r 0)]) ?_ ?_
  · intro H locs ls hI
    obtain ⟨w, hl⟩ := hI
    refine lv_iconst (v := 3) hx hb dX9_leaves_14 (by decide) ?_
    refine lv_iload_n hx hb dX9_leaves_15 rfl (lv_at hl 1 rfl) ?_
    refine k_vV (As := [.int (bI (!(pHas h n))), .int 3, .int h]) (rest := []) (Rs := [arB ty (r 1) 215 (sqA 215 S)]) (Bs' := [moB r (hin (!(pHas h n)) 3 h F), arB ty (r 1) 215 (sqA 215 S)]) ⟨hx, hb, hml, hown, hts⟩ w (c_X9_hinders l D ty r F (!(pHas h n)) 3 h) (cwV 3 hts gX9_leaves_X9_hinders rfl rfl rfl ⟨rfl, hdN_X9_hinders⟩ ⟨Nat.le_of_ble_eq_true rfl, Nat.le_of_ble_eq_true rfl⟩) [0, 1] (nB := 2) (by decide) rfl rfl rfl rfl 0 rfl rfl (ci := 13) rfl rfl rfl hl.1 rfl (Nat.le_of_ble_eq_true rfl) dX9_leaves_16 ⟨(Nat.zero_le _), (Nat.zero_le _)⟩ (fun H locs w => ?_)
    refine lv_aload_n hx hb dX9_leaves_19 rfl (lv_at hl 0 rfl) ?_
    refine r_get (v' := .int ((hin (!(pHas h n)) 3 h F) 16)) hx hb hts in_X9_leaves_X9 hown w 0 0 rfl rfl (ci := 13) rfl 16 (by decide) (hts _ (List.mem_of_getElem? (i := 1) rfl)) rfl rfl rfl dX9_leaves_20 ?_
    refine lv_if_ne (tgt := 34) hx hb dX9_leaves_23 (by decide) (fun c23 => ?_) (fun c23 => ?_)
    · refine lv_iconst (v := (-1)) hx hb dX9_leaves_34 (by decide) ?_
      refine lv_istore_n (lv' := [(2, .int (-1)), (0, .ref (r 0)), (1, .int h)]) hx hb dX9_leaves_35 rfl hl (by decide) rfl (fun ls hl => ?_)
      refine lv_aload_n hx hb dX9_leaves_36 rfl (lv_at hl 1 rfl) ?_
      refine k_cut (fun H locs ls => kW D (kTY ty) A s.heap s H locs [moB r (hin (!(pHas h n)) 3 h F), arB ty (r 1) 215 (sqA 215 S)] ∧ lv_has ls 3 [(2, .int (-1)), (0, .ref (r 0)), (1, .int h)]) (pc' := 47) (st' := [.int (bI true), .ref (r 0)]) ?_ ?_
      · intro H locs ls hI
        obtain ⟨w, hl⟩ := hI
        refine lv_iconst (v := 5) hx hb dX9_leaves_47 (by decide) ?_
        refine lv_iconst (v := 0) hx hb dX9_leaves_48 (by decide) ?_
        refine k_vV (As := [.int (bI true), .int 5, .int 0]) (rest := []) (Rs := [arB ty (r 1) 215 (sqA 215 S)]) (Bs' := [moB r (hin true 5 0 (hin (!(pHas h n)) 3 h F)), arB ty (r 1) 215 (sqA 215 S)]) ⟨hx, hb, hml, hown, hts⟩ w (c_X9_hinders l D ty r (hin (!(pHas h n)) 3 h F) true 5 0) (cwV 3 hts gX9_leaves_X9_hinders rfl rfl rfl ⟨rfl, hdN_X9_hinders⟩ ⟨Nat.le_of_ble_eq_true rfl, Nat.le_of_ble_eq_true rfl⟩) [0, 1] (nB := 2) (by decide) rfl rfl rfl rfl 0 rfl rfl (ci := 13) rfl rfl rfl hl.1 rfl (Nat.le_of_ble_eq_true rfl) dX9_leaves_49 ⟨(Nat.zero_le _), (Nat.zero_le _)⟩ (fun H locs w => ?_)
        have w := w.cast (Bs' := [moB r (hnd (wLeave S h) F), arB ty (r 1) 215 (sqA 215 S)]) (by rw [(le_1 hI hF c23).1])
        refine lv_aload_n hx hb dX9_leaves_52 rfl (lv_at hl 1 rfl) ?_
        refine r_get (v' := .int ((hnd (wLeave S h) F) 16)) hx hb hts in_X9_leaves_X9 hown w 0 0 rfl rfl (ci := 13) rfl 16 (by decide) (hts _ (List.mem_of_getElem? (i := 1) rfl)) rfl rfl rfl dX9_leaves_53 ?_
        refine lv_if_ne (tgt := 64) hx hb dX9_leaves_56 (by decide) (fun c56 => ?_) (fun c56 => ?_)
        · refine lv_iload_n hx hb dX9_leaves_64 rfl (lv_at hl 0 rfl) ?_
          exact e_i hx hb hr hlocks (w.cast (by rw [gR_1 (le_1 hI hF c23).2])) (by rw [gR_1 (le_1 hI hF c23).2]) dX9_leaves_65 (Nat.le_refl _) (Nat.le_refl _)
        · exact absurd ((hnd_z hF).mp c56) (le_1 hI hF c23).2
      · intro cont47
        refine lv_iload_n hx hb dX9_leaves_37 rfl (lv_at hl 0 rfl) ?_
        refine lv_iconst (v := (-1)) hx hb dX9_leaves_38 (by decide) ?_
        refine lv_icmp_ne (tgt := 46) hx hb dX9_leaves_39 (by decide) (fun c39 => ?_) (fun c39 => ?_)
        · refine lv_iconst (v := 0) hx hb dX9_leaves_46 (by decide) ?_
          refine r_eq (y := (bI true)) (absurd rfl c39) ?_
          exact cont47 _ _ _ ⟨w, hl⟩
        · refine lv_iconst (v := 1) hx hb dX9_leaves_42 (by decide) ?_
          refine lv_goto (tgt := 47) hx hb dX9_leaves_43 (by decide) ?_
          refine r_eq (y := (bI true)) rfl ?_
          exact cont47 _ _ _ ⟨w, hl⟩
    · have hh := (hin_z hF (by decide)).mp c23
      have hh : pHas h n = true := by cases e : pHas h n; (rw [e] at hh; exact absurd hh (by decide)); rfl
      obtain ⟨i, hi, rfl⟩ := (pHas_iff (by omega)).mp hh
      refine lv_aload_n hx hb dX9_leaves_26 rfl (lv_at hl 0 rfl) ?_
      refine lv_iload_n hx hb dX9_leaves_27 rfl (lv_at hl 1 rfl) ?_
      refine k_iV (As := [.int (nI i)]) (rest := []) (Rs := []) (Bs' := [moB r (hin (!(pHas (nI i) n)) 3 (nI i) F), arB ty (r 1) 215 (sqA 215 S)]) ⟨hx, hb, hml, hown, hts⟩ w (c_X9_placeOf l D ty r (hin (!(pHas (nI i) n)) 3 (nI i) F) S q (hI).2.2.1 (hI).2.2.2.1 (nI i)) (cwV 1 hts gX9_leaves_X9_placeOf rfl rfl rfl ⟨rfl, hdN_X9_placeOf⟩ ⟨Nat.le_of_ble_eq_true rfl, Nat.le_of_ble_eq_true rfl⟩) [0, 1] (nB := 2) (by decide) rfl rfl rfl rfl 0 rfl rfl (ci := 13) rfl rfl rfl hl.1 rfl (Nat.le_of_ble_eq_true rfl) dX9_leaves_28 ⟨(Nat.zero_le _), (Nat.zero_le _)⟩ (fun H locs w => ?_)
      refine lv_goto (tgt := 35) hx hb dX9_leaves_31 (by decide) ?_
      refine lv_istore_n (lv' := [(2, .int (pPl S (nI i) q)), (0, .ref (r 0)), (1, .int (nI i))]) hx hb dX9_leaves_35 rfl hl (by decide) rfl (fun ls hl => ?_)
      refine lv_aload_n hx hb dX9_leaves_36 rfl (lv_at hl 1 rfl) ?_
      refine k_cut (fun H locs ls => kW D (kTY ty) A s.heap s H locs [moB r (hin (!(pHas (nI i) n)) 3 (nI i) F), arB ty (r 1) 215 (sqA 215 S)] ∧ lv_has ls 3 [(2, .int (pPl S (nI i) q)), (0, .ref (r 0)), (1, .int (nI i))]) (pc' := 47) (st' := [.int (bI (decide (pPl S (nI i) q = -1))), .ref (r 0)]) ?_ ?_
      · intro H locs ls hI
        obtain ⟨w, hl⟩ := hI
        refine lv_iconst (v := 5) hx hb dX9_leaves_47 (by decide) ?_
        refine lv_iconst (v := 0) hx hb dX9_leaves_48 (by decide) ?_
        refine k_vV (As := [.int (bI (decide (pPl S (nI i) q = -1))), .int 5, .int 0]) (rest := []) (Rs := [arB ty (r 1) 215 (sqA 215 S)]) (Bs' := [moB r (hin (decide (pPl S (nI i) q = -1)) 5 0 (hin (!(pHas (nI i) n)) 3 (nI i) F)), arB ty (r 1) 215 (sqA 215 S)]) ⟨hx, hb, hml, hown, hts⟩ w (c_X9_hinders l D ty r (hin (!(pHas (nI i) n)) 3 (nI i) F) (decide (pPl S (nI i) q = -1)) 5 0) (cwV 3 hts gX9_leaves_X9_hinders rfl rfl rfl ⟨rfl, hdN_X9_hinders⟩ ⟨Nat.le_of_ble_eq_true rfl, Nat.le_of_ble_eq_true rfl⟩) [0, 1] (nB := 2) (by decide) rfl rfl rfl rfl 0 rfl rfl (ci := 13) rfl rfl rfl hl.1 rfl (Nat.le_of_ble_eq_true rfl) dX9_leaves_49 ⟨(Nat.zero_le _), (Nat.zero_le _)⟩ (fun H locs w => ?_)
        have w := w.cast (Bs' := [moB r (hnd (wLeave S (nI i)) F), arB ty (r 1) 215 (sqA 215 S)]) (by rw [le_W hI hi hF])
        refine lv_aload_n hx hb dX9_leaves_52 rfl (lv_at hl 1 rfl) ?_
        refine r_get (v' := .int ((hnd (wLeave S (nI i)) F) 16)) hx hb hts in_X9_leaves_X9 hown w 0 0 rfl rfl (ci := 13) rfl 16 (by decide) (hts _ (List.mem_of_getElem? (i := 1) rfl)) rfl rfl rfl dX9_leaves_53 ?_
        refine lv_if_ne (tgt := 64) hx hb dX9_leaves_56 (by decide) (fun c56 => ?_) (fun c56 => ?_)
        · have hW : ¬ (wLeave S (nI i)).1 = 0 := mt (hnd_z hF).mpr c56
          refine lv_iload_n hx hb dX9_leaves_64 rfl (lv_at hl 0 rfl) ?_
          exact e_i hx hb hr hlocks (w.cast (by rw [gR_1 hW])) (by rw [gR_1 hW, le_n hI hi hW]) dX9_leaves_65 (Nat.le_refl _) (Nat.le_refl _)
        · have hW : (wLeave S (nI i)).1 = 0 := (hnd_z hF).mp c56
          obtain ⟨u, hu, hu2⟩ := le_p hI hi hW
          rw [hu2] at hl
          refine lv_aload_n hx hb dX9_leaves_59 rfl (lv_at hl 1 rfl) ?_
          refine lv_iload_n hx hb dX9_leaves_60 rfl (lv_at hl 0 rfl) ?_
          refine k_vV (As := [.int (nI u)]) (rest := []) (Rs := []) (Bs' := [moB r (hnd (wLeave S (nI i)) F), arB ty (r 1) 215 (sqA 215 (sGo S q u))]) ⟨hx, hb, hml, hown, hts⟩ w (c_X9_goesFrom l D ty r (hnd (wLeave S (nI i)) F) S q (hI).2.2.1 (hI).2.2.2.1 u (by omega)) (cwV 1 hts gX9_leaves_X9_goesFrom rfl rfl rfl ⟨rfl, hdN_X9_goesFrom⟩ ⟨Nat.le_of_ble_eq_true rfl, Nat.le_of_ble_eq_true rfl⟩) [0, 1] (nB := 2) (by decide) rfl rfl rfl rfl 0 rfl rfl (ci := 13) rfl rfl rfl hl.1 rfl (Nat.le_of_ble_eq_true rfl) dX9_leaves_61 ⟨(Nat.zero_le _), (Nat.zero_le _)⟩ (fun H locs w => ?_)
          refine lv_iload_n hx hb dX9_leaves_64 rfl (lv_at hl 0 rfl) ?_
          exact e_i hx hb hr hlocks (w.cast (by rw [gR_0 hW, hu2, cN_nI (by omega)])) (by rw [gR_0 hW, hu2]) dX9_leaves_65 (Nat.le_refl _) (Nat.le_refl _)
      · intro cont47
        refine lv_iload_n hx hb dX9_leaves_37 rfl (lv_at hl 0 rfl) ?_
        refine lv_iconst (v := (-1)) hx hb dX9_leaves_38 (by decide) ?_
        refine lv_icmp_ne (tgt := 46) hx hb dX9_leaves_39 (by decide) (fun c39 => ?_) (fun c39 => ?_)
        · refine lv_iconst (v := 0) hx hb dX9_leaves_46 (by decide) ?_
          refine r_eq (y := (bI (decide (pPl S (nI i) q = -1)))) (bI_d0 c39) ?_
          exact cont47 _ _ _ ⟨w, hl⟩
        · refine lv_iconst (v := 1) hx hb dX9_leaves_42 (by decide) ?_
          refine lv_goto (tgt := 47) hx hb dX9_leaves_43 (by decide) ?_
          refine r_eq (y := (bI (decide (pPl S (nI i) q = -1)))) (bI_d1 c39) ?_
          exact cont47 _ _ _ ⟨w, hl⟩
  · intro cont14
    refine lv_aload_n hx hb dX9_leaves_1 rfl (lv_at hl 0 rfl) ?_
    refine lv_iload_n hx hb dX9_leaves_2 rfl (lv_at hl 1 rfl) ?_
    refine k_iV (As := [.int h]) (rest := [.ref (r 0)]) (Rs := []) (Bs' := [moB r F, arB ty (r 1) 215 (sqA 215 S)]) ⟨hx, hb, hml, hown, hts⟩ w (c_X9_isHousehold l D ty r F S n (hI).1 (hI).2.1 h) (cwV 1 hts gX9_leaves_X9_isHousehold rfl rfl rfl ⟨rfl, hdN_X9_isHousehold⟩ ⟨Nat.le_of_ble_eq_true rfl, Nat.le_of_ble_eq_true rfl⟩) [0, 1] (nB := 2) (by decide) rfl rfl rfl rfl 0 rfl rfl (ci := 13) rfl rfl rfl hl.1 rfl (Nat.le_of_ble_eq_true rfl) dX9_leaves_3 ⟨(Nat.zero_le _), (Nat.zero_le _)⟩ (fun H locs w => ?_)
    refine lv_if_ne (tgt := 13) hx hb dX9_leaves_6 (by decide) (fun c6 => ?_) (fun c6 => ?_)
    · have c6 := bI_1.mp c6
      refine lv_iconst (v := 0) hx hb dX9_leaves_13 (by decide) ?_
      refine r_eq (y := (bI (!(pHas h n)))) (nb_0 c6) ?_
      exact cont14 _ _ _ ⟨w, hl⟩
    · have c6 := bI_0.mp c6
      refine lv_iconst (v := 1) hx hb dX9_leaves_9 (by decide) ?_
      refine lv_goto (tgt := 14) hx hb dX9_leaves_10 (by decide) ?_
      refine r_eq (y := (bI (!(pHas h n)))) (nb_1 c6) ?_
      exact cont14 _ _ _ ⟨w, hl⟩

theorem hdN_X9_brings : yX9_brings.cls ≠ "java/lang/invoke/MethodHandle" ∧ yX9_brings.cls ≠ "java/lang/invoke/VarHandle" ∧ (parseMethodDescriptor yX9_brings.desc).map (fun d => d.parameters.length) = some 1 := by decide +kernel
set_option maxRecDepth 100000 in
set_option maxHeartbeats 4000000 in
theorem c_X9_brings (l : Launch) (D : va_G) (ty : Nat → ClassId) (v : Int32)  : Mi l yX9_brings wsX9_brings (kR 1 14 0 0) D (kTY ty) [.int v] [] [] (pBring v) 0 0 := by
  refine m_i (cc := cX9_brings) (maxL := 1) (ret := (some .int)) (by decide +kernel) rfl (Nat.le_of_ble_eq_true rfl) ?_
  intro p e s m below meth c A ls hx hb hml hr hlocks hown hts w hl
  have hown : s.vm.findClass RX9 = some m.cls := hown
  have hl : lv_has ls 1 [(0, .int v)] := hl
  refine lv_bipush (v := 10) hx hb dX9_brings_0 (by decide) ?_
  refine lv_bipush (v := 50) hx hb dX9_brings_2 (by decide) ?_
  refine lv_iload_n hx hb dX9_brings_4 rfl (lv_at hl 0 rfl) ?_
  refine va_mmin hx hb (hml.trans hl.1.symm) hown (hts _ (List.mem_of_getElem? (i := 1) rfl)) (hts _ (List.mem_of_getElem? (i := 2) rfl)) (hts _ (List.mem_of_getElem? (i := 3) rfl)) (hts _ (List.mem_of_getElem? (i := 4) rfl)) (Nat.le_of_ble_eq_true rfl) (Nat.le_of_ble_eq_true rfl) (Nat.zero_le _) (Nat.zero_le _) dX9_brings_5 ?_
  refine r_eq (y := (jmin 50 v)) rfl ?_
  refine lv_bipush (v := 10) hx hb dX9_brings_8 (by decide) ?_
  refine lv_idiv hx hb dX9_brings_10 (by decide) ?_
  refine lv_isub hx hb dX9_brings_11 ?_
  exact e_i hx hb hr hlocks w (pBring_mk v) dX9_brings_12 (Nat.le_refl _) (Nat.le_refl _)

theorem in_X9_allLeft_X9 : ∀ w ∈ wsX90, w ∈ wsX9_allLeft := by decide +kernel
theorem hdN_X9_allLeft : yX9_allLeft.cls ≠ "java/lang/invoke/MethodHandle" ∧ yX9_allLeft.cls ≠ "java/lang/invoke/VarHandle" ∧ (parseMethodDescriptor yX9_allLeft.desc).map (fun d => d.parameters.length) = some 0 := by decide +kernel
set_option maxRecDepth 100000 in
set_option maxHeartbeats 4000000 in
theorem c_X9_allLeft (l : Launch) (D : va_G) (ty : Nat → ClassId) (r : Nat → Nat) (F S : pS) (n q : Nat) (hI : pSh S n q) (hL : PL S q)  : Mi l yX9_allLeft wsX9_allLeft (kR 4 87 0 0) D (kTY ty) [.ref (r 0)] [moB r F, arB ty (r 1) 215 (sqA 215 S)] [moB r F, arB ty (r 1) 215 (sqA 215 S)] (pAll S q) 0 0 := by
  refine m_i (cc := cX9_allLeft) (maxL := 3) (ret := (some .int)) (by decide +kernel) rfl (Nat.le_of_ble_eq_true rfl) ?_
  intro p e s m below meth c A ls hx hb hml hr hlocks hown hts w hl
  have hown : s.vm.findClass RX9 = some m.cls := hown
  have hl : lv_has ls 3 [(0, .ref (r 0))] := hl
  obtain ⟨h0, hn, h1, hq, he, hd, hdr, hwr⟩ := id hI
  refine lv_iconst (v := 0) hx hb dX9_allLeft_0 (by decide) ?_
  refine lv_istore_n (lv' := [(1, .int 0), (0, .ref (r 0))]) hx hb dX9_allLeft_1 rfl hl (by decide) rfl (fun ls hl => ?_)
  refine lv_iconst (v := 0) hx hb dX9_allLeft_2 (by decide) ?_
  refine lv_istore_n (lv' := [(2, .int 0), (1, .int 0), (0, .ref (r 0))]) hx hb dX9_allLeft_3 rfl hl (by decide) rfl (fun ls hl => ?_)
  refine k_loop (fun k H locs ls => kW D (kTY ty) A s.heap s H locs [moB r F, arB ty (r 1) 215 (sqA 215 S)] ∧ lv_has ls 3 [(0, .ref (r 0)), (1, .int (pAll S k)), (2, .int (nI k))]) q 0 (by omega) ⟨w, lv_sub hl [2, 1, 0] rfl⟩ ?_
  intro k hk0 hk ihk H locs ls hI
  obtain ⟨w, hl⟩ := hI
  refine lv_iload_n hx hb dX9_allLeft_4 rfl (lv_at hl 2 rfl) ?_
  refine lv_aload_n hx hb dX9_allLeft_5 rfl (lv_at hl 0 rfl) ?_
  refine r_get (v' := .ref (r 1)) hx hb hts in_X9_allLeft_X9 hown w 0 0 rfl rfl (ci := 13) rfl 0 (by decide) (hts _ (List.mem_of_getElem? (i := 1) rfl)) rfl rfl rfl dX9_allLeft_6 ?_
  refine lv_bipush (v := 49) hx hb dX9_allLeft_9 (by decide) ?_
  refine r_iald (v := (S 49)) hx hb w 1 0 rfl rfl 0 rfl 49 (by omega) (Nat.le_of_ble_eq_true rfl) rfl (sqA_at (by omega)) dX9_allLeft_11 ?_
  refine r_eq (y := (nI q)) h1 ?_
  refine lv_icmp_ge (tgt := 41) hx hb dX9_allLeft_12 (by decide) (fun c12 => ?_) (fun c12 => ?_)
  · have c12 := (nI_leI (a := q) (b := k) (by omega) (by omega)).mp c12
    obtain rfl : q = k := by omega
    refine lv_iload_n hx hb dX9_allLeft_41 rfl (lv_at hl 1 rfl) ?_
    exact e_i hx hb hr hlocks w rfl dX9_allLeft_42 (Nat.le_refl _) (Nat.le_refl _)
  · have c12 := mt (nI_leI (a := q) (b := k) (by omega) (by omega)).mpr c12
    refine lv_iload_n hx hb dX9_allLeft_15 rfl (lv_at hl 1 rfl) ?_
    obtain ⟨hc1, hc2⟩ := pSh_c hI (j := k) (by omega)
    refine lv_iconst (v := 1) hx hb dX9_allLeft_16 (by decide) ?_
    refine lv_aload_n hx hb dX9_allLeft_17 rfl (lv_at hl 0 rfl) ?_
    refine lv_aload_n hx hb dX9_allLeft_18 rfl (lv_at hl 0 rfl) ?_
    refine r_get (v' := .ref (r 1)) hx hb hts in_X9_allLeft_X9 hown w 0 0 rfl rfl (ci := 13) rfl 0 (by decide) (hts _ (List.mem_of_getElem? (i := 1) rfl)) rfl rfl rfl dX9_allLeft_19 ?_
    refine lv_bipush (v := 50) hx hb dX9_allLeft_22 (by decide) ?_
    refine lv_iload_n hx hb dX9_allLeft_24 rfl (lv_at hl 2 rfl) ?_
    refine lv_iadd hx hb dX9_allLeft_25 ?_
    refine r_eq (y := (nI (50 + k))) (nI_add 50 k) ?_
    refine r_iald (v := (S (50 + k))) hx hb w 1 0 rfl rfl 0 rfl (50 + k) (by omega) (Nat.le_of_ble_eq_true rfl) rfl (sqA_at (by omega)) dX9_allLeft_26 ?_
    refine r_eq (y := (nI (cN (S (50 + k))))) hc1 ?_
    refine k_iV (As := [.int (nI (cN (S (50 + k))))]) (rest := [.int 1, .int (pAll S k)]) (Rs := []) (Bs' := [moB r F, arB ty (r 1) 215 (sqA 215 S)]) ⟨hx, hb, hml, hown, hts⟩ w (c_X9_left l D ty r F S (cN (S (50 + k))) (by omega)) (cwV 1 hts gX9_allLeft_X9_left rfl rfl rfl ⟨rfl, hdN_X9_left⟩ ⟨Nat.le_of_ble_eq_true rfl, Nat.le_of_ble_eq_true rfl⟩) [0, 1] (nB := 2) (by decide) rfl rfl rfl rfl 0 rfl rfl (ci := 13) rfl rfl rfl hl.1 rfl (Nat.le_of_ble_eq_true rfl) dX9_allLeft_27 ⟨(Nat.zero_le _), (Nat.zero_le _)⟩ (fun H locs w => ?_)
    refine va_mmax hx hb (hml.trans hl.1.symm) hown (hts _ (List.mem_of_getElem? (i := 2) rfl)) (hts _ (List.mem_of_getElem? (i := 3) rfl)) (hts _ (List.mem_of_getElem? (i := 4) rfl)) (hts _ (List.mem_of_getElem? (i := 5) rfl)) (Nat.le_of_ble_eq_true rfl) (Nat.le_of_ble_eq_true rfl) (Nat.zero_le _) (Nat.zero_le _) dX9_allLeft_30 ?_
    refine r_eq (y := (jmax 1 (pLeft S (cN (S (50 + k)))))) rfl ?_
    refine lv_iadd hx hb dX9_allLeft_33 ?_
    refine r_eq (y := (pAll S (k + 1))) (by rw [al_1 (hL k (by omega))]; rfl) ?_
    refine lv_istore_n (lv' := [(1, .int (pAll S (k + 1))), (0, .ref (r 0)), (2, .int (nI k))]) hx hb dX9_allLeft_34 rfl hl (by decide) rfl (fun ls hl => ?_)
    refine lv_iinc (v := (nI (k + 1))) (lv' := [(2, .int (nI (k + 1))), (1, .int (pAll S (k + 1))), (0, .ref (r 0))]) hx hb dX9_allLeft_35 hl (k := 2) rfl (inc1 k) (by decide) rfl (fun ls hl => ?_)
    refine lv_goto (tgt := 4) hx hb dX9_allLeft_38 (by decide) ?_
    exact ihk _ _ _ ⟨w, lv_sub hl [2, 1, 0] rfl⟩ (by omega)

theorem in_X9_allBring_X9 : ∀ w ∈ wsX90, w ∈ wsX9_allBring := by decide +kernel
theorem hdN_X9_allBring : yX9_allBring.cls ≠ "java/lang/invoke/MethodHandle" ∧ yX9_allBring.cls ≠ "java/lang/invoke/VarHandle" ∧ (parseMethodDescriptor yX9_allBring.desc).map (fun d => d.parameters.length) = some 1 := by decide +kernel
set_option maxRecDepth 100000 in
set_option maxHeartbeats 4000000 in
theorem c_X9_allBring (l : Launch) (D : va_G) (ty : Nat → ClassId) (r : Nat → Nat) (F S : pS) (j : Nat) (hj : j ≤ 60)  : Mi l yX9_allBring wsX9_allBring (kR 2 34 0 0) D (kTY ty) [.ref (r 0), .int (nI j)] [moB r F, arB ty (r 1) 215 (sqA 215 S)] [moB r F, arB ty (r 1) 215 (sqA 215 S)] (pBrings S j) 0 0 := by
  refine m_i (cc := cX9_allBring) (maxL := 4) (ret := (some .int)) (by decide +kernel) rfl (Nat.le_of_ble_eq_true rfl) ?_
  intro p e s m below meth c A ls hx hb hml hr hlocks hown hts w hl
  have hown : s.vm.findClass RX9 = some m.cls := hown
  have hl : lv_has ls 4 [(0, .ref (r 0)), (1, .int (nI j))] := hl
  refine lv_iconst (v := 0) hx hb dX9_allBring_0 (by decide) ?_
  refine lv_istore_n (lv' := [(2, .int 0), (0, .ref (r 0)), (1, .int (nI j))]) hx hb dX9_allBring_1 rfl hl (by decide) rfl (fun ls hl => ?_)
  refine lv_iconst (v := 0) hx hb dX9_allBring_2 (by decide) ?_
  refine lv_istore_n (lv' := [(3, .int 0), (2, .int 0), (0, .ref (r 0)), (1, .int (nI j))]) hx hb dX9_allBring_3 rfl hl (by decide) rfl (fun ls hl => ?_)
  refine k_loop (fun k H locs ls => kW D (kTY ty) A s.heap s H locs [moB r F, arB ty (r 1) 215 (sqA 215 S)] ∧ lv_has ls 4 [(0, .ref (r 0)), (1, .int (nI j)), (2, .int (pBrings S k)), (3, .int (nI k))]) j 0 (by omega) ⟨w, lv_sub hl [2, 3, 1, 0] rfl⟩ ?_
  intro k hk0 hk ihk H locs ls hI
  obtain ⟨w, hl⟩ := hI
  refine lv_iload_n hx hb dX9_allBring_4 rfl (lv_at hl 3 rfl) ?_
  refine lv_iload_n hx hb dX9_allBring_5 rfl (lv_at hl 1 rfl) ?_
  refine lv_icmp_ge (tgt := 31) hx hb dX9_allBring_6 (by decide) (fun c6 => ?_) (fun c6 => ?_)
  · have c6 := (nI_leI (a := j) (b := k) (by omega) (by omega)).mp c6
    obtain rfl : j = k := by omega
    refine lv_iload_n hx hb dX9_allBring_31 rfl (lv_at hl 2 rfl) ?_
    exact e_i hx hb hr hlocks w rfl dX9_allBring_32 (Nat.le_refl _) (Nat.le_refl _)
  · have c6 := mt (nI_leI (a := j) (b := k) (by omega) (by omega)).mpr c6
    refine lv_iload_n hx hb dX9_allBring_9 rfl (lv_at hl 2 rfl) ?_
    refine lv_aload_n hx hb dX9_allBring_10 rfl (lv_at hl 0 rfl) ?_
    refine r_get (v' := .ref (r 1)) hx hb hts in_X9_allBring_X9 hown w 0 0 rfl rfl (ci := 13) rfl 0 (by decide) (hts _ (List.mem_of_getElem? (i := 1) rfl)) rfl rfl rfl dX9_allBring_11 ?_
    refine lv_sipush (v := 205) hx hb dX9_allBring_14 (by decide) ?_
    refine r_iald (v := (S 205)) hx hb w 1 0 rfl rfl 0 rfl 205 (by omega) (Nat.le_of_ble_eq_true rfl) rfl (sqA_at (by omega)) dX9_allBring_17 ?_
    refine lv_iload_n hx hb dX9_allBring_18 rfl (lv_at hl 3 rfl) ?_
    refine lv_iadd hx hb dX9_allBring_19 ?_
    refine k_iS (As := [.int ((S 205) + (nI k))]) (rest := [.int (pBrings S k)]) (Rs := [moB r F, arB ty (r 1) 215 (sqA 215 S)]) (Bs' := [moB r F, arB ty (r 1) 215 (sqA 215 S)]) ⟨hx, hb, hml, hown, hts⟩ w (c_X9_brings l D ty ((S 205) + (nI k))) (va_cwS 1 hts gX9_allBring_X9_brings rfl rfl rfl hdN_X9_brings ⟨Nat.le_of_ble_eq_true rfl, Nat.le_of_ble_eq_true rfl⟩) [0, 1] (nB := 2) (by decide) rfl rfl rfl rfl rfl hl.1 rfl (Nat.le_of_ble_eq_true rfl) dX9_allBring_20 ⟨(Nat.zero_le _), (Nat.zero_le _)⟩ (fun H locs w => ?_)
    refine lv_iadd hx hb dX9_allBring_23 ?_
    refine r_eq (y := (pBrings S (k + 1))) rfl ?_
    refine lv_istore_n (lv' := [(2, .int (pBrings S (k + 1))), (0, .ref (r 0)), (1, .int (nI j)), (3, .int (nI k))]) hx hb dX9_allBring_24 rfl hl (by decide) rfl (fun ls hl => ?_)
    refine lv_iinc (v := (nI (k + 1))) (lv' := [(3, .int (nI (k + 1))), (2, .int (pBrings S (k + 1))), (0, .ref (r 0)), (1, .int (nI j))]) hx hb dX9_allBring_25 hl (k := 3) rfl (inc1 k) (by decide) rfl (fun ls hl => ?_)
    refine lv_goto (tgt := 4) hx hb dX9_allBring_28 (by decide) ?_
    exact ihk _ _ _ ⟨w, lv_sub hl [2, 3, 1, 0] rfl⟩ (by omega)

theorem in_X9_drawsOne_X9 : ∀ w ∈ wsX90, w ∈ wsX9_drawsOne := by decide +kernel
theorem hdN_X9_drawsOne : yX9_drawsOne.cls ≠ "java/lang/invoke/MethodHandle" ∧ yX9_drawsOne.cls ≠ "java/lang/invoke/VarHandle" ∧ (parseMethodDescriptor yX9_drawsOne.desc).map (fun d => d.parameters.length) = some 0 := by decide +kernel
set_option maxRecDepth 100000 in
set_option maxHeartbeats 4000000 in
theorem c_X9_drawsOne (l : Launch) (D : va_G) (ty : Nat → ClassId) (r : Nat → Nat) (F S : pS) (n q : Nat) (hI : pSh S n q) (ht : nOK S) (M : pS) (hq0 : 0 < q)  : Mi l yX9_drawsOne wsX9_drawsOne (kR 4 87 0 0) D (kTY ty) [.ref (r 0)] [moB r F, arB ty (r 1) 215 (sqA 215 S)] [moB r F, arB ty (r 1) 215 (sqA 215 ((oDraw1 (S, M) q).1))] (pBring (S 205)) 0 0 := by
  refine m_i (cc := cX9_drawsOne) (maxL := 3) (ret := (some .int)) (by decide +kernel) rfl (Nat.le_of_ble_eq_true rfl) ?_
  intro p e s m below meth c A ls hx hb hml hr hlocks hown hts w hl
  have hown : s.vm.findClass RX9 = some m.cls := hown
  have hl : lv_has ls 3 [(0, .ref (r 0))] := hl
  obtain ⟨h0, hn, h1, hq, he, hd, hdr, hwr⟩ := id hI
  obtain ⟨z, hz, ez⟩ := he 0 (by omega)
  refine lv_aload_n hx hb dX9_drawsOne_0 rfl (lv_at hl 0 rfl) ?_
  refine r_get (v' := .ref (r 1)) hx hb hts in_X9_drawsOne_X9 hown w 0 0 rfl rfl (ci := 13) rfl 0 (by decide) (hts _ (List.mem_of_getElem? (i := 1) rfl)) rfl rfl rfl dX9_drawsOne_1 ?_
  refine lv_bipush (v := 50) hx hb dX9_drawsOne_4 (by decide) ?_
  refine r_iald (v := (S 50)) hx hb w 1 0 rfl rfl 0 rfl 50 (by omega) (Nat.le_of_ble_eq_true rfl) rfl (sqA_at (by omega)) dX9_drawsOne_6 ?_
  refine r_eq (y := (nI z)) ez ?_
  refine lv_istore_n (lv' := [(1, .int (nI z)), (0, .ref (r 0))]) hx hb dX9_drawsOne_7 rfl hl (by decide) rfl (fun ls hl => ?_)
  refine lv_aload_n hx hb dX9_drawsOne_8 rfl (lv_at hl 1 rfl) ?_
  refine r_get (v' := .ref (r 1)) hx hb hts in_X9_drawsOne_X9 hown w 0 0 rfl rfl (ci := 13) rfl 0 (by decide) (hts _ (List.mem_of_getElem? (i := 1) rfl)) rfl rfl rfl dX9_drawsOne_9 ?_
  refine lv_sipush (v := 205) hx hb dX9_drawsOne_12 (by decide) ?_
  refine r_iald (v := (S 205)) hx hb w 1 0 rfl rfl 0 rfl 205 (by omega) (Nat.le_of_ble_eq_true rfl) rfl (sqA_at (by omega)) dX9_drawsOne_15 ?_
  refine k_iS (As := [.int (S 205)]) (rest := []) (Rs := [moB r F, arB ty (r 1) 215 (sqA 215 S)]) (Bs' := [moB r F, arB ty (r 1) 215 (sqA 215 S)]) ⟨hx, hb, hml, hown, hts⟩ w (c_X9_brings l D ty (S 205)) (va_cwS 1 hts gX9_drawsOne_X9_brings rfl rfl rfl hdN_X9_brings ⟨Nat.le_of_ble_eq_true rfl, Nat.le_of_ble_eq_true rfl⟩) [0, 1] (nB := 2) (by decide) rfl rfl rfl rfl rfl hl.1 rfl (Nat.le_of_ble_eq_true rfl) dX9_drawsOne_16 ⟨(Nat.zero_le _), (Nat.zero_le _)⟩ (fun H locs w => ?_)
  refine lv_istore_n (lv' := [(2, .int (pBring (S 205))), (1, .int (nI z)), (0, .ref (r 0))]) hx hb dX9_drawsOne_19 rfl hl (by decide) rfl (fun ls hl => ?_)
  refine lv_aload_n hx hb dX9_drawsOne_20 rfl (lv_at hl 2 rfl) ?_
  refine lv_iconst (v := 0) hx hb dX9_drawsOne_21 (by decide) ?_
  refine r_eq (y := (nI 0)) rfl ?_
  refine k_vV (As := [.int (nI 0)]) (rest := []) (Rs := []) (Bs' := [moB r F, arB ty (r 1) 215 (sqA 215 (sGo S q 0))]) ⟨hx, hb, hml, hown, hts⟩ w (c_X9_goesFrom l D ty r F S q (hI).2.2.1 (hI).2.2.2.1 0 (by omega)) (cwV 1 hts gX9_drawsOne_X9_goesFrom rfl rfl rfl ⟨rfl, hdN_X9_goesFrom⟩ ⟨Nat.le_of_ble_eq_true rfl, Nat.le_of_ble_eq_true rfl⟩) [0, 1] (nB := 2) (by decide) rfl rfl rfl rfl 0 rfl rfl (ci := 13) rfl rfl rfl hl.1 rfl (Nat.le_of_ble_eq_true rfl) dX9_drawsOne_22 ⟨(Nat.zero_le _), (Nat.zero_le _)⟩ (fun H locs w => ?_)
  refine lv_aload_n hx hb dX9_drawsOne_25 rfl (lv_at hl 2 rfl) ?_
  refine r_get (v' := .ref (r 1)) hx hb hts in_X9_drawsOne_X9 hown w 0 0 rfl rfl (ci := 13) rfl 0 (by decide) (hts _ (List.mem_of_getElem? (i := 1) rfl)) rfl rfl rfl dX9_drawsOne_26 ?_
  refine lv_sipush (v := 204) hx hb dX9_drawsOne_29 (by decide) ?_
  refine lv_dup2_11 hx hb dX9_drawsOne_32 rfl rfl ?_
  refine r_iald (v := ((sGo S q 0) 204)) hx hb w 1 0 rfl rfl 0 rfl 204 (by omega) (Nat.le_of_ble_eq_true rfl) rfl (sqA_at (by omega)) dX9_drawsOne_33 ?_
  refine lv_iload_n hx hb dX9_drawsOne_34 rfl (lv_at hl 0 rfl) ?_
  refine lv_isub hx hb dX9_drawsOne_35 ?_
  refine r_iast hx hb w 1 0 rfl rfl 0 rfl 204 (by omega) (Nat.le_of_ble_eq_true rfl) rfl (arB ty (r 1) 215 (sqA 215 (upd (sGo S q 0) 204 (((sGo S q 0) 204) - (pBring (S 205)))))) (arB_st (by omega)) [moB r F, arB ty (r 1) 215 (sqA 215 (upd (sGo S q 0) 204 (((sGo S q 0) 204) - (pBring (S 205)))))] rfl dX9_drawsOne_36 (fun H locs w => ?_)
  refine lv_aload_n hx hb dX9_drawsOne_37 rfl (lv_at hl 2 rfl) ?_
  refine r_get (v' := .ref (r 1)) hx hb hts in_X9_drawsOne_X9 hown w 0 0 rfl rfl (ci := 13) rfl 0 (by decide) (hts _ (List.mem_of_getElem? (i := 1) rfl)) rfl rfl rfl dX9_drawsOne_38 ?_
  refine lv_sipush (v := 210) hx hb dX9_drawsOne_41 (by decide) ?_
  refine lv_dup2_11 hx hb dX9_drawsOne_44 rfl rfl ?_
  refine r_iald (v := ((sGo S q 0) 210)) hx hb w 1 0 rfl rfl 0 rfl 210 (by omega) (Nat.le_of_ble_eq_true rfl) rfl (sqA_at (by omega)) dX9_drawsOne_45 ?_
  refine lv_iload_n hx hb dX9_drawsOne_46 rfl (lv_at hl 0 rfl) ?_
  refine lv_iadd hx hb dX9_drawsOne_47 ?_
  refine r_iast hx hb w 1 0 rfl rfl 0 rfl 210 (by omega) (Nat.le_of_ble_eq_true rfl) rfl (arB ty (r 1) 215 (sqA 215 (upd (upd (sGo S q 0) 204 (((sGo S q 0) 204) - (pBring (S 205)))) 210 (((sGo S q 0) 210) + (pBring (S 205)))))) (arB_st (by omega)) [moB r F, arB ty (r 1) 215 (sqA 215 (upd (upd (sGo S q 0) 204 (((sGo S q 0) 204) - (pBring (S 205)))) 210 (((sGo S q 0) 210) + (pBring (S 205)))))] rfl dX9_drawsOne_48 (fun H locs w => ?_)
  refine lv_aload_n hx hb dX9_drawsOne_49 rfl (lv_at hl 2 rfl) ?_
  refine r_get (v' := .ref (r 1)) hx hb hts in_X9_drawsOne_X9 hown w 0 0 rfl rfl (ci := 13) rfl 0 (by decide) (hts _ (List.mem_of_getElem? (i := 1) rfl)) rfl rfl rfl dX9_drawsOne_50 ?_
  refine lv_sipush (v := 212) hx hb dX9_drawsOne_53 (by decide) ?_
  refine lv_dup2_11 hx hb dX9_drawsOne_56 rfl rfl ?_
  refine r_iald (v := ((sGo S q 0) 212)) hx hb w 1 0 rfl rfl 0 rfl 212 (by omega) (Nat.le_of_ble_eq_true rfl) rfl (sqA_at (by omega)) dX9_drawsOne_57 ?_
  refine lv_iconst (v := 1) hx hb dX9_drawsOne_58 (by decide) ?_
  refine lv_iadd hx hb dX9_drawsOne_59 ?_
  refine r_iast hx hb w 1 0 rfl rfl 0 rfl 212 (by omega) (Nat.le_of_ble_eq_true rfl) rfl (arB ty (r 1) 215 (sqA 215 (upd (upd (upd (sGo S q 0) 204 (((sGo S q 0) 204) - (pBring (S 205)))) 210 (((sGo S q 0) 210) + (pBring (S 205)))) 212 (((sGo S q 0) 212) + 1)))) (arB_st (by omega)) [moB r F, arB ty (r 1) 215 (sqA 215 (upd (upd (upd (sGo S q 0) 204 (((sGo S q 0) 204) - (pBring (S 205)))) 210 (((sGo S q 0) 210) + (pBring (S 205)))) 212 (((sGo S q 0) 212) + 1)))] rfl dX9_drawsOne_60 (fun H locs w => ?_)
  refine lv_aload_n hx hb dX9_drawsOne_61 rfl (lv_at hl 2 rfl) ?_
  refine r_get (v' := .ref (r 1)) hx hb hts in_X9_drawsOne_X9 hown w 0 0 rfl rfl (ci := 13) rfl 0 (by decide) (hts _ (List.mem_of_getElem? (i := 1) rfl)) rfl rfl rfl dX9_drawsOne_62 ?_
  refine lv_sipush (v := 205) hx hb dX9_drawsOne_65 (by decide) ?_
  refine lv_bipush (v := 50) hx hb dX9_drawsOne_68 (by decide) ?_
  refine lv_aload_n hx hb dX9_drawsOne_70 rfl (lv_at hl 2 rfl) ?_
  refine r_get (v' := .ref (r 1)) hx hb hts in_X9_drawsOne_X9 hown w 0 0 rfl rfl (ci := 13) rfl 0 (by decide) (hts _ (List.mem_of_getElem? (i := 1) rfl)) rfl rfl rfl dX9_drawsOne_71 ?_
  refine lv_sipush (v := 205) hx hb dX9_drawsOne_74 (by decide) ?_
  refine r_iald (v := ((sGo S q 0) 205)) hx hb w 1 0 rfl rfl 0 rfl 205 (by omega) (Nat.le_of_ble_eq_true rfl) rfl (sqA_at (by omega)) dX9_drawsOne_77 ?_
  refine lv_iconst (v := 1) hx hb dX9_drawsOne_78 (by decide) ?_
  refine lv_iadd hx hb dX9_drawsOne_79 ?_
  refine va_mmin hx hb (hml.trans hl.1.symm) hown (hts _ (List.mem_of_getElem? (i := 2) rfl)) (hts _ (List.mem_of_getElem? (i := 3) rfl)) (hts _ (List.mem_of_getElem? (i := 4) rfl)) (hts _ (List.mem_of_getElem? (i := 5) rfl)) (Nat.le_of_ble_eq_true rfl) (Nat.le_of_ble_eq_true rfl) (Nat.zero_le _) (Nat.zero_le _) dX9_drawsOne_80 ?_
  refine r_eq (y := (jmin 50 (((sGo S q 0) 205) + 1))) rfl ?_
  refine r_iast hx hb w 1 0 rfl rfl 0 rfl 205 (by omega) (Nat.le_of_ble_eq_true rfl) rfl (arB ty (r 1) 215 (sqA 215 (upd (upd (upd (upd (sGo S q 0) 204 (((sGo S q 0) 204) - (pBring (S 205)))) 210 (((sGo S q 0) 210) + (pBring (S 205)))) 212 (((sGo S q 0) 212) + 1)) 205 (jmin 50 (((sGo S q 0) 205) + 1))))) (arB_st (by omega)) [moB r F, arB ty (r 1) 215 (sqA 215 (upd (upd (upd (upd (sGo S q 0) 204 (((sGo S q 0) 204) - (pBring (S 205)))) 210 (((sGo S q 0) 210) + (pBring (S 205)))) 212 (((sGo S q 0) 212) + 1)) 205 (jmin 50 (((sGo S q 0) 205) + 1))))] rfl dX9_drawsOne_83 (fun H locs w => ?_)
  have w := w.cast (Bs' := [moB r F, arB ty (r 1) 215 (sqA 215 (sPump (sGo S q 0)))]) (by rw [sPump, sGo_off (i := 205) (by omega) (by omega)])
  refine lv_aload_n hx hb dX9_drawsOne_84 rfl (lv_at hl 2 rfl) ?_
  refine lv_iload_n hx hb dX9_drawsOne_85 rfl (lv_at hl 1 rfl) ?_
  refine lv_iconst (v := 3) hx hb dX9_drawsOne_86 (by decide) ?_
  refine lv_aload_n hx hb dX9_drawsOne_87 rfl (lv_at hl 2 rfl) ?_
  refine lv_iload_n hx hb dX9_drawsOne_88 rfl (lv_at hl 1 rfl) ?_
  refine lv_iconst (v := 3) hx hb dX9_drawsOne_89 (by decide) ?_
  refine k_iV (As := [.int (nI z), .int 3]) (rest := [.int 3, .int (nI z), .ref (r 0)]) (Rs := []) (Bs' := [moB r F, arB ty (r 1) 215 (sqA 215 (sPump (sGo S q 0)))]) ⟨hx, hb, hml, hown, hts⟩ w (c_X9_of l D ty r F (sPump (sGo S q 0)) z 3 (by omega)) (cwV 2 hts gX9_drawsOne_X9_of rfl rfl rfl ⟨rfl, hdN_X9_of⟩ ⟨Nat.le_of_ble_eq_true rfl, Nat.le_of_ble_eq_true rfl⟩) [0, 1] (nB := 2) (by decide) rfl rfl rfl rfl 0 rfl rfl (ci := 13) rfl rfl rfl hl.1 rfl (Nat.le_of_ble_eq_true rfl) dX9_drawsOne_90 ⟨(Nat.zero_le _), (Nat.zero_le _)⟩ (fun H locs w => ?_)
  refine lv_iconst (v := 1) hx hb dX9_drawsOne_93 (by decide) ?_
  refine lv_iadd hx hb dX9_drawsOne_94 ?_
  refine k_vV (As := [.int (nI z), .int 3, .int (((sPump (sGo S q 0)) (1 + 6 * z + 3)) + 1)]) (rest := []) (Rs := []) (Bs' := [moB r F, arB ty (r 1) 215 (sqA 215 (upd (sPump (sGo S q 0)) (1 + 6 * z + 3) (((sPump (sGo S q 0)) (1 + 6 * z + 3)) + 1)))]) ⟨hx, hb, hml, hown, hts⟩ w (c_X9_becomes l D ty r F (sPump (sGo S q 0)) z 3 (by omega) (((sPump (sGo S q 0)) (1 + 6 * z + 3)) + 1)) (cwV 3 hts gX9_drawsOne_X9_becomes rfl rfl rfl ⟨rfl, hdN_X9_becomes⟩ ⟨Nat.le_of_ble_eq_true rfl, Nat.le_of_ble_eq_true rfl⟩) [0, 1] (nB := 2) (by decide) rfl rfl rfl rfl 0 rfl rfl (ci := 13) rfl rfl rfl hl.1 rfl (Nat.le_of_ble_eq_true rfl) dX9_drawsOne_95 ⟨(Nat.zero_le _), (Nat.zero_le _)⟩ (fun H locs w => ?_)
  refine lv_aload_n hx hb dX9_drawsOne_98 rfl (lv_at hl 2 rfl) ?_
  refine lv_iload_n hx hb dX9_drawsOne_99 rfl (lv_at hl 1 rfl) ?_
  refine lv_iconst (v := 5) hx hb dX9_drawsOne_100 (by decide) ?_
  refine lv_aload_n hx hb dX9_drawsOne_101 rfl (lv_at hl 2 rfl) ?_
  refine lv_iload_n hx hb dX9_drawsOne_102 rfl (lv_at hl 1 rfl) ?_
  refine lv_iconst (v := 5) hx hb dX9_drawsOne_103 (by decide) ?_
  refine k_iV (As := [.int (nI z), .int 5]) (rest := [.int 5, .int (nI z), .ref (r 0)]) (Rs := []) (Bs' := [moB r F, arB ty (r 1) 215 (sqA 215 (upd (sPump (sGo S q 0)) (1 + 6 * z + 3) (((sPump (sGo S q 0)) (1 + 6 * z + 3)) + 1)))]) ⟨hx, hb, hml, hown, hts⟩ w (c_X9_of l D ty r F (upd (sPump (sGo S q 0)) (1 + 6 * z + 3) (((sPump (sGo S q 0)) (1 + 6 * z + 3)) + 1)) z 5 (by omega)) (cwV 2 hts gX9_drawsOne_X9_of rfl rfl rfl ⟨rfl, hdN_X9_of⟩ ⟨Nat.le_of_ble_eq_true rfl, Nat.le_of_ble_eq_true rfl⟩) [0, 1] (nB := 2) (by decide) rfl rfl rfl rfl 0 rfl rfl (ci := 13) rfl rfl rfl hl.1 rfl (Nat.le_of_ble_eq_true rfl) dX9_drawsOne_104 ⟨(Nat.zero_le _), (Nat.zero_le _)⟩ (fun H locs w => ?_)
  refine r_eq (y := ((sPump (sGo S q 0)) (1 + 6 * z + 5))) (updn (by omega)) ?_
  refine lv_iload_n hx hb dX9_drawsOne_107 rfl (lv_at hl 0 rfl) ?_
  refine lv_iadd hx hb dX9_drawsOne_108 ?_
  refine k_vV (As := [.int (nI z), .int 5, .int (((sPump (sGo S q 0)) (1 + 6 * z + 5)) + (pBring (S 205)))]) (rest := []) (Rs := []) (Bs' := [moB r F, arB ty (r 1) 215 (sqA 215 (upd (upd (sPump (sGo S q 0)) (1 + 6 * z + 3) (((sPump (sGo S q 0)) (1 + 6 * z + 3)) + 1)) (1 + 6 * z + 5) (((sPump (sGo S q 0)) (1 + 6 * z + 5)) + (pBring (S 205)))))]) ⟨hx, hb, hml, hown, hts⟩ w (c_X9_becomes l D ty r F (upd (sPump (sGo S q 0)) (1 + 6 * z + 3) (((sPump (sGo S q 0)) (1 + 6 * z + 3)) + 1)) z 5 (by omega) (((sPump (sGo S q 0)) (1 + 6 * z + 5)) + (pBring (S 205)))) (cwV 3 hts gX9_drawsOne_X9_becomes rfl rfl rfl ⟨rfl, hdN_X9_becomes⟩ ⟨Nat.le_of_ble_eq_true rfl, Nat.le_of_ble_eq_true rfl⟩) [0, 1] (nB := 2) (by decide) rfl rfl rfl rfl 0 rfl rfl (ci := 13) rfl rfl rfl hl.1 rfl (Nat.le_of_ble_eq_true rfl) dX9_drawsOne_109 ⟨(Nat.zero_le _), (Nat.zero_le _)⟩ (fun H locs w => ?_)
  have w := w.cast (Bs' := [moB r F, arB ty (r 1) 215 (sqA 215 (sFetch (sPump (sGo S q 0)) z (pBring (S 205))))]) (by rfl)
  refine lv_aload_n hx hb dX9_drawsOne_112 rfl (lv_at hl 2 rfl) ?_
  refine lv_iconst (v := 0) hx hb dX9_drawsOne_113 (by decide) ?_
  refine lv_iload_n hx hb dX9_drawsOne_114 rfl (lv_at hl 1 rfl) ?_
  refine lv_iload_n hx hb dX9_drawsOne_115 rfl (lv_at hl 0 rfl) ?_
  refine k_vV (As := [.int 0, .int (nI z), .int (pBring (S 205))]) (rest := []) (Rs := []) (Bs' := [moB r F, arB ty (r 1) 215 (sqA 215 (sNote (sFetch (sPump (sGo S q 0)) z (pBring (S 205))) 0 (nI z) (pBring (S 205))))]) ⟨hx, hb, hml, hown, hts⟩ w (c_X9_notes l D ty r F (sFetch (sPump (sGo S q 0)) z (pBring (S 205))) (cN (S 122)) (by rw [sFetch_off (by omega), sPump_off (by omega), sGo_off (by omega) (by omega)]; exact ht.1) ht.2 0 (nI z) (pBring (S 205))) (cwV 3 hts gX9_drawsOne_X9_notes rfl rfl rfl ⟨rfl, hdN_X9_notes⟩ ⟨Nat.le_of_ble_eq_true rfl, Nat.le_of_ble_eq_true rfl⟩) [0, 1] (nB := 2) (by decide) rfl rfl rfl rfl 0 rfl rfl (ci := 13) rfl rfl rfl hl.1 rfl (Nat.le_of_ble_eq_true rfl) dX9_drawsOne_116 ⟨(Nat.zero_le _), (Nat.zero_le _)⟩ (fun H locs w => ?_)
  have w := w.cast (Bs' := [moB r F, arB ty (r 1) 215 (sqA 215 ((oDrawA (S, M) q).1))]) (by rw [dA_ref (M := M) ez (by omega)])
  refine lv_aload_n hx hb dX9_drawsOne_119 rfl (lv_at hl 2 rfl) ?_
  refine lv_iload_n hx hb dX9_drawsOne_120 rfl (lv_at hl 1 rfl) ?_
  refine k_iV (As := [.int (nI z)]) (rest := []) (Rs := []) (Bs' := [moB r F, arB ty (r 1) 215 (sqA 215 ((oDrawA (S, M) q).1))]) ⟨hx, hb, hml, hown, hts⟩ w (c_X9_left l D ty r F ((oDrawA (S, M) q).1) z (by omega)) (cwV 1 hts gX9_drawsOne_X9_left rfl rfl rfl ⟨rfl, hdN_X9_left⟩ ⟨Nat.le_of_ble_eq_true rfl, Nat.le_of_ble_eq_true rfl⟩) [0, 1] (nB := 2) (by decide) rfl rfl rfl rfl 0 rfl rfl (ci := 13) rfl rfl rfl hl.1 rfl (Nat.le_of_ble_eq_true rfl) dX9_drawsOne_121 ⟨(Nat.zero_le _), (Nat.zero_le _)⟩ (fun H locs w => ?_)
  refine lv_if_le (tgt := 132) hx hb dX9_drawsOne_124 (by decide) (fun c124 => ?_) (fun c124 => ?_)
  · refine lv_iload_n hx hb dX9_drawsOne_132 rfl (lv_at hl 0 rfl) ?_
    exact e_i hx hb hr hlocks (w.cast (by rw [draw1_no ez (by omega) c124])) rfl dX9_drawsOne_133 (Nat.le_refl _) (Nat.le_refl _)
  · refine lv_aload_n hx hb dX9_drawsOne_127 rfl (lv_at hl 2 rfl) ?_
    refine lv_iload_n hx hb dX9_drawsOne_128 rfl (lv_at hl 1 rfl) ?_
    refine k_vV (As := [.int (nI z)]) (rest := []) (Rs := []) (Bs' := [moB r F, arB ty (r 1) 215 (sqA 215 (sCome ((oDrawA (S, M) q).1) (q - 1) z))]) ⟨hx, hb, hml, hown, hts⟩ w (c_X9_comesTo l D ty r F ((oDrawA (S, M) q).1) (q - 1) ((pSh_dA hI ht.2 hq0 ez (by omega))).2.2.1 (by omega) z) (cwV 1 hts gX9_drawsOne_X9_comesTo rfl rfl rfl ⟨rfl, hdN_X9_comesTo⟩ ⟨Nat.le_of_ble_eq_true rfl, Nat.le_of_ble_eq_true rfl⟩) [0, 1] (nB := 2) (by decide) rfl rfl rfl rfl 0 rfl rfl (ci := 13) rfl rfl rfl hl.1 rfl (Nat.le_of_ble_eq_true rfl) dX9_drawsOne_129 ⟨(Nat.zero_le _), (Nat.zero_le _)⟩ (fun H locs w => ?_)
    refine lv_iload_n hx hb dX9_drawsOne_132 rfl (lv_at hl 0 rfl) ?_
    exact e_i hx hb hr hlocks (w.cast (by rw [draw1_yes ez (by omega) c124])) rfl dX9_drawsOne_133 (Nat.le_refl _) (Nat.le_refl _)

theorem in_X9_draws_X9 : ∀ w ∈ wsX90, w ∈ wsX9_draws := by decide +kernel
theorem hdN_X9_draws : yX9_draws.cls ≠ "java/lang/invoke/MethodHandle" ∧ yX9_draws.cls ≠ "java/lang/invoke/VarHandle" ∧ (parseMethodDescriptor yX9_draws.desc).map (fun d => d.parameters.length) = some 1 := by decide +kernel
set_option maxRecDepth 100000 in
set_option maxHeartbeats 4000000 in
theorem c_X9_draws (l : Launch) (D : va_G) (ty : Nat → ClassId) (r : Nat → Nat) (F S : pS) (hF : F 16 = 0) (n q : Nat) (hI : pSh S n q) (hL : PL S q) (M : pS) (v : Int32) (hK : ∀ j, v = nI j → j ≤ 50 → (wDraw S v).1 = 0 → ∀ k, k ≤ j → ∃ q', pSh (oDrawN k (S, M)).2.1 n q' ∧ nOK (oDrawN k (S, M)).2.1 ∧ (k < j → 0 < q'))  : Mi l yX9_draws wsX9_draws (kR 5 109 0 0) D (kTY ty) [.ref (r 0), .int v] [moB r F, arB ty (r 1) 215 (sqA 215 S)] [moB r (hnd (wDraw S v) F), arB ty (r 1) 215 (sqA 215 (gR (wDraw S v) (oDrawN (cN v) (S, M)).2.1 S))] (gR (wDraw S v) (oDrawN (cN v) (S, M)).1 0) 0 0 := by
  refine m_i (cc := cX9_draws) (maxL := 4) (ret := (some .int)) (by decide +kernel) rfl (Nat.le_of_ble_eq_true rfl) ?_
  intro p e s m below meth c A ls hx hb hml hr hlocks hown hts w hl
  have hown : s.vm.findClass RX9 = some m.cls := hown
  have hl : lv_has ls 4 [(0, .ref (r 0)), (1, .int v)] := hl
  obtain ⟨h0, hn, h1, hq, he, hd, hdr, hwr⟩ := id hI
  refine lv_aload_n hx hb dX9_draws_0 rfl (lv_at hl 0 rfl) ?_
  refine k_cut (fun H locs ls => kW D (kTY ty) A s.heap s H locs [moB r F, arB ty (r 1) 215 (sqA 215 S)] ∧ lv_has ls 4 [(0, .ref (r 0)), (1, .int v)]) (pc' := 16) (st' := [.int (bI (!(pIn v 1 50))), .ref (r 0)]) ?_ ?_
  · intro H locs ls hI
    obtain ⟨w, hl⟩ := hI
    refine lv_iconst (v := 1) hx hb dX9_draws_16 (by decide) ?_
    refine lv_iconst (v := 0) hx hb dX9_draws_17 (by decide) ?_
    refine k_vV (As := [.int (bI (!(pIn v 1 50))), .int 1, .int 0]) (rest := []) (Rs := [arB ty (r 1) 215 (sqA 215 S)]) (Bs' := [moB r (hin (!(pIn v 1 50)) 1 0 F), arB ty (r 1) 215 (sqA 215 S)]) ⟨hx, hb, hml, hown, hts⟩ w (c_X9_hinders l D ty r F (!(pIn v 1 50)) 1 0) (cwV 3 hts gX9_draws_X9_hinders rfl rfl rfl ⟨rfl, hdN_X9_hinders⟩ ⟨Nat.le_of_ble_eq_true rfl, Nat.le_of_ble_eq_true rfl⟩) [0, 1] (nB := 2) (by decide) rfl rfl rfl rfl 0 rfl rfl (ci := 13) rfl rfl rfl hl.1 rfl (Nat.le_of_ble_eq_true rfl) dX9_draws_18 ⟨(Nat.zero_le _), (Nat.zero_le _)⟩ (fun H locs w => ?_)
    refine lv_aload_n hx hb dX9_draws_21 rfl (lv_at hl 0 rfl) ?_
    refine k_cut (fun H locs ls => kW D (kTY ty) A s.heap s H locs [moB r (hin (!(pIn v 1 50)) 1 0 F), arB ty (r 1) 215 (sqA 215 S)] ∧ lv_has ls 4 [(0, .ref (r 0)), (1, .int v)]) (pc' := 35) (st' := [.int (bI (decide (pAll S q < v))), .ref (r 0)]) ?_ ?_
    · intro H locs ls hI
      obtain ⟨w, hl⟩ := hI
      refine lv_bipush (v := 7) hx hb dX9_draws_35 (by decide) ?_
      refine lv_aload_n hx hb dX9_draws_37 rfl (lv_at hl 0 rfl) ?_
      refine k_iV (As := []) (rest := [.int 7, .int (bI (decide (pAll S q < v))), .ref (r 0)]) (Rs := []) (Bs' := [moB r (hin (!(pIn v 1 50)) 1 0 F), arB ty (r 1) 215 (sqA 215 S)]) ⟨hx, hb, hml, hown, hts⟩ w (c_X9_allLeft l D ty r (hin (!(pIn v 1 50)) 1 0 F) S n q hI hL) (cwV 0 hts gX9_draws_X9_allLeft rfl rfl rfl ⟨rfl, hdN_X9_allLeft⟩ ⟨Nat.le_of_ble_eq_true rfl, Nat.le_of_ble_eq_true rfl⟩) [0, 1] (nB := 2) (by decide) rfl rfl rfl rfl 0 rfl rfl (ci := 13) rfl rfl rfl hl.1 rfl (Nat.le_of_ble_eq_true rfl) dX9_draws_38 ⟨(Nat.zero_le _), (Nat.zero_le _)⟩ (fun H locs w => ?_)
      refine k_vV (As := [.int (bI (decide (pAll S q < v))), .int 7, .int (pAll S q)]) (rest := []) (Rs := [arB ty (r 1) 215 (sqA 215 S)]) (Bs' := [moB r (hin (decide (pAll S q < v)) 7 (pAll S q) (hin (!(pIn v 1 50)) 1 0 F)), arB ty (r 1) 215 (sqA 215 S)]) ⟨hx, hb, hml, hown, hts⟩ w (c_X9_hinders l D ty r (hin (!(pIn v 1 50)) 1 0 F) (decide (pAll S q < v)) 7 (pAll S q)) (cwV 3 hts gX9_draws_X9_hinders rfl rfl rfl ⟨rfl, hdN_X9_hinders⟩ ⟨Nat.le_of_ble_eq_true rfl, Nat.le_of_ble_eq_true rfl⟩) [0, 1] (nB := 2) (by decide) rfl rfl rfl rfl 0 rfl rfl (ci := 13) rfl rfl rfl hl.1 rfl (Nat.le_of_ble_eq_true rfl) dX9_draws_41 ⟨(Nat.zero_le _), (Nat.zero_le _)⟩ (fun H locs w => ?_)
      refine lv_aload_n hx hb dX9_draws_44 rfl (lv_at hl 0 rfl) ?_
      refine r_get (v' := .int ((hin (decide (pAll S q < v)) 7 (pAll S q) (hin (!(pIn v 1 50)) 1 0 F)) 16)) hx hb hts in_X9_draws_X9 hown w 0 0 rfl rfl (ci := 13) rfl 16 (by decide) (hts _ (List.mem_of_getElem? (i := 1) rfl)) rfl rfl rfl dX9_draws_45 ?_
      refine lv_if_ne (tgt := 86) hx hb dX9_draws_48 (by decide) (fun c48 => ?_) (fun c48 => ?_)
      · have w := w.cast (Bs' := [moB r (hnd (wDraw S v) F), arB ty (r 1) 215 (sqA 215 S)]) (by rw [(dr_1 hI hF c48).1])
        have hW := (dr_1 hI hF c48).2
        refine lv_iconst (v := 0) hx hb dX9_draws_86 (by decide) ?_
        refine lv_istore_n (lv' := [(2, .int 0), (0, .ref (r 0)), (1, .int v)]) hx hb dX9_draws_87 rfl hl (by decide) rfl (fun ls hl => ?_)
        refine lv_iconst (v := 0) hx hb dX9_draws_88 (by decide) ?_
        refine lv_istore_n (lv' := [(3, .int 0), (2, .int 0), (0, .ref (r 0)), (1, .int v)]) hx hb dX9_draws_89 rfl hl (by decide) rfl (fun ls hl => ?_)
        refine lv_iload_n hx hb dX9_draws_90 rfl (lv_at hl 0 rfl) ?_
        refine lv_iload_n hx hb dX9_draws_91 rfl (lv_at hl 3 rfl) ?_
        refine lv_icmp_ge (tgt := 115) hx hb dX9_draws_92 (by decide) (fun c92 => ?_) (fun c92 => ?_)
        · refine lv_iload_n hx hb dX9_draws_115 rfl (lv_at hl 1 rfl) ?_
          exact e_i hx hb hr hlocks (w.cast (by rw [gR_1 hW])) (by rw [gR_1 hW]) dX9_draws_116 (Nat.le_refl _) (Nat.le_refl _)
        · refine lv_aload_n hx hb dX9_draws_95 rfl (lv_at hl 2 rfl) ?_
          refine r_get (v' := .int ((hnd (wDraw S v) F) 16)) hx hb hts in_X9_draws_X9 hown w 0 0 rfl rfl (ci := 13) rfl 16 (by decide) (hts _ (List.mem_of_getElem? (i := 1) rfl)) rfl rfl rfl dX9_draws_96 ?_
          refine lv_if_ne (tgt := 115) hx hb dX9_draws_99 (by decide) (fun c99 => ?_) (fun c99 => ?_)
          · refine lv_iload_n hx hb dX9_draws_115 rfl (lv_at hl 1 rfl) ?_
            exact e_i hx hb hr hlocks (w.cast (by rw [gR_1 hW])) (by rw [gR_1 hW]) dX9_draws_116 (Nat.le_refl _) (Nat.le_refl _)
          · exact absurd ((hnd_z hF).mp c99) hW
      · have hh := dr_in hF c48
        obtain ⟨j, hj1, hj, rfl⟩ := pIn_nat (k := 50) (by omega) hh
        have hK := hK j rfl hj
        refine lv_aload_n hx hb dX9_draws_51 rfl (lv_at hl 0 rfl) ?_
        refine k_cut (fun H locs ls => kW D (kTY ty) A s.heap s H locs [moB r (hin (decide (pAll S q < (nI j))) 7 (pAll S q) (hin (!(pIn (nI j) 1 50)) 1 0 F)), arB ty (r 1) 215 (sqA 215 S)] ∧ lv_has ls 4 [(0, .ref (r 0)), (1, .int (nI j))]) (pc' := 73) (st' := [.int (bI (decide (S 204 < pBrings S j))), .ref (r 0)]) ?_ ?_
        · intro H locs ls hI
          obtain ⟨w, hl⟩ := hI
          refine lv_bipush (v := 8) hx hb dX9_draws_73 (by decide) ?_
          refine lv_aload_n hx hb dX9_draws_75 rfl (lv_at hl 0 rfl) ?_
          refine r_get (v' := .ref (r 1)) hx hb hts in_X9_draws_X9 hown w 0 0 rfl rfl (ci := 13) rfl 0 (by decide) (hts _ (List.mem_of_getElem? (i := 2) rfl)) rfl rfl rfl dX9_draws_76 ?_
          refine lv_sipush (v := 204) hx hb dX9_draws_79 (by decide) ?_
          refine r_iald (v := (S 204)) hx hb w 1 0 rfl rfl 0 rfl 204 (by omega) (Nat.le_of_ble_eq_true rfl) rfl (sqA_at (by omega)) dX9_draws_82 ?_
          refine k_vV (As := [.int (bI (decide (S 204 < pBrings S j))), .int 8, .int (S 204)]) (rest := []) (Rs := [arB ty (r 1) 215 (sqA 215 S)]) (Bs' := [moB r (hin (decide (S 204 < pBrings S j)) 8 (S 204) (hin (decide (pAll S q < (nI j))) 7 (pAll S q) (hin (!(pIn (nI j) 1 50)) 1 0 F))), arB ty (r 1) 215 (sqA 215 S)]) ⟨hx, hb, hml, hown, hts⟩ w (c_X9_hinders l D ty r (hin (decide (pAll S q < (nI j))) 7 (pAll S q) (hin (!(pIn (nI j) 1 50)) 1 0 F)) (decide (S 204 < pBrings S j)) 8 (S 204)) (cwV 3 hts gX9_draws_X9_hinders rfl rfl rfl ⟨rfl, hdN_X9_hinders⟩ ⟨Nat.le_of_ble_eq_true rfl, Nat.le_of_ble_eq_true rfl⟩) [0, 1] (nB := 2) (by decide) rfl rfl rfl rfl 0 rfl rfl (ci := 13) rfl rfl rfl hl.1 rfl (Nat.le_of_ble_eq_true rfl) dX9_draws_83 ⟨(Nat.zero_le _), (Nat.zero_le _)⟩ (fun H locs w => ?_)
          have w := w.cast (Bs' := [moB r (hnd (wDraw S (nI j)) F), arB ty (r 1) 215 (sqA 215 S)]) (by rw [dr_W hI hj hh hF])
          by_cases hW : (wDraw S (nI j)).1 = 0
          · have w := w.cast (Bs' := [moB r F, arB ty (r 1) 215 (sqA 215 S)]) (by rw [hnd_0 hW])
            refine lv_iconst (v := 0) hx hb dX9_draws_86 (by decide) ?_
            refine lv_istore_n (lv' := [(2, .int 0), (0, .ref (r 0)), (1, .int (nI j))]) hx hb dX9_draws_87 rfl hl (by decide) rfl (fun ls hl => ?_)
            refine lv_iconst (v := 0) hx hb dX9_draws_88 (by decide) ?_
            refine lv_istore_n (lv' := [(3, .int 0), (2, .int 0), (0, .ref (r 0)), (1, .int (nI j))]) hx hb dX9_draws_89 rfl hl (by decide) rfl (fun ls hl => ?_)
            refine k_loop (fun k H locs ls => ∃ (T : pS) (U : pS) (v : Int32), kW D (kTY ty) A s.heap s H locs [moB r F, arB ty (r 1) 215 (sqA 215 T)] ∧ lv_has ls 4 [(0, .ref (r 0)), (1, .int (nI j)), (2, .int v), (3, .int (nI k))] ∧ (oDrawN k (S, M) = (v, (T, U)))) j 0 (by omega) ⟨S, M, 0, w, lv_sub hl [2, 3, 1, 0] rfl, rfl⟩ ?_
            intro k hk0 hk ihk H locs ls hI
            obtain ⟨T, U, v, w, hl, hoj⟩ := hI
            refine lv_iload_n hx hb dX9_draws_90 rfl (lv_at hl 3 rfl) ?_
            refine lv_iload_n hx hb dX9_draws_91 rfl (lv_at hl 1 rfl) ?_
            refine lv_icmp_ge (tgt := 115) hx hb dX9_draws_92 (by decide) (fun c92 => ?_) (fun c92 => ?_)
            · have c92 := (nI_leI (a := j) (b := k) (by omega) (by omega)).mp c92
              obtain rfl : j = k := by omega
              refine lv_iload_n hx hb dX9_draws_115 rfl (lv_at hl 2 rfl) ?_
              exact e_i hx hb hr hlocks (w.cast (by rw [gR_0 hW, hnd_0 hW, cN_nI (by omega), hoj])) (by rw [gR_0 hW, cN_nI (by omega), hoj]) dX9_draws_116 (Nat.le_refl _) (Nat.le_refl _)
            · have c92 := mt (nI_leI (a := j) (b := k) (by omega) (by omega)).mpr c92
              obtain ⟨q1, hs, ht1, hq1⟩ := hK hW k (by omega)
              rw [hoj] at hs ht1
              have hq1 := hq1 (by omega)
              refine lv_aload_n hx hb dX9_draws_95 rfl (lv_at hl 0 rfl) ?_
              refine r_get (v' := .int (F 16)) hx hb hts in_X9_draws_X9 hown w 0 0 rfl rfl (ci := 13) rfl 16 (by decide) (hts _ (List.mem_of_getElem? (i := 1) rfl)) rfl rfl rfl dX9_draws_96 ?_
              refine lv_if_ne (tgt := 115) hx hb dX9_draws_99 (by decide) (fun c99 => ?_) (fun c99 => ?_)
              · exact absurd hF c99
              · refine lv_iload_n hx hb dX9_draws_102 rfl (lv_at hl 2 rfl) ?_
                refine lv_aload_n hx hb dX9_draws_103 rfl (lv_at hl 0 rfl) ?_
                refine k_iV (As := []) (rest := [.int v]) (Rs := []) (Bs' := [moB r F, arB ty (r 1) 215 (sqA 215 ((oDraw1 (T, U) q1).1))]) ⟨hx, hb, hml, hown, hts⟩ w (c_X9_drawsOne l D ty r F T n q1 hs ht1 U hq1) (cwV 0 hts gX9_draws_X9_drawsOne rfl rfl rfl ⟨rfl, hdN_X9_drawsOne⟩ ⟨Nat.le_of_ble_eq_true rfl, Nat.le_of_ble_eq_true rfl⟩) [0, 1] (nB := 2) (by decide) rfl rfl rfl rfl 0 rfl rfl (ci := 13) rfl rfl rfl hl.1 rfl (Nat.le_of_ble_eq_true rfl) dX9_draws_104 ⟨(Nat.zero_le _), (Nat.zero_le _)⟩ (fun H locs w => ?_)
                refine lv_iadd hx hb dX9_draws_107 ?_
                refine lv_istore_n (lv' := [(2, .int (v + (pBring (T 205)))), (0, .ref (r 0)), (1, .int (nI j)), (3, .int (nI k))]) hx hb dX9_draws_108 rfl hl (by decide) rfl (fun ls hl => ?_)
                refine lv_iinc (v := (nI (k + 1))) (lv' := [(3, .int (nI (k + 1))), (2, .int (v + (pBring (T 205)))), (0, .ref (r 0)), (1, .int (nI j))]) hx hb dX9_draws_109 hl (k := 3) rfl (inc1 k) (by decide) rfl (fun ls hl => ?_)
                refine lv_goto (tgt := 90) hx hb dX9_draws_112 (by decide) ?_
                exact ihk _ _ _ ⟨_, _, _, w, lv_sub hl [2, 3, 1, 0] rfl, (drawN_s hoj hs.2.2.1 hs.2.2.2.1)⟩ (by omega)
          · refine lv_iconst (v := 0) hx hb dX9_draws_86 (by decide) ?_
            refine lv_istore_n (lv' := [(2, .int 0), (0, .ref (r 0)), (1, .int (nI j))]) hx hb dX9_draws_87 rfl hl (by decide) rfl (fun ls hl => ?_)
            refine lv_iconst (v := 0) hx hb dX9_draws_88 (by decide) ?_
            refine lv_istore_n (lv' := [(3, .int 0), (2, .int 0), (0, .ref (r 0)), (1, .int (nI j))]) hx hb dX9_draws_89 rfl hl (by decide) rfl (fun ls hl => ?_)
            refine lv_iload_n hx hb dX9_draws_90 rfl (lv_at hl 0 rfl) ?_
            refine lv_iload_n hx hb dX9_draws_91 rfl (lv_at hl 3 rfl) ?_
            refine lv_icmp_ge (tgt := 115) hx hb dX9_draws_92 (by decide) (fun c92 => ?_) (fun c92 => ?_)
            · have c92 := (nI_leI (a := j) (b := 0) (by omega) (by omega)).mp c92
              refine lv_iload_n hx hb dX9_draws_115 rfl (lv_at hl 1 rfl) ?_
              exact e_i hx hb hr hlocks (w.cast (by rw [gR_1 hW])) (by rw [gR_1 hW]) dX9_draws_116 (Nat.le_refl _) (Nat.le_refl _)
            · have c92 := mt (nI_leI (a := j) (b := 0) (by omega) (by omega)).mpr c92
              refine lv_aload_n hx hb dX9_draws_95 rfl (lv_at hl 2 rfl) ?_
              refine r_get (v' := .int ((hnd (wDraw S (nI j)) F) 16)) hx hb hts in_X9_draws_X9 hown w 0 0 rfl rfl (ci := 13) rfl 16 (by decide) (hts _ (List.mem_of_getElem? (i := 1) rfl)) rfl rfl rfl dX9_draws_96 ?_
              refine lv_if_ne (tgt := 115) hx hb dX9_draws_99 (by decide) (fun c99 => ?_) (fun c99 => ?_)
              · refine lv_iload_n hx hb dX9_draws_115 rfl (lv_at hl 1 rfl) ?_
                exact e_i hx hb hr hlocks (w.cast (by rw [gR_1 hW])) (by rw [gR_1 hW]) dX9_draws_116 (Nat.le_refl _) (Nat.le_refl _)
              · exact absurd ((hnd_z hF).mp c99) hW
        · intro cont73
          refine lv_aload_n hx hb dX9_draws_52 rfl (lv_at hl 0 rfl) ?_
          refine lv_iload_n hx hb dX9_draws_53 rfl (lv_at hl 1 rfl) ?_
          refine k_iV (As := [.int (nI j)]) (rest := [.ref (r 0)]) (Rs := []) (Bs' := [moB r (hin (decide (pAll S q < (nI j))) 7 (pAll S q) (hin (!(pIn (nI j) 1 50)) 1 0 F)), arB ty (r 1) 215 (sqA 215 S)]) ⟨hx, hb, hml, hown, hts⟩ w (c_X9_allBring l D ty r (hin (decide (pAll S q < (nI j))) 7 (pAll S q) (hin (!(pIn (nI j) 1 50)) 1 0 F)) S j (by omega)) (cwV 1 hts gX9_draws_X9_allBring rfl rfl rfl ⟨rfl, hdN_X9_allBring⟩ ⟨Nat.le_of_ble_eq_true rfl, Nat.le_of_ble_eq_true rfl⟩) [0, 1] (nB := 2) (by decide) rfl rfl rfl rfl 0 rfl rfl (ci := 13) rfl rfl rfl hl.1 rfl (Nat.le_of_ble_eq_true rfl) dX9_draws_54 ⟨(Nat.zero_le _), (Nat.zero_le _)⟩ (fun H locs w => ?_)
          refine lv_aload_n hx hb dX9_draws_57 rfl (lv_at hl 0 rfl) ?_
          refine r_get (v' := .ref (r 1)) hx hb hts in_X9_draws_X9 hown w 0 0 rfl rfl (ci := 13) rfl 0 (by decide) (hts _ (List.mem_of_getElem? (i := 2) rfl)) rfl rfl rfl dX9_draws_58 ?_
          refine lv_sipush (v := 204) hx hb dX9_draws_61 (by decide) ?_
          refine r_iald (v := (S 204)) hx hb w 1 0 rfl rfl 0 rfl 204 (by omega) (Nat.le_of_ble_eq_true rfl) rfl (sqA_at (by omega)) dX9_draws_64 ?_
          refine lv_icmp_le (tgt := 72) hx hb dX9_draws_65 (by decide) (fun c65 => ?_) (fun c65 => ?_)
          · refine lv_iconst (v := 0) hx hb dX9_draws_72 (by decide) ?_
            refine r_eq (y := (bI (decide (S 204 < pBrings S j)))) (bI_d0 (Int32.not_lt.mpr c65)) ?_
            exact cont73 _ _ _ ⟨w, hl⟩
          · refine lv_iconst (v := 1) hx hb dX9_draws_68 (by decide) ?_
            refine lv_goto (tgt := 73) hx hb dX9_draws_69 (by decide) ?_
            refine r_eq (y := (bI (decide (S 204 < pBrings S j)))) (bI_d1 (Int32.not_le.mp c65)) ?_
            exact cont73 _ _ _ ⟨w, hl⟩
    · intro cont35
      refine lv_aload_n hx hb dX9_draws_22 rfl (lv_at hl 0 rfl) ?_
      refine k_iV (As := []) (rest := [.ref (r 0)]) (Rs := []) (Bs' := [moB r (hin (!(pIn v 1 50)) 1 0 F), arB ty (r 1) 215 (sqA 215 S)]) ⟨hx, hb, hml, hown, hts⟩ w (c_X9_allLeft l D ty r (hin (!(pIn v 1 50)) 1 0 F) S n q hI hL) (cwV 0 hts gX9_draws_X9_allLeft rfl rfl rfl ⟨rfl, hdN_X9_allLeft⟩ ⟨Nat.le_of_ble_eq_true rfl, Nat.le_of_ble_eq_true rfl⟩) [0, 1] (nB := 2) (by decide) rfl rfl rfl rfl 0 rfl rfl (ci := 13) rfl rfl rfl hl.1 rfl (Nat.le_of_ble_eq_true rfl) dX9_draws_23 ⟨(Nat.zero_le _), (Nat.zero_le _)⟩ (fun H locs w => ?_)
      refine lv_iload_n hx hb dX9_draws_26 rfl (lv_at hl 1 rfl) ?_
      refine lv_icmp_ge (tgt := 34) hx hb dX9_draws_27 (by decide) (fun c27 => ?_) (fun c27 => ?_)
      · refine lv_iconst (v := 0) hx hb dX9_draws_34 (by decide) ?_
        refine r_eq (y := (bI (decide (pAll S q < v)))) (bI_d0 (Int32.not_lt.mpr c27)) ?_
        exact cont35 _ _ _ ⟨w, hl⟩
      · refine lv_iconst (v := 1) hx hb dX9_draws_30 (by decide) ?_
        refine lv_goto (tgt := 35) hx hb dX9_draws_31 (by decide) ?_
        refine r_eq (y := (bI (decide (pAll S q < v)))) (bI_d1 (Int32.not_le.mp c27)) ?_
        exact cont35 _ _ _ ⟨w, hl⟩
  · intro cont16
    refine lv_iload_n hx hb dX9_draws_1 rfl (lv_at hl 1 rfl) ?_
    refine lv_iconst (v := 1) hx hb dX9_draws_2 (by decide) ?_
    refine lv_bipush (v := 50) hx hb dX9_draws_3 (by decide) ?_
    refine k_iS (As := [.int v, .int 1, .int 50]) (rest := [.ref (r 0)]) (Rs := [moB r F, arB ty (r 1) 215 (sqA 215 S)]) (Bs' := [moB r F, arB ty (r 1) 215 (sqA 215 S)]) ⟨hx, hb, hml, hown, hts⟩ w (c_X9_isIn l D ty v 1 50) (va_cwS 3 hts gX9_draws_X9_isIn rfl rfl rfl hdN_X9_isIn ⟨Nat.le_of_ble_eq_true rfl, Nat.le_of_ble_eq_true rfl⟩) [0, 1] (nB := 2) (by decide) rfl rfl rfl rfl rfl hl.1 rfl (Nat.le_of_ble_eq_true rfl) dX9_draws_5 ⟨(Nat.zero_le _), (Nat.zero_le _)⟩ (fun H locs w => ?_)
    refine lv_if_ne (tgt := 15) hx hb dX9_draws_8 (by decide) (fun c8 => ?_) (fun c8 => ?_)
    · have c8 := bI_1.mp c8
      refine lv_iconst (v := 0) hx hb dX9_draws_15 (by decide) ?_
      refine r_eq (y := (bI (!(pIn v 1 50)))) (nb_0 c8) ?_
      exact cont16 _ _ _ ⟨w, hl⟩
    · have c8 := bI_0.mp c8
      refine lv_iconst (v := 1) hx hb dX9_draws_11 (by decide) ?_
      refine lv_goto (tgt := 16) hx hb dX9_draws_12 (by decide) ?_
      refine r_eq (y := (bI (!(pIn v 1 50)))) (nb_1 c8) ?_
      exact cont16 _ _ _ ⟨w, hl⟩
