theorem in_X8_possible_X8 : ∀ w ∈ wsX80, w ∈ wsX8_possible := by decide +kernel
theorem hdN_X8_possible : yX8_possible.cls ≠ "java/lang/invoke/MethodHandle" ∧ yX8_possible.cls ≠ "java/lang/invoke/VarHandle" ∧ (parseMethodDescriptor yX8_possible.desc).map (fun d => d.parameters.length) = some 0 := by decide +kernel
set_option maxRecDepth 100000 in
set_option maxHeartbeats 4000000 in
theorem c_X8_possible (l : Launch) (D : va_G) (ty : Nat → ClassId) (o : Nat) (a b sn h t : Nat → Nat) (r sb : Nat) (hs lf : Int32) (S M : pS) (n q : Nat) (hA : IA S n q)  : Mi l yX8_possible wsX8_possible (kR 4 87 0 0) D (kTY ty) [.ref o] [ppB o (a 0) (b 0) (sn 0) (h 0) r (t 0) sb hs lf, stB a S, lnB ty a S, quB ty a S, weB a S, miB ty a M] [ppB o (a 0) (b 0) (sn 0) (h 0) r (t 0) sb hs lf, stB a S, lnB ty a S, quB ty a S, weB a S, miB ty a M] (pAll S q) 0 0 := by
  refine m_i (cc := cX8_possible) (maxL := 1) (ret := (some .int)) (by decide +kernel) rfl (Nat.le_of_ble_eq_true rfl) ?_
  intro p e s m below meth c A ls hx hb hml hr hlocks hown hts w hl
  have hown : s.vm.findClass RX8 = some m.cls := hown
  have hl : lv_has ls 1 [(0, .ref o)] := hl
  have hI := hA.1
  obtain ⟨h0, hn, h1, hq, he, hd, hdr, hwr⟩ := id hI
  refine lv_aload_n hx hb dX8_possible_0 rfl (lv_at hl 0 rfl) ?_
  refine r_get (v' := .ref (a 0)) hx hb hts in_X8_possible_X8 hown w 0 0 rfl rfl (ci := 12) rfl 0 (by decide) (hts _ (List.mem_of_getElem? (i := 1) rfl)) rfl rfl rfl dX8_possible_1 ?_
  refine k_iVN (As := []) (rest := []) (Rs := [ppB o (a 0) (b 0) (sn 0) (h 0) r (t 0) sb hs lf]) (Bs' := [ppB o (a 0) (b 0) (sn 0) (h 0) r (t 0) sb hs lf, stB a S, lnB ty a S, quB ty a S, weB a S, miB ty a M]) ⟨hx, hb, hml, hown, hts⟩ w (c_X6_drawsInQueue l D ty a S M n q (hI)) ⟨va_cnB 0 hts gX8_possible_X6_drawsInQueue_n242 rfl rfl rfl (w.2.2.2.2.2 _ (List.mem_of_getElem? (i := 94) rfl)) (hts _ (List.mem_of_getElem? (i := 3) rfl)) hdN_X6_drawsInQueue ⟨Nat.le_of_ble_eq_true rfl, Nat.le_of_ble_eq_true rfl⟩, (hts _ (List.mem_of_getElem? (i := 2) rfl)), (hts _ (List.mem_of_getElem? (i := 4) rfl))⟩ [1, 2, 3, 4, 5, 0] (nB := 6) (by decide) rfl rfl rfl rfl 1 rfl rfl (ci := 10) rfl rfl rfl hl.1 rfl (Nat.le_of_ble_eq_true rfl) dX8_possible_4 ⟨(Nat.zero_le _), (Nat.zero_le _)⟩ (fun H locs w => ?_)
  exact e_i hx hb hr hlocks w rfl dX8_possible_7 (Nat.le_refl _) (Nat.le_refl _)

theorem in_X8_water_X6 : ∀ w ∈ wsX60, w ∈ wsX8_water := by decide +kernel
theorem in_X8_water_X7 : ∀ w ∈ wsX70, w ∈ wsX8_water := by decide +kernel
theorem in_X8_water_X8 : ∀ w ∈ wsX80, w ∈ wsX8_water := by decide +kernel
theorem hdN_X8_water : yX8_water.cls ≠ "java/lang/invoke/MethodHandle" ∧ yX8_water.cls ≠ "java/lang/invoke/VarHandle" ∧ (parseMethodDescriptor yX8_water.desc).map (fun d => d.parameters.length) = some 0 := by decide +kernel
set_option maxRecDepth 100000 in
set_option maxHeartbeats 4000000 in
theorem c_X8_water (l : Launch) (D : va_G) (ty : Nat → ClassId) (o : Nat) (a b sn h t : Nat → Nat) (r sb : Nat) (hs lf : Int32) (S M : pS) (n q : Nat) (hA : IA S n q)  : Mi l yX8_water wsX8_water (kR 0 0 0 0) D (kTY ty) [.ref o] [ppB o (a 0) (b 0) (sn 0) (h 0) r (t 0) sb hs lf, stB a S, lnB ty a S, quB ty a S, weB a S, miB ty a M] [ppB o (a 0) (b 0) (sn 0) (h 0) r (t 0) sb hs lf, stB a S, lnB ty a S, quB ty a S, weB a S, miB ty a M] (S 204 + S 210 + S 211) 0 0 := by
  refine m_i (cc := cX8_water) (maxL := 1) (ret := (some .int)) (by decide +kernel) rfl (Nat.le_of_ble_eq_true rfl) ?_
  intro p e s m below meth c A ls hx hb hml hr hlocks hown hts w hl
  have hown : s.vm.findClass RX8 = some m.cls := hown
  have hl : lv_has ls 1 [(0, .ref o)] := hl
  have hI := hA.1
  obtain ⟨h0, hn, h1, hq, he, hd, hdr, hwr⟩ := id hI
  refine lv_aload_n hx hb dX8_water_0 rfl (lv_at hl 0 rfl) ?_
  refine r_get (v' := .ref (a 0)) hx hb hts in_X8_water_X8 hown w 0 0 rfl rfl (ci := 12) rfl 0 (by decide) (hts _ (List.mem_of_getElem? (i := 1) rfl)) rfl rfl rfl dX8_water_1 ?_
  refine r_getN (v' := .ref (a 19)) hx hb hts in_X8_water_X6 hown w 1 0 rfl rfl (ci := 10) rfl 2 (by decide) (w.2.2.2.2.2 _ (List.mem_of_getElem? (i := 35) rfl)) rfl rfl rfl dX8_water_4 ?_
  refine r_getN (v' := .int (S 204)) hx hb hts in_X8_water_X7 hown w 4 0 rfl rfl (ci := 11) rfl 0 (by decide) (w.2.2.2.2.2 _ (List.mem_of_getElem? (i := 22) rfl)) rfl rfl rfl dX8_water_7 ?_
  refine lv_aload_n hx hb dX8_water_10 rfl (lv_at hl 0 rfl) ?_
  refine r_get (v' := .ref (a 0)) hx hb hts in_X8_water_X8 hown w 0 0 rfl rfl (ci := 12) rfl 0 (by decide) (hts _ (List.mem_of_getElem? (i := 1) rfl)) rfl rfl rfl dX8_water_11 ?_
  refine r_getN (v' := .ref (a 19)) hx hb hts in_X8_water_X6 hown w 1 0 rfl rfl (ci := 10) rfl 2 (by decide) (w.2.2.2.2.2 _ (List.mem_of_getElem? (i := 35) rfl)) rfl rfl rfl dX8_water_14 ?_
  refine r_getN (v' := .int (S 210)) hx hb hts in_X8_water_X7 hown w 4 0 rfl rfl (ci := 11) rfl 1 (by decide) (w.2.2.2.2.2 _ (List.mem_of_getElem? (i := 23) rfl)) rfl rfl rfl dX8_water_17 ?_
  refine lv_iadd hx hb dX8_water_20 ?_
  refine lv_aload_n hx hb dX8_water_21 rfl (lv_at hl 0 rfl) ?_
  refine r_get (v' := .ref (a 0)) hx hb hts in_X8_water_X8 hown w 0 0 rfl rfl (ci := 12) rfl 0 (by decide) (hts _ (List.mem_of_getElem? (i := 1) rfl)) rfl rfl rfl dX8_water_22 ?_
  refine r_getN (v' := .ref (a 19)) hx hb hts in_X8_water_X6 hown w 1 0 rfl rfl (ci := 10) rfl 2 (by decide) (w.2.2.2.2.2 _ (List.mem_of_getElem? (i := 35) rfl)) rfl rfl rfl dX8_water_25 ?_
  refine r_getN (v' := .int (S 211)) hx hb hts in_X8_water_X7 hown w 4 0 rfl rfl (ci := 11) rfl 2 (by decide) (w.2.2.2.2.2 _ (List.mem_of_getElem? (i := 24) rfl)) rfl rfl rfl dX8_water_28 ?_
  refine lv_iadd hx hb dX8_water_31 ?_
  exact e_i hx hb hr hlocks w rfl dX8_water_32 (Nat.le_refl _) (Nat.le_refl _)

theorem in_X8_waterAgain_X6 : ∀ w ∈ wsX60, w ∈ wsX8_waterAgain := by decide +kernel
theorem in_X8_waterAgain_X7 : ∀ w ∈ wsX70, w ∈ wsX8_waterAgain := by decide +kernel
theorem in_X8_waterAgain_X8 : ∀ w ∈ wsX80, w ∈ wsX8_waterAgain := by decide +kernel
theorem hdN_X8_waterAgain : yX8_waterAgain.cls ≠ "java/lang/invoke/MethodHandle" ∧ yX8_waterAgain.cls ≠ "java/lang/invoke/VarHandle" ∧ (parseMethodDescriptor yX8_waterAgain.desc).map (fun d => d.parameters.length) = some 0 := by decide +kernel
set_option maxRecDepth 100000 in
set_option maxHeartbeats 4000000 in
theorem c_X8_waterAgain (l : Launch) (D : va_G) (ty : Nat → ClassId) (o : Nat) (a b sn h t : Nat → Nat) (r sb : Nat) (hs lf : Int32) (S M : pS) (n q : Nat) (hA : IA S n q)  : Mi l yX8_waterAgain wsX8_waterAgain (kR 0 0 0 0) D (kTY ty) [.ref o] [ppB o (a 0) (b 0) (sn 0) (h 0) r (t 0) sb hs lf, stB a S, lnB ty a S, quB ty a S, weB a S, miB ty a M] [ppB o (a 0) (b 0) (sn 0) (h 0) r (t 0) sb hs lf, stB a S, lnB ty a S, quB ty a S, weB a S, miB ty a M] (500 + S 214) 0 0 := by
  refine m_i (cc := cX8_waterAgain) (maxL := 1) (ret := (some .int)) (by decide +kernel) rfl (Nat.le_of_ble_eq_true rfl) ?_
  intro p e s m below meth c A ls hx hb hml hr hlocks hown hts w hl
  have hown : s.vm.findClass RX8 = some m.cls := hown
  have hl : lv_has ls 1 [(0, .ref o)] := hl
  have hI := hA.1
  obtain ⟨h0, hn, h1, hq, he, hd, hdr, hwr⟩ := id hI
  refine lv_sipush (v := 500) hx hb dX8_waterAgain_0 (by decide) ?_
  refine lv_aload_n hx hb dX8_waterAgain_3 rfl (lv_at hl 0 rfl) ?_
  refine r_get (v' := .ref (a 0)) hx hb hts in_X8_waterAgain_X8 hown w 0 0 rfl rfl (ci := 12) rfl 0 (by decide) (hts _ (List.mem_of_getElem? (i := 1) rfl)) rfl rfl rfl dX8_waterAgain_4 ?_
  refine r_getN (v' := .ref (a 19)) hx hb hts in_X8_waterAgain_X6 hown w 1 0 rfl rfl (ci := 10) rfl 2 (by decide) (w.2.2.2.2.2 _ (List.mem_of_getElem? (i := 35) rfl)) rfl rfl rfl dX8_waterAgain_7 ?_
  refine r_getN (v' := .int (S 214)) hx hb hts in_X8_waterAgain_X7 hown w 4 0 rfl rfl (ci := 11) rfl 3 (by decide) (w.2.2.2.2.2 _ (List.mem_of_getElem? (i := 25) rfl)) rfl rfl rfl dX8_waterAgain_10 ?_
  refine lv_iadd hx hb dX8_waterAgain_13 ?_
  exact e_i hx hb hr hlocks w rfl dX8_waterAgain_14 (Nat.le_refl _) (Nat.le_refl _)

theorem in_X8_at_X4 : ∀ w ∈ wsX40, w ∈ wsX8_at := by decide +kernel
theorem in_X8_at_X6 : ∀ w ∈ wsX60, w ∈ wsX8_at := by decide +kernel
theorem in_X8_at_X8 : ∀ w ∈ wsX80, w ∈ wsX8_at := by decide +kernel
theorem inx_X8_at_161 : ∀ w ∈ (vx_atS RX8 161 "java/lang/IndexOutOfBoundsException" ["java/lang/RuntimeException", "java/lang/Exception"]).filter goodWord, w ∈ wsX8_at := by decide +kernel
theorem hdN_X8_at : yX8_at.cls ≠ "java/lang/invoke/MethodHandle" ∧ yX8_at.cls ≠ "java/lang/invoke/VarHandle" ∧ (parseMethodDescriptor yX8_at.desc).map (fun d => d.parameters.length) = some 1 := by decide +kernel
set_option maxRecDepth 100000 in
set_option maxHeartbeats 4000000 in
theorem c_X8_at (l : Launch) (hst : l.stackTraces = false) (D : va_G) (ty : Nat → ClassId) (o : Nat) (a b sn h t : Nat → Nat) (r sb : Nat) (hs lf : Int32) (S M : pS) (n q : Nat) (hA : IA S n q) (v : Int32) : Xi l yX8_at wsX8_at (kR 6 90 1 6) D (kTY ty) [.ref o, .int v] [ppB o (a 0) (b 0) (sn 0) (h 0) r (t 0) sb hs lf, stB a S, lnB ty a S, quB ty a S, weB a S, miB ty a M] (t1 (pHas v q) = 0) [ppB o (a 0) (b 0) (sn 0) (h 0) r (t 0) sb hs lf, stB a S, lnB ty a S, quB ty a S, weB a S, miB ty a M] (S (50 + cN v)) "java/lang/IndexOutOfBoundsException" [ppB o (a 0) (b 0) (sn 0) (h 0) r (t 0) sb hs lf, stB a S, lnB ty a S, quB ty a S, weB a S, miB ty a M] 1 6 := by
  refine m_xi (cc := cX8_at) (maxL := 2) (ret := (some .int)) (by decide +kernel) rfl (Nat.le_of_ble_eq_true rfl) ?_
  intro p e s m below meth c A ls hx hb hml hr hlocks hown hts hex hz w hl
  have hown : s.vm.findClass RX8 = some m.cls := hown
  have hl : lv_has ls 2 [(0, .ref o), (1, .int v)] := hl
  have hI := hA.1
  obtain ⟨h0, hn, h1, hq, he, hd, hdr, hwr⟩ := id hI
  refine lv_aload_n hx hb dX8_at_0 rfl (lv_at hl 0 rfl) ?_
  refine r_get (v' := .ref (a 0)) hx hb hts in_X8_at_X8 hown w 0 0 rfl rfl (ci := 12) rfl 0 (by decide) (hts _ (List.mem_of_getElem? (i := 3) rfl)) rfl rfl rfl dX8_at_1 ?_
  refine r_getN (v' := .ref (a 17)) hx hb hts in_X8_at_X6 hown w 1 0 rfl rfl (ci := 10) rfl 1 (by decide) (w.2.2.2.2.2 _ (List.mem_of_getElem? (i := 34) rfl)) rfl rfl rfl dX8_at_4 ?_
  refine lv_iload_n hx hb dX8_at_7 rfl (lv_at hl 1 rfl) ?_
  refine k_iVN (As := [.int v]) (rest := []) (Rs := [ppB o (a 0) (b 0) (sn 0) (h 0) r (t 0) sb hs lf, stB a S, lnB ty a S, weB a S, miB ty a M]) (Bs' := [ppB o (a 0) (b 0) (sn 0) (h 0) r (t 0) sb hs lf, stB a S, lnB ty a S, quB ty a S, weB a S, miB ty a M]) ⟨hx, hb, hml, hown, hts⟩ w (c_X4_hasPlace l D ty a S q (hI).2.2.1 (hI).2.2.2.1 v) ⟨va_cnB 1 hts gX8_at_X4_hasPlace_n201 rfl rfl rfl (w.2.2.2.2.2 _ (List.mem_of_getElem? (i := 92) rfl)) (hts _ (List.mem_of_getElem? (i := 5) rfl)) hdN_X4_hasPlace ⟨Nat.le_of_ble_eq_true rfl, Nat.le_of_ble_eq_true rfl⟩, (hts _ (List.mem_of_getElem? (i := 4) rfl)), (hts _ (List.mem_of_getElem? (i := 6) rfl))⟩ [3, 0, 1, 2, 4, 5] (nB := 6) (by decide) rfl rfl rfl rfl 3 rfl rfl (ci := 8) rfl rfl rfl hl.1 rfl (Nat.le_of_ble_eq_true rfl) dX8_at_8 ⟨(Nat.zero_le _), (Nat.zero_le _)⟩ (fun H locs w => ?_)
  refine lv_if_ne (tgt := 24) hx hb dX8_at_11 (by decide) (fun c11 => ?_) (fun c11 => ?_)
  · have c11 := bI_1.mp c11
    obtain ⟨i, ggi, rfl⟩ := (pHas_iff (by omega)).mp c11
    refine lv_aload_n hx hb dX8_at_24 rfl (lv_at hl 0 rfl) ?_
    refine r_get (v' := .ref (a 0)) hx hb hts in_X8_at_X8 hown w 0 0 rfl rfl (ci := 12) rfl 0 (by decide) (hts _ (List.mem_of_getElem? (i := 3) rfl)) rfl rfl rfl dX8_at_25 ?_
    refine r_getN (v' := .ref (a 17)) hx hb hts in_X8_at_X6 hown w 1 0 rfl rfl (ci := 10) rfl 1 (by decide) (w.2.2.2.2.2 _ (List.mem_of_getElem? (i := 34) rfl)) rfl rfl rfl dX8_at_28 ?_
    refine r_getN (v' := .ref (a 18)) hx hb hts in_X8_at_X4 hown w 3 0 rfl rfl (ci := 8) rfl 1 (by decide) (w.2.2.2.2.2 _ (List.mem_of_getElem? (i := 19) rfl)) rfl rfl rfl dX8_at_31 ?_
    refine lv_iload_n hx hb dX8_at_34 rfl (lv_at hl 1 rfl) ?_
    refine r_iald (v := (S (50 + i))) hx hb w 3 1 rfl rfl 0 rfl i (by omega) (Nat.le_of_ble_eq_true rfl) rfl (quA_at (by omega)) dX8_at_35 ?_
    exact x_i hx hb hr hlocks w (if_pos c11) (by rw [cN_nI (show i < 2 ^ 31 by omega)]) dX8_at_36 (Nat.le_of_ble_eq_true rfl) (Nat.le_of_ble_eq_true rfl)
  · have c11 := bI_0.mp c11
    exact x_throw hx hb hst w hz (by rw [t1, if_neg (bt_n c11)]; decide) rfl hown (by decide) (by decide) (hts _ (List.mem_of_getElem? (i := 1) rfl)) (hts _ (List.mem_of_getElem? (i := 2) rfl)) (hz.1.2 (204, "there is no such place in the queue") (by decide)) (vx_hat (fun w hw => hts w (inx_X8_at_161 w hw)) xb_161 hz.1.1.use) (xg_c xg_161) (hl.1.trans hml.symm) dX8_at_14 dX8_at_17 dX8_at_18 dX8_at_20 dX8_at_23 hex (Nat.le_of_ble_eq_true rfl) (Nat.le_of_ble_eq_true rfl) (Nat.le_of_ble_eq_true rfl) (Nat.le_of_ble_eq_true rfl) hlocks (Nat.le_of_ble_eq_true rfl) (Nat.le_of_ble_eq_true rfl)

theorem in_X8_neighbours_X6 : ∀ w ∈ wsX60, w ∈ wsX8_neighbours := by decide +kernel
theorem in_X8_neighbours_X8 : ∀ w ∈ wsX80, w ∈ wsX8_neighbours := by decide +kernel
theorem inx_X8_neighbours_161 : ∀ w ∈ (vx_atS RX8 161 "java/lang/IndexOutOfBoundsException" ["java/lang/RuntimeException", "java/lang/Exception"]).filter goodWord, w ∈ wsX8_neighbours := by decide +kernel
theorem hdN_X8_neighbours : yX8_neighbours.cls ≠ "java/lang/invoke/MethodHandle" ∧ yX8_neighbours.cls ≠ "java/lang/invoke/VarHandle" ∧ (parseMethodDescriptor yX8_neighbours.desc).map (fun d => d.parameters.length) = some 1 := by decide +kernel
set_option maxRecDepth 100000 in
set_option maxHeartbeats 4000000 in
theorem c_X8_neighbours (l : Launch) (hst : l.stackTraces = false) (D : va_G) (ty : Nat → ClassId) (o : Nat) (a b sn h t : Nat → Nat) (r sb : Nat) (hs lf : Int32) (S M : pS) (n q : Nat) (hA : IA S n q) (v : Int32) : Xi l yX8_neighbours wsX8_neighbours (kR 6 90 1 6) D (kTY ty) [.ref o, .int v] [ppB o (a 0) (b 0) (sn 0) (h 0) r (t 0) sb hs lf, stB a S, lnB ty a S, quB ty a S, weB a S, miB ty a M] (t1 (pHas v n) = 0) [ppB o (a 0) (b 0) (sn 0) (h 0) r (t 0) sb hs lf, stB a S, lnB ty a S, quB ty a S, weB a S, miB ty a M] (pNbs S (cN v) n) "java/lang/IndexOutOfBoundsException" [ppB o (a 0) (b 0) (sn 0) (h 0) r (t 0) sb hs lf, stB a S, lnB ty a S, quB ty a S, weB a S, miB ty a M] 1 6 := by
  refine m_xi (cc := cX8_neighbours) (maxL := 2) (ret := (some .int)) (by decide +kernel) rfl (Nat.le_of_ble_eq_true rfl) ?_
  intro p e s m below meth c A ls hx hb hml hr hlocks hown hts hex hz w hl
  have hown : s.vm.findClass RX8 = some m.cls := hown
  have hl : lv_has ls 2 [(0, .ref o), (1, .int v)] := hl
  have hI := hA.1
  obtain ⟨h0, hn, h1, hq, he, hd, hdr, hwr⟩ := id hI
  refine lv_aload_n hx hb dX8_neighbours_0 rfl (lv_at hl 0 rfl) ?_
  refine r_get (v' := .ref (a 0)) hx hb hts in_X8_neighbours_X8 hown w 0 0 rfl rfl (ci := 12) rfl 0 (by decide) (hts _ (List.mem_of_getElem? (i := 3) rfl)) rfl rfl rfl dX8_neighbours_1 ?_
  refine r_getN (v' := .ref (a 1)) hx hb hts in_X8_neighbours_X6 hown w 1 0 rfl rfl (ci := 10) rfl 0 (by decide) (w.2.2.2.2.2 _ (List.mem_of_getElem? (i := 33) rfl)) rfl rfl rfl dX8_neighbours_4 ?_
  refine lv_iload_n hx hb dX8_neighbours_7 rfl (lv_at hl 1 rfl) ?_
  refine k_iVN (As := [.int v]) (rest := []) (Rs := [ppB o (a 0) (b 0) (sn 0) (h 0) r (t 0) sb hs lf, stB a S, quB ty a S, weB a S, miB ty a M]) (Bs' := [ppB o (a 0) (b 0) (sn 0) (h 0) r (t 0) sb hs lf, stB a S, lnB ty a S, quB ty a S, weB a S, miB ty a M]) ⟨hx, hb, hml, hown, hts⟩ w (c_X2_has l D ty a S n (hI).1 (hI).2.1 v) ⟨va_cnB 1 hts gX8_neighbours_X2_has_n153 rfl rfl rfl (w.2.2.2.2.2 _ (List.mem_of_getElem? (i := 86) rfl)) (hts _ (List.mem_of_getElem? (i := 5) rfl)) hdN_X2_has ⟨Nat.le_of_ble_eq_true rfl, Nat.le_of_ble_eq_true rfl⟩, (hts _ (List.mem_of_getElem? (i := 4) rfl)), (hts _ (List.mem_of_getElem? (i := 6) rfl))⟩ [2, 0, 1, 3, 4, 5] (nB := 6) (by decide) rfl rfl rfl rfl 2 rfl rfl (ci := 6) rfl rfl rfl hl.1 rfl (Nat.le_of_ble_eq_true rfl) dX8_neighbours_8 ⟨(Nat.zero_le _), (Nat.zero_le _)⟩ (fun H locs w => ?_)
  refine lv_if_ne (tgt := 24) hx hb dX8_neighbours_11 (by decide) (fun c11 => ?_) (fun c11 => ?_)
  · have c11 := bI_1.mp c11
    obtain ⟨i, ggi, rfl⟩ := (pHas_iff (by omega)).mp c11
    refine lv_aload_n hx hb dX8_neighbours_24 rfl (lv_at hl 0 rfl) ?_
    refine r_get (v' := .ref (a 0)) hx hb hts in_X8_neighbours_X8 hown w 0 0 rfl rfl (ci := 12) rfl 0 (by decide) (hts _ (List.mem_of_getElem? (i := 3) rfl)) rfl rfl rfl dX8_neighbours_25 ?_
    refine r_getN (v' := .ref (a 1)) hx hb hts in_X8_neighbours_X6 hown w 1 0 rfl rfl (ci := 10) rfl 0 (by decide) (w.2.2.2.2.2 _ (List.mem_of_getElem? (i := 33) rfl)) rfl rfl rfl dX8_neighbours_28 ?_
    refine lv_iload_n hx hb dX8_neighbours_31 rfl (lv_at hl 1 rfl) ?_
    refine k_iVN (As := [.int (nI i)]) (rest := []) (Rs := [ppB o (a 0) (b 0) (sn 0) (h 0) r (t 0) sb hs lf, stB a S, quB ty a S, weB a S, miB ty a M]) (Bs' := [ppB o (a 0) (b 0) (sn 0) (h 0) r (t 0) sb hs lf, stB a S, lnB ty a S, quB ty a S, weB a S, miB ty a M]) ⟨hx, hb, hml, hown, hts⟩ w (c_X2_neighbourSet l D ty a S n (hI).1 (hI).2.1 i (by omega)) ⟨va_cnB 1 hts gX8_neighbours_X2_neighbourSet_n209 rfl rfl rfl (w.2.2.2.2.2 _ (List.mem_of_getElem? (i := 93) rfl)) (hts _ (List.mem_of_getElem? (i := 5) rfl)) hdN_X2_neighbourSet ⟨Nat.le_of_ble_eq_true rfl, Nat.le_of_ble_eq_true rfl⟩, (hts _ (List.mem_of_getElem? (i := 9) rfl)), (hts _ (List.mem_of_getElem? (i := 10) rfl))⟩ [2, 0, 1, 3, 4, 5] (nB := 6) (by decide) rfl rfl rfl rfl 2 rfl rfl (ci := 6) rfl rfl rfl hl.1 rfl (Nat.le_of_ble_eq_true rfl) dX8_neighbours_32 ⟨(Nat.zero_le _), (Nat.zero_le _)⟩ (fun H locs w => ?_)
    exact x_i hx hb hr hlocks w (if_pos c11) (by rw [cN_nI (show i < 2 ^ 31 by omega)]) dX8_neighbours_35 (Nat.le_of_ble_eq_true rfl) (Nat.le_of_ble_eq_true rfl)
  · have c11 := bI_0.mp c11
    exact x_throw hx hb hst w hz (by rw [t1, if_neg (bt_n c11)]; decide) rfl hown (by decide) (by decide) (hts _ (List.mem_of_getElem? (i := 1) rfl)) (hts _ (List.mem_of_getElem? (i := 2) rfl)) (hz.1.2 (159, "there is no such household") (by decide)) (vx_hat (fun w hw => hts w (inx_X8_neighbours_161 w hw)) xb_161 hz.1.1.use) (xg_c xg_161) (hl.1.trans hml.symm) dX8_neighbours_14 dX8_neighbours_17 dX8_neighbours_18 dX8_neighbours_20 dX8_neighbours_23 hex (Nat.le_of_ble_eq_true rfl) (Nat.le_of_ble_eq_true rfl) (Nat.le_of_ble_eq_true rfl) (Nat.le_of_ble_eq_true rfl) hlocks (Nat.le_of_ble_eq_true rfl) (Nat.le_of_ble_eq_true rfl)

theorem in_X8_quarrels_X2 : ∀ w ∈ wsX20, w ∈ wsX8_quarrels := by decide +kernel
theorem in_X8_quarrels_X6 : ∀ w ∈ wsX60, w ∈ wsX8_quarrels := by decide +kernel
theorem in_X8_quarrels_X8 : ∀ w ∈ wsX80, w ∈ wsX8_quarrels := by decide +kernel
theorem inx_X8_quarrels_161 : ∀ w ∈ (vx_atS RX8 161 "java/lang/IndexOutOfBoundsException" ["java/lang/RuntimeException", "java/lang/Exception"]).filter goodWord, w ∈ wsX8_quarrels := by decide +kernel
theorem hdN_X8_quarrels : yX8_quarrels.cls ≠ "java/lang/invoke/MethodHandle" ∧ yX8_quarrels.cls ≠ "java/lang/invoke/VarHandle" ∧ (parseMethodDescriptor yX8_quarrels.desc).map (fun d => d.parameters.length) = some 2 := by decide +kernel
set_option maxRecDepth 100000 in
set_option maxHeartbeats 4000000 in
theorem c_X8_quarrels (l : Launch) (hst : l.stackTraces = false) (D : va_G) (ty : Nat → ClassId) (o : Nat) (a b sn h t : Nat → Nat) (r sb : Nat) (hs lf : Int32) (S M : pS) (n q : Nat) (hA : IA S n q) (v y : Int32) : Xi l yX8_quarrels wsX8_quarrels (kR 6 90 1 6) D (kTY ty) [.ref o, .int v, .int y] [ppB o (a 0) (b 0) (sn 0) (h 0) r (t 0) sb hs lf, stB a S, lnB ty a S, quB ty a S, weB a S, miB ty a M] (t1 (pHas v n && pHas y n) = 0) [ppB o (a 0) (b 0) (sn 0) (h 0) r (t 0) sb hs lf, stB a S, lnB ty a S, quB ty a S, weB a S, miB ty a M] (S (58 + 8 * cN v + cN y)) "java/lang/IndexOutOfBoundsException" [ppB o (a 0) (b 0) (sn 0) (h 0) r (t 0) sb hs lf, stB a S, lnB ty a S, quB ty a S, weB a S, miB ty a M] 1 6 := by
  refine m_xi (cc := cX8_quarrels) (maxL := 3) (ret := (some .int)) (by decide +kernel) rfl (Nat.le_of_ble_eq_true rfl) ?_
  intro p e s m below meth c A ls hx hb hml hr hlocks hown hts hex hz w hl
  have hown : s.vm.findClass RX8 = some m.cls := hown
  have hl : lv_has ls 3 [(0, .ref o), (1, .int v), (2, .int y)] := hl
  have hI := hA.1
  obtain ⟨h0, hn, h1, hq, he, hd, hdr, hwr⟩ := id hI
  refine lv_aload_n hx hb dX8_quarrels_0 rfl (lv_at hl 0 rfl) ?_
  refine r_get (v' := .ref (a 0)) hx hb hts in_X8_quarrels_X8 hown w 0 0 rfl rfl (ci := 12) rfl 0 (by decide) (hts _ (List.mem_of_getElem? (i := 3) rfl)) rfl rfl rfl dX8_quarrels_1 ?_
  refine r_getN (v' := .ref (a 1)) hx hb hts in_X8_quarrels_X6 hown w 1 0 rfl rfl (ci := 10) rfl 0 (by decide) (w.2.2.2.2.2 _ (List.mem_of_getElem? (i := 33) rfl)) rfl rfl rfl dX8_quarrels_4 ?_
  refine lv_iload_n hx hb dX8_quarrels_7 rfl (lv_at hl 1 rfl) ?_
  refine k_iVN (As := [.int v]) (rest := []) (Rs := [ppB o (a 0) (b 0) (sn 0) (h 0) r (t 0) sb hs lf, stB a S, quB ty a S, weB a S, miB ty a M]) (Bs' := [ppB o (a 0) (b 0) (sn 0) (h 0) r (t 0) sb hs lf, stB a S, lnB ty a S, quB ty a S, weB a S, miB ty a M]) ⟨hx, hb, hml, hown, hts⟩ w (c_X2_has l D ty a S n (hI).1 (hI).2.1 v) ⟨va_cnB 1 hts gX8_quarrels_X2_has_n153 rfl rfl rfl (w.2.2.2.2.2 _ (List.mem_of_getElem? (i := 86) rfl)) (hts _ (List.mem_of_getElem? (i := 5) rfl)) hdN_X2_has ⟨Nat.le_of_ble_eq_true rfl, Nat.le_of_ble_eq_true rfl⟩, (hts _ (List.mem_of_getElem? (i := 4) rfl)), (hts _ (List.mem_of_getElem? (i := 6) rfl))⟩ [2, 0, 1, 3, 4, 5] (nB := 6) (by decide) rfl rfl rfl rfl 2 rfl rfl (ci := 6) rfl rfl rfl hl.1 rfl (Nat.le_of_ble_eq_true rfl) dX8_quarrels_8 ⟨(Nat.zero_le _), (Nat.zero_le _)⟩ (fun H locs w => ?_)
  refine lv_if_eq (tgt := 28) hx hb dX8_quarrels_11 (by decide) (fun c11 => ?_) (fun c11 => ?_)
  · have c11 := bI_0.mp c11
    have hno := (by rw [t1, if_neg (by rw [c11]; simp)]; decide : ¬ t1 (pHas v n && pHas y n) = 0)
    exact x_throw hx hb hst w hz hno rfl hown (by decide) (by decide) (hts _ (List.mem_of_getElem? (i := 1) rfl)) (hts _ (List.mem_of_getElem? (i := 2) rfl)) (hz.1.2 (159, "there is no such household") (by decide)) (vx_hat (fun w hw => hts w (inx_X8_quarrels_161 w hw)) xb_161 hz.1.1.use) (xg_c xg_161) (hl.1.trans hml.symm) dX8_quarrels_28 dX8_quarrels_31 dX8_quarrels_32 dX8_quarrels_34 dX8_quarrels_37 hex (Nat.le_of_ble_eq_true rfl) (Nat.le_of_ble_eq_true rfl) (Nat.le_of_ble_eq_true rfl) (Nat.le_of_ble_eq_true rfl) hlocks (Nat.le_of_ble_eq_true rfl) (Nat.le_of_ble_eq_true rfl)
  · have c11 := bI_1.mp c11
    obtain ⟨i, ggi, rfl⟩ := (pHas_iff (by omega)).mp c11
    refine lv_aload_n hx hb dX8_quarrels_14 rfl (lv_at hl 0 rfl) ?_
    refine r_get (v' := .ref (a 0)) hx hb hts in_X8_quarrels_X8 hown w 0 0 rfl rfl (ci := 12) rfl 0 (by decide) (hts _ (List.mem_of_getElem? (i := 3) rfl)) rfl rfl rfl dX8_quarrels_15 ?_
    refine r_getN (v' := .ref (a 1)) hx hb hts in_X8_quarrels_X6 hown w 1 0 rfl rfl (ci := 10) rfl 0 (by decide) (w.2.2.2.2.2 _ (List.mem_of_getElem? (i := 33) rfl)) rfl rfl rfl dX8_quarrels_18 ?_
    refine lv_iload_n hx hb dX8_quarrels_21 rfl (lv_at hl 2 rfl) ?_
    refine k_iVN (As := [.int y]) (rest := []) (Rs := [ppB o (a 0) (b 0) (sn 0) (h 0) r (t 0) sb hs lf, stB a S, quB ty a S, weB a S, miB ty a M]) (Bs' := [ppB o (a 0) (b 0) (sn 0) (h 0) r (t 0) sb hs lf, stB a S, lnB ty a S, quB ty a S, weB a S, miB ty a M]) ⟨hx, hb, hml, hown, hts⟩ w (c_X2_has l D ty a S n (hI).1 (hI).2.1 y) ⟨va_cnB 1 hts gX8_quarrels_X2_has_n153 rfl rfl rfl (w.2.2.2.2.2 _ (List.mem_of_getElem? (i := 86) rfl)) (hts _ (List.mem_of_getElem? (i := 5) rfl)) hdN_X2_has ⟨Nat.le_of_ble_eq_true rfl, Nat.le_of_ble_eq_true rfl⟩, (hts _ (List.mem_of_getElem? (i := 4) rfl)), (hts _ (List.mem_of_getElem? (i := 6) rfl))⟩ [2, 0, 1, 3, 4, 5] (nB := 6) (by decide) rfl rfl rfl rfl 2 rfl rfl (ci := 6) rfl rfl rfl hl.1 rfl (Nat.le_of_ble_eq_true rfl) dX8_quarrels_22 ⟨(Nat.zero_le _), (Nat.zero_le _)⟩ (fun H locs w => ?_)
    refine lv_if_ne (tgt := 38) hx hb dX8_quarrels_25 (by decide) (fun c25 => ?_) (fun c25 => ?_)
    · have c25 := bI_1.mp c25
      obtain ⟨j, ggj, rfl⟩ := (pHas_iff (by omega)).mp c25
      refine lv_aload_n hx hb dX8_quarrels_38 rfl (lv_at hl 0 rfl) ?_
      refine r_get (v' := .ref (a 0)) hx hb hts in_X8_quarrels_X8 hown w 0 0 rfl rfl (ci := 12) rfl 0 (by decide) (hts _ (List.mem_of_getElem? (i := 3) rfl)) rfl rfl rfl dX8_quarrels_39 ?_
      refine r_getN (v' := .ref (a 1)) hx hb hts in_X8_quarrels_X6 hown w 1 0 rfl rfl (ci := 10) rfl 0 (by decide) (w.2.2.2.2.2 _ (List.mem_of_getElem? (i := 33) rfl)) rfl rfl rfl dX8_quarrels_42 ?_
      refine r_getN (v' := .ref (a 8)) hx hb hts in_X8_quarrels_X2 hown w 2 0 rfl rfl (ci := 6) rfl 8 (by decide) (w.2.2.2.2.2 _ (List.mem_of_getElem? (i := 14) rfl)) rfl rfl rfl dX8_quarrels_45 ?_
      refine lv_iload_n hx hb dX8_quarrels_48 rfl (lv_at hl 1 rfl) ?_
      refine r_aald (y := (a (9 + i))) hx hb w 2 7 rfl (ty := .array .int) rfl rfl 3 rfl i (by omega) (Nat.le_of_ble_eq_true rfl) rfl (if_pos (by omega)) dX8_quarrels_49 ?_
      refine lv_iload_n hx hb dX8_quarrels_50 rfl (lv_at hl 2 rfl) ?_
      refine r_iald (v := (S (58 + 8 * i + j))) hx hb w 2 (8 + i) rfl (lnB_row (by omega)) 0 rfl j (by omega) (Nat.le_of_ble_eq_true rfl) rfl (wnA_at (by omega)) dX8_quarrels_51 ?_
      exact x_i hx hb hr hlocks w (by rw [t1, if_pos (by rw [c11, c25]; rfl)]) (by rw [cN_nI (show i < 2 ^ 31 by omega), cN_nI (show j < 2 ^ 31 by omega)]) dX8_quarrels_52 (Nat.le_of_ble_eq_true rfl) (Nat.le_of_ble_eq_true rfl)
    · have c25 := bI_0.mp c25
      have hno := (by rw [t1, if_neg (by rw [c25]; simp)]; decide : ¬ t1 (pHas (nI i) n && pHas y n) = 0)
      exact x_throw hx hb hst w hz hno rfl hown (by decide) (by decide) (hts _ (List.mem_of_getElem? (i := 1) rfl)) (hts _ (List.mem_of_getElem? (i := 2) rfl)) (hz.1.2 (159, "there is no such household") (by decide)) (vx_hat (fun w hw => hts w (inx_X8_quarrels_161 w hw)) xb_161 hz.1.1.use) (xg_c xg_161) (hl.1.trans hml.symm) dX8_quarrels_28 dX8_quarrels_31 dX8_quarrels_32 dX8_quarrels_34 dX8_quarrels_37 hex (Nat.le_of_ble_eq_true rfl) (Nat.le_of_ble_eq_true rfl) (Nat.le_of_ble_eq_true rfl) (Nat.le_of_ble_eq_true rfl) hlocks (Nat.le_of_ble_eq_true rfl) (Nat.le_of_ble_eq_true rfl)

theorem in_X8_turnsBy_X6 : ∀ w ∈ wsX60, w ∈ wsX8_turnsBy := by decide +kernel
theorem in_X8_turnsBy_X8 : ∀ w ∈ wsX80, w ∈ wsX8_turnsBy := by decide +kernel
theorem inx_X8_turnsBy_161 : ∀ w ∈ (vx_atS RX8 161 "java/lang/IndexOutOfBoundsException" ["java/lang/RuntimeException", "java/lang/Exception"]).filter goodWord, w ∈ wsX8_turnsBy := by decide +kernel
theorem inx_X8_turnsBy_200 : ∀ w ∈ (vx_atS RX8 200 "java/lang/IllegalArgumentException" ["java/lang/RuntimeException", "java/lang/Exception"]).filter goodWord, w ∈ wsX8_turnsBy := by decide +kernel
theorem hdN_X8_turnsBy : yX8_turnsBy.cls ≠ "java/lang/invoke/MethodHandle" ∧ yX8_turnsBy.cls ≠ "java/lang/invoke/VarHandle" ∧ (parseMethodDescriptor yX8_turnsBy.desc).map (fun d => d.parameters.length) = some 2 := by decide +kernel
set_option maxRecDepth 100000 in
set_option maxHeartbeats 4000000 in
theorem c_X8_turnsBy (l : Launch) (hst : l.stackTraces = false) (D : va_G) (ty : Nat → ClassId) (o : Nat) (a b sn h t : Nat → Nat) (r sb : Nat) (hs lf : Int32) (S M : pS) (n q : Nat) (hA : IA S n q) (v y : Int32) : Xi l yX8_turnsBy wsX8_turnsBy (kR 6 90 1 6) D (kTY ty) [.ref o, .int v, .int y] [ppB o (a 0) (b 0) (sn 0) (h 0) r (t 0) sb hs lf, stB a S, lnB ty a S, quB ty a S, weB a S, miB ty a M] (tBy n v y = 0) [ppB o (a 0) (b 0) (sn 0) (h 0) r (t 0) sb hs lf, stB a S, lnB ty a S, quB ty a S, weB a S, miB ty a M] (pTbl S (cN v) y) (if tBy n v y = 2 then "java/lang/IllegalArgumentException" else "java/lang/IndexOutOfBoundsException") [ppB o (a 0) (b 0) (sn 0) (h 0) r (t 0) sb hs lf, stB a S, lnB ty a S, quB ty a S, weB a S, miB ty a M] 1 6 := by
  refine m_xi (cc := cX8_turnsBy) (maxL := 3) (ret := (some .int)) (by decide +kernel) rfl (Nat.le_of_ble_eq_true rfl) ?_
  intro p e s m below meth c A ls hx hb hml hr hlocks hown hts hex hz w hl
  have hown : s.vm.findClass RX8 = some m.cls := hown
  have hl : lv_has ls 3 [(0, .ref o), (1, .int v), (2, .int y)] := hl
  have hI := hA.1
  obtain ⟨h0, hn, h1, hq, he, hd, hdr, hwr⟩ := id hI
  refine lv_aload_n hx hb dX8_turnsBy_0 rfl (lv_at hl 0 rfl) ?_
  refine r_get (v' := .ref (a 0)) hx hb hts in_X8_turnsBy_X8 hown w 0 0 rfl rfl (ci := 12) rfl 0 (by decide) (hts _ (List.mem_of_getElem? (i := 5) rfl)) rfl rfl rfl dX8_turnsBy_1 ?_
  refine r_getN (v' := .ref (a 1)) hx hb hts in_X8_turnsBy_X6 hown w 1 0 rfl rfl (ci := 10) rfl 0 (by decide) (w.2.2.2.2.2 _ (List.mem_of_getElem? (i := 33) rfl)) rfl rfl rfl dX8_turnsBy_4 ?_
  refine lv_iload_n hx hb dX8_turnsBy_7 rfl (lv_at hl 1 rfl) ?_
  refine k_iVN (As := [.int v]) (rest := []) (Rs := [ppB o (a 0) (b 0) (sn 0) (h 0) r (t 0) sb hs lf, stB a S, quB ty a S, weB a S, miB ty a M]) (Bs' := [ppB o (a 0) (b 0) (sn 0) (h 0) r (t 0) sb hs lf, stB a S, lnB ty a S, quB ty a S, weB a S, miB ty a M]) ⟨hx, hb, hml, hown, hts⟩ w (c_X2_has l D ty a S n (hI).1 (hI).2.1 v) ⟨va_cnB 1 hts gX8_turnsBy_X2_has_n153 rfl rfl rfl (w.2.2.2.2.2 _ (List.mem_of_getElem? (i := 86) rfl)) (hts _ (List.mem_of_getElem? (i := 7) rfl)) hdN_X2_has ⟨Nat.le_of_ble_eq_true rfl, Nat.le_of_ble_eq_true rfl⟩, (hts _ (List.mem_of_getElem? (i := 6) rfl)), (hts _ (List.mem_of_getElem? (i := 8) rfl))⟩ [2, 0, 1, 3, 4, 5] (nB := 6) (by decide) rfl rfl rfl rfl 2 rfl rfl (ci := 6) rfl rfl rfl hl.1 rfl (Nat.le_of_ble_eq_true rfl) dX8_turnsBy_8 ⟨(Nat.zero_le _), (Nat.zero_le _)⟩ (fun H locs w => ?_)
  refine lv_if_ne (tgt := 24) hx hb dX8_turnsBy_11 (by decide) (fun c11 => ?_) (fun c11 => ?_)
  · have c11 := bI_1.mp c11
    obtain ⟨i, ggi, rfl⟩ := (pHas_iff (by omega)).mp c11
    refine lv_iload_n hx hb dX8_turnsBy_24 rfl (lv_at hl 2 rfl) ?_
    refine lv_iconst (v := 0) hx hb dX8_turnsBy_25 (by decide) ?_
    refine lv_iconst (v := 3) hx hb dX8_turnsBy_26 (by decide) ?_
    refine k_iS (As := [.int y, .int 0, .int 3]) (rest := []) (Rs := [ppB o (a 0) (b 0) (sn 0) (h 0) r (t 0) sb hs lf, stB a S, lnB ty a S, quB ty a S, weB a S, miB ty a M]) (Bs' := [ppB o (a 0) (b 0) (sn 0) (h 0) r (t 0) sb hs lf, stB a S, lnB ty a S, quB ty a S, weB a S, miB ty a M]) ⟨hx, hb, hml, hown, hts⟩ w (c_X8_isWithin l D ty y 0 3) (va_cwS 3 hts gX8_turnsBy_X8_isWithin rfl rfl rfl hdN_X8_isWithin ⟨Nat.le_of_ble_eq_true rfl, Nat.le_of_ble_eq_true rfl⟩) [0, 1, 2, 3, 4, 5] (nB := 6) (by decide) rfl rfl rfl rfl rfl hl.1 rfl (Nat.le_of_ble_eq_true rfl) dX8_turnsBy_27 ⟨(Nat.zero_le _), (Nat.zero_le _)⟩ (fun H locs w => ?_)
    refine lv_if_ne (tgt := 43) hx hb dX8_turnsBy_30 (by decide) (fun c30 => ?_) (fun c30 => ?_)
    · have c30 := bI_1.mp c30
      refine lv_aload_n hx hb dX8_turnsBy_43 rfl (lv_at hl 0 rfl) ?_
      refine r_get (v' := .ref (a 0)) hx hb hts in_X8_turnsBy_X8 hown w 0 0 rfl rfl (ci := 12) rfl 0 (by decide) (hts _ (List.mem_of_getElem? (i := 5) rfl)) rfl rfl rfl dX8_turnsBy_44 ?_
      refine r_getN (v' := .ref (a 1)) hx hb hts in_X8_turnsBy_X6 hown w 1 0 rfl rfl (ci := 10) rfl 0 (by decide) (w.2.2.2.2.2 _ (List.mem_of_getElem? (i := 33) rfl)) rfl rfl rfl dX8_turnsBy_47 ?_
      refine lv_iload_n hx hb dX8_turnsBy_50 rfl (lv_at hl 1 rfl) ?_
      refine lv_iload_n hx hb dX8_turnsBy_51 rfl (lv_at hl 2 rfl) ?_
      refine k_iVN (As := [.int (nI i), .int y]) (rest := []) (Rs := [ppB o (a 0) (b 0) (sn 0) (h 0) r (t 0) sb hs lf, stB a S, quB ty a S, weB a S, miB ty a M]) (Bs' := [ppB o (a 0) (b 0) (sn 0) (h 0) r (t 0) sb hs lf, stB a S, lnB ty a S, quB ty a S, weB a S, miB ty a M]) ⟨hx, hb, hml, hown, hts⟩ w (c_X2_lawfulTurns l D ty a S i (by omega) y) ⟨va_cnB 2 hts gX8_turnsBy_X2_lawfulTurns_n228 rfl rfl rfl (w.2.2.2.2.2 _ (List.mem_of_getElem? (i := 87) rfl)) (hts _ (List.mem_of_getElem? (i := 7) rfl)) hdN_X2_lawfulTurns ⟨Nat.le_of_ble_eq_true rfl, Nat.le_of_ble_eq_true rfl⟩, (hts _ (List.mem_of_getElem? (i := 15) rfl)), (hts _ (List.mem_of_getElem? (i := 16) rfl))⟩ [2, 0, 1, 3, 4, 5] (nB := 6) (by decide) rfl rfl rfl rfl 2 rfl rfl (ci := 6) rfl rfl rfl hl.1 rfl (Nat.le_of_ble_eq_true rfl) dX8_turnsBy_52 ⟨(Nat.zero_le _), (Nat.zero_le _)⟩ (fun H locs w => ?_)
      exact x_i hx hb hr hlocks w (by rw [tBy, if_pos c11, if_pos c30]) (by rw [cN_nI (show i < 2 ^ 31 by omega)]) dX8_turnsBy_55 (Nat.le_of_ble_eq_true rfl) (Nat.le_of_ble_eq_true rfl)
    · have c30 := bI_0.mp c30
      have hno : tBy n (nI i) y = 2 := by rw [tBy, if_pos c11, if_neg (bt_n c30)]
      exact x_throw hx hb hst w hz (by rw [hno]; decide) (by rw [hno]; rfl) hown (by decide) (by decide) (hts _ (List.mem_of_getElem? (i := 3) rfl)) (hts _ (List.mem_of_getElem? (i := 4) rfl)) (hz.1.2 (226, "there is no such law") (by decide)) (vx_hat (fun w hw => hts w (inx_X8_turnsBy_200 w hw)) xb_200 hz.1.1.use) (xg_c xg_200) (hl.1.trans hml.symm) dX8_turnsBy_33 dX8_turnsBy_36 dX8_turnsBy_37 dX8_turnsBy_39 dX8_turnsBy_42 hex (Nat.le_of_ble_eq_true rfl) (Nat.le_of_ble_eq_true rfl) (Nat.le_of_ble_eq_true rfl) (Nat.le_of_ble_eq_true rfl) hlocks (Nat.le_of_ble_eq_true rfl) (Nat.le_of_ble_eq_true rfl)
  · have c11 := bI_0.mp c11
    have hno : tBy n v y = 1 := by rw [tBy, if_neg (bt_n c11)]
    exact x_throw hx hb hst w hz (by rw [hno]; decide) (by rw [hno]; rfl) hown (by decide) (by decide) (hts _ (List.mem_of_getElem? (i := 1) rfl)) (hts _ (List.mem_of_getElem? (i := 2) rfl)) (hz.1.2 (159, "there is no such household") (by decide)) (vx_hat (fun w hw => hts w (inx_X8_turnsBy_161 w hw)) xb_161 hz.1.1.use) (xg_c xg_161) (hl.1.trans hml.symm) dX8_turnsBy_14 dX8_turnsBy_17 dX8_turnsBy_18 dX8_turnsBy_20 dX8_turnsBy_23 hex (Nat.le_of_ble_eq_true rfl) (Nat.le_of_ble_eq_true rfl) (Nat.le_of_ble_eq_true rfl) (Nat.le_of_ble_eq_true rfl) hlocks (Nat.le_of_ble_eq_true rfl) (Nat.le_of_ble_eq_true rfl)

theorem in_X8_isFor_X6 : ∀ w ∈ wsX60, w ∈ wsX8_isFor := by decide +kernel
theorem in_X8_isFor_X8 : ∀ w ∈ wsX80, w ∈ wsX8_isFor := by decide +kernel
theorem inx_X8_isFor_161 : ∀ w ∈ (vx_atS RX8 161 "java/lang/IndexOutOfBoundsException" ["java/lang/RuntimeException", "java/lang/Exception"]).filter goodWord, w ∈ wsX8_isFor := by decide +kernel
theorem hdN_X8_isFor : yX8_isFor.cls ≠ "java/lang/invoke/MethodHandle" ∧ yX8_isFor.cls ≠ "java/lang/invoke/VarHandle" ∧ (parseMethodDescriptor yX8_isFor.desc).map (fun d => d.parameters.length) = some 1 := by decide +kernel
set_option maxRecDepth 100000 in
set_option maxHeartbeats 4000000 in
theorem c_X8_isFor (l : Launch) (hst : l.stackTraces = false) (D : va_G) (ty : Nat → ClassId) (o : Nat) (a b sn h t : Nat → Nat) (r sb : Nat) (hs lf : Int32) (S M : pS) (n q : Nat) (hA : IA S n q) (v : Int32) : Xi l yX8_isFor wsX8_isFor (kR 6 90 1 6) D (kTY ty) [.ref o, .int v] [ppB o (a 0) (b 0) (sn 0) (h 0) r (t 0) sb hs lf, stB a S, lnB ty a S, quB ty a S, weB a S, miB ty a M] (t1 (pHas v n) = 0) [ppB o (a 0) (b 0) (sn 0) (h 0) r (t 0) sb hs lf, stB a S, lnB ty a S, quB ty a S, weB a S, miB ty a M] (nI (pWant S (cN v) 3)) "java/lang/IndexOutOfBoundsException" [ppB o (a 0) (b 0) (sn 0) (h 0) r (t 0) sb hs lf, stB a S, lnB ty a S, quB ty a S, weB a S, miB ty a M] 1 6 := by
  refine m_xi (cc := cX8_isFor) (maxL := 2) (ret := (some .int)) (by decide +kernel) rfl (Nat.le_of_ble_eq_true rfl) ?_
  intro p e s m below meth c A ls hx hb hml hr hlocks hown hts hex hz w hl
  have hown : s.vm.findClass RX8 = some m.cls := hown
  have hl : lv_has ls 2 [(0, .ref o), (1, .int v)] := hl
  have hI := hA.1
  obtain ⟨h0, hn, h1, hq, he, hd, hdr, hwr⟩ := id hI
  refine lv_aload_n hx hb dX8_isFor_0 rfl (lv_at hl 0 rfl) ?_
  refine r_get (v' := .ref (a 0)) hx hb hts in_X8_isFor_X8 hown w 0 0 rfl rfl (ci := 12) rfl 0 (by decide) (hts _ (List.mem_of_getElem? (i := 3) rfl)) rfl rfl rfl dX8_isFor_1 ?_
  refine r_getN (v' := .ref (a 1)) hx hb hts in_X8_isFor_X6 hown w 1 0 rfl rfl (ci := 10) rfl 0 (by decide) (w.2.2.2.2.2 _ (List.mem_of_getElem? (i := 33) rfl)) rfl rfl rfl dX8_isFor_4 ?_
  refine lv_iload_n hx hb dX8_isFor_7 rfl (lv_at hl 1 rfl) ?_
  refine k_iVN (As := [.int v]) (rest := []) (Rs := [ppB o (a 0) (b 0) (sn 0) (h 0) r (t 0) sb hs lf, stB a S, quB ty a S, weB a S, miB ty a M]) (Bs' := [ppB o (a 0) (b 0) (sn 0) (h 0) r (t 0) sb hs lf, stB a S, lnB ty a S, quB ty a S, weB a S, miB ty a M]) ⟨hx, hb, hml, hown, hts⟩ w (c_X2_has l D ty a S n (hI).1 (hI).2.1 v) ⟨va_cnB 1 hts gX8_isFor_X2_has_n153 rfl rfl rfl (w.2.2.2.2.2 _ (List.mem_of_getElem? (i := 86) rfl)) (hts _ (List.mem_of_getElem? (i := 5) rfl)) hdN_X2_has ⟨Nat.le_of_ble_eq_true rfl, Nat.le_of_ble_eq_true rfl⟩, (hts _ (List.mem_of_getElem? (i := 4) rfl)), (hts _ (List.mem_of_getElem? (i := 6) rfl))⟩ [2, 0, 1, 3, 4, 5] (nB := 6) (by decide) rfl rfl rfl rfl 2 rfl rfl (ci := 6) rfl rfl rfl hl.1 rfl (Nat.le_of_ble_eq_true rfl) dX8_isFor_8 ⟨(Nat.zero_le _), (Nat.zero_le _)⟩ (fun H locs w => ?_)
  refine lv_if_ne (tgt := 24) hx hb dX8_isFor_11 (by decide) (fun c11 => ?_) (fun c11 => ?_)
  · have c11 := bI_1.mp c11
    obtain ⟨i, ggi, rfl⟩ := (pHas_iff (by omega)).mp c11
    refine lv_aload_n hx hb dX8_isFor_24 rfl (lv_at hl 0 rfl) ?_
    refine r_get (v' := .ref (a 0)) hx hb hts in_X8_isFor_X8 hown w 0 0 rfl rfl (ci := 12) rfl 0 (by decide) (hts _ (List.mem_of_getElem? (i := 3) rfl)) rfl rfl rfl dX8_isFor_25 ?_
    refine r_getN (v' := .ref (a 1)) hx hb hts in_X8_isFor_X6 hown w 1 0 rfl rfl (ci := 10) rfl 0 (by decide) (w.2.2.2.2.2 _ (List.mem_of_getElem? (i := 33) rfl)) rfl rfl rfl dX8_isFor_28 ?_
    refine lv_iload_n hx hb dX8_isFor_31 rfl (lv_at hl 1 rfl) ?_
    refine k_iVN (As := [.int (nI i)]) (rest := []) (Rs := [ppB o (a 0) (b 0) (sn 0) (h 0) r (t 0) sb hs lf, stB a S, quB ty a S, weB a S, miB ty a M]) (Bs' := [ppB o (a 0) (b 0) (sn 0) (h 0) r (t 0) sb hs lf, stB a S, lnB ty a S, quB ty a S, weB a S, miB ty a M]) ⟨hx, hb, hml, hown, hts⟩ w (c_X2_favouriteLaw l D ty a S i (by omega)) ⟨va_cnB 1 hts gX8_isFor_X2_favouriteLaw_n231 rfl rfl rfl (w.2.2.2.2.2 _ (List.mem_of_getElem? (i := 91) rfl)) (hts _ (List.mem_of_getElem? (i := 5) rfl)) hdN_X2_favouriteLaw ⟨Nat.le_of_ble_eq_true rfl, Nat.le_of_ble_eq_true rfl⟩, (hts _ (List.mem_of_getElem? (i := 9) rfl)), (hts _ (List.mem_of_getElem? (i := 10) rfl))⟩ [2, 0, 1, 3, 4, 5] (nB := 6) (by decide) rfl rfl rfl rfl 2 rfl rfl (ci := 6) rfl rfl rfl hl.1 rfl (Nat.le_of_ble_eq_true rfl) dX8_isFor_32 ⟨(Nat.zero_le _), (Nat.zero_le _)⟩ (fun H locs w => ?_)
    exact x_i hx hb hr hlocks w (if_pos c11) (by rw [cN_nI (show i < 2 ^ 31 by omega)]) dX8_isFor_35 (Nat.le_of_ble_eq_true rfl) (Nat.le_of_ble_eq_true rfl)
  · have c11 := bI_0.mp c11
    exact x_throw hx hb hst w hz (by rw [t1, if_neg (bt_n c11)]; decide) rfl hown (by decide) (by decide) (hts _ (List.mem_of_getElem? (i := 1) rfl)) (hts _ (List.mem_of_getElem? (i := 2) rfl)) (hz.1.2 (159, "there is no such household") (by decide)) (vx_hat (fun w hw => hts w (inx_X8_isFor_161 w hw)) xb_161 hz.1.1.use) (xg_c xg_161) (hl.1.trans hml.symm) dX8_isFor_14 dX8_isFor_17 dX8_isFor_18 dX8_isFor_20 dX8_isFor_23 hex (Nat.le_of_ble_eq_true rfl) (Nat.le_of_ble_eq_true rfl) (Nat.le_of_ble_eq_true rfl) (Nat.le_of_ble_eq_true rfl) hlocks (Nat.le_of_ble_eq_true rfl) (Nat.le_of_ble_eq_true rfl)

theorem in_X8_membersFor_X6 : ∀ w ∈ wsX60, w ∈ wsX8_membersFor := by decide +kernel
theorem in_X8_membersFor_X8 : ∀ w ∈ wsX80, w ∈ wsX8_membersFor := by decide +kernel
theorem inx_X8_membersFor_200 : ∀ w ∈ (vx_atS RX8 200 "java/lang/IllegalArgumentException" ["java/lang/RuntimeException", "java/lang/Exception"]).filter goodWord, w ∈ wsX8_membersFor := by decide +kernel
theorem hdN_X8_membersFor : yX8_membersFor.cls ≠ "java/lang/invoke/MethodHandle" ∧ yX8_membersFor.cls ≠ "java/lang/invoke/VarHandle" ∧ (parseMethodDescriptor yX8_membersFor.desc).map (fun d => d.parameters.length) = some 1 := by decide +kernel
set_option maxRecDepth 100000 in
set_option maxHeartbeats 4000000 in
theorem c_X8_membersFor (l : Launch) (hst : l.stackTraces = false) (D : va_G) (ty : Nat → ClassId) (o : Nat) (a b sn h t : Nat → Nat) (r sb : Nat) (hs lf : Int32) (S M : pS) (n q : Nat) (hA : IA S n q) (v : Int32) : Xi l yX8_membersFor wsX8_membersFor (kR 6 90 1 6) D (kTY ty) [.ref o, .int v] [ppB o (a 0) (b 0) (sn 0) (h 0) r (t 0) sb hs lf, stB a S, lnB ty a S, quB ty a S, weB a S, miB ty a M] (t1 (pIn v 0 3) = 0) [ppB o (a 0) (b 0) (sn 0) (h 0) r (t 0) sb hs lf, stB a S, lnB ty a S, quB ty a S, weB a S, miB ty a M] (pMem S v n) "java/lang/IllegalArgumentException" [ppB o (a 0) (b 0) (sn 0) (h 0) r (t 0) sb hs lf, stB a S, lnB ty a S, quB ty a S, weB a S, miB ty a M] 1 6 := by
  refine m_xi (cc := cX8_membersFor) (maxL := 2) (ret := (some .int)) (by decide +kernel) rfl (Nat.le_of_ble_eq_true rfl) ?_
  intro p e s m below meth c A ls hx hb hml hr hlocks hown hts hex hz w hl
  have hown : s.vm.findClass RX8 = some m.cls := hown
  have hl : lv_has ls 2 [(0, .ref o), (1, .int v)] := hl
  have hI := hA.1
  obtain ⟨h0, hn, h1, hq, he, hd, hdr, hwr⟩ := id hI
  refine lv_iload_n hx hb dX8_membersFor_0 rfl (lv_at hl 1 rfl) ?_
  refine lv_iconst (v := 0) hx hb dX8_membersFor_1 (by decide) ?_
  refine lv_iconst (v := 3) hx hb dX8_membersFor_2 (by decide) ?_
  refine k_iS (As := [.int v, .int 0, .int 3]) (rest := []) (Rs := [ppB o (a 0) (b 0) (sn 0) (h 0) r (t 0) sb hs lf, stB a S, lnB ty a S, quB ty a S, weB a S, miB ty a M]) (Bs' := [ppB o (a 0) (b 0) (sn 0) (h 0) r (t 0) sb hs lf, stB a S, lnB ty a S, quB ty a S, weB a S, miB ty a M]) ⟨hx, hb, hml, hown, hts⟩ w (c_X8_isWithin l D ty v 0 3) (va_cwS 3 hts gX8_membersFor_X8_isWithin rfl rfl rfl hdN_X8_isWithin ⟨Nat.le_of_ble_eq_true rfl, Nat.le_of_ble_eq_true rfl⟩) [0, 1, 2, 3, 4, 5] (nB := 6) (by decide) rfl rfl rfl rfl rfl hl.1 rfl (Nat.le_of_ble_eq_true rfl) dX8_membersFor_3 ⟨(Nat.zero_le _), (Nat.zero_le _)⟩ (fun H locs w => ?_)
  refine lv_if_ne (tgt := 19) hx hb dX8_membersFor_6 (by decide) (fun c6 => ?_) (fun c6 => ?_)
  · have c6 := bI_1.mp c6
    refine lv_aload_n hx hb dX8_membersFor_19 rfl (lv_at hl 0 rfl) ?_
    refine r_get (v' := .ref (a 0)) hx hb hts in_X8_membersFor_X8 hown w 0 0 rfl rfl (ci := 12) rfl 0 (by decide) (hts _ (List.mem_of_getElem? (i := 3) rfl)) rfl rfl rfl dX8_membersFor_20 ?_
    refine r_getN (v' := .ref (a 1)) hx hb hts in_X8_membersFor_X6 hown w 1 0 rfl rfl (ci := 10) rfl 0 (by decide) (w.2.2.2.2.2 _ (List.mem_of_getElem? (i := 33) rfl)) rfl rfl rfl dX8_membersFor_23 ?_
    refine lv_iload_n hx hb dX8_membersFor_26 rfl (lv_at hl 1 rfl) ?_
    refine k_iVN (As := [.int v]) (rest := []) (Rs := [ppB o (a 0) (b 0) (sn 0) (h 0) r (t 0) sb hs lf, stB a S, quB ty a S, weB a S, miB ty a M]) (Bs' := [ppB o (a 0) (b 0) (sn 0) (h 0) r (t 0) sb hs lf, stB a S, lnB ty a S, quB ty a S, weB a S, miB ty a M]) ⟨hx, hb, hml, hown, hts⟩ w (c_X2_membersBehind l D ty a S n (hI).1 (hI).2.1 v) ⟨va_cnB 1 hts gX8_membersFor_X2_membersBehind_n234 rfl rfl rfl (w.2.2.2.2.2 _ (List.mem_of_getElem? (i := 95) rfl)) (hts _ (List.mem_of_getElem? (i := 9) rfl)) hdN_X2_membersBehind ⟨Nat.le_of_ble_eq_true rfl, Nat.le_of_ble_eq_true rfl⟩, (hts _ (List.mem_of_getElem? (i := 8) rfl)), (hts _ (List.mem_of_getElem? (i := 10) rfl))⟩ [2, 0, 1, 3, 4, 5] (nB := 6) (by decide) rfl rfl rfl rfl 2 rfl rfl (ci := 6) rfl rfl rfl hl.1 rfl (Nat.le_of_ble_eq_true rfl) dX8_membersFor_27 ⟨(Nat.zero_le _), (Nat.zero_le _)⟩ (fun H locs w => ?_)
    exact x_i hx hb hr hlocks w (if_pos c6) rfl dX8_membersFor_30 (Nat.le_of_ble_eq_true rfl) (Nat.le_of_ble_eq_true rfl)
  · have c6 := bI_0.mp c6
    exact x_throw hx hb hst w hz (by rw [t1, if_neg (bt_n c6)]; decide) rfl hown (by decide) (by decide) (hts _ (List.mem_of_getElem? (i := 1) rfl)) (hts _ (List.mem_of_getElem? (i := 2) rfl)) (hz.1.2 (226, "there is no such law") (by decide)) (vx_hat (fun w hw => hts w (inx_X8_membersFor_200 w hw)) xb_200 hz.1.1.use) (xg_c xg_200) (hl.1.trans hml.symm) dX8_membersFor_9 dX8_membersFor_12 dX8_membersFor_13 dX8_membersFor_15 dX8_membersFor_18 hex (Nat.le_of_ble_eq_true rfl) (Nat.le_of_ble_eq_true rfl) (Nat.le_of_ble_eq_true rfl) (Nat.le_of_ble_eq_true rfl) hlocks (Nat.le_of_ble_eq_true rfl) (Nat.le_of_ble_eq_true rfl)
