theorem pIn_n3 : ∀ {k : Nat}, k < 4 → pIn (nI k) 0 3 = true := by
  intro k hk
  rcases (show k = 0 ∨ k = 1 ∨ k = 2 ∨ k = 3 by omega) with rfl | rfl | rfl | rfl <;> decide +kernel
theorem in_X8_at_X4 : ∀ w ∈ wsX40, w ∈ wsX8_at := by decide +kernel
theorem in_X8_at_X6 : ∀ w ∈ wsX60, w ∈ wsX8_at := by decide +kernel
theorem in_X8_at_X8 : ∀ w ∈ wsX80, w ∈ wsX8_at := by decide +kernel
theorem hdN_X8_at : yX8_at.cls ≠ "java/lang/invoke/MethodHandle" ∧ yX8_at.cls ≠ "java/lang/invoke/VarHandle" ∧ (parseMethodDescriptor yX8_at.desc).map (fun d => d.parameters.length) = some 1 := by decide +kernel
set_option maxRecDepth 100000 in
set_option maxHeartbeats 4000000 in
theorem c_X8_at (l : Launch) (D : va_G) (ty : Nat → ClassId) (o : Nat) (a b sn h t : Nat → Nat) (r sb : Nat) (hs lf : Int32) (S M : pS) (n q : Nat) (hA : IA S n q) (u : Nat) (hu : u < q)  : Mi l yX8_at wsX8_at (kR 1 21 0 0) D (kTY ty) [.ref o, .int (nI u)] [ppB o (a 0) (b 0) (sn 0) (h 0) r (t 0) sb hs lf, stB a S, lnB ty a S, quB ty a S, weB a S, miB ty a M] [ppB o (a 0) (b 0) (sn 0) (h 0) r (t 0) sb hs lf, stB a S, lnB ty a S, quB ty a S, weB a S, miB ty a M] (S (50 + u)) 0 0 := by
  refine m_i (cc := cX8_at) (maxL := 2) (ret := (some .int)) (by decide +kernel) rfl (Nat.le_of_ble_eq_true rfl) ?_
  intro p e s m below meth c A ls hx hb hml hr hlocks hown hts w hl
  have hown : s.vm.findClass RX8 = some m.cls := hown
  have hl : lv_has ls 2 [(0, .ref o), (1, .int (nI u))] := hl
  have hI := hA.1
  obtain ⟨h0, hn, h1, hq, he, hd, hdr, hwr⟩ := id hI
  refine lv_aload_n hx hb dX8_at_0 rfl (lv_at hl 0 rfl) ?_
  refine r_get (v' := .ref (a 0)) hx hb hts in_X8_at_X8 hown w 0 0 rfl rfl (ci := 12) rfl 0 (by decide) (hts _ (List.mem_of_getElem? (i := 3) rfl)) rfl rfl rfl dX8_at_1 ?_
  refine r_getN (v' := .ref (a 17)) hx hb hts in_X8_at_X6 hown w 1 0 rfl rfl (ci := 10) rfl 1 (by decide) (w.2.2.2.2.2 _ (List.mem_of_getElem? (i := 34) rfl)) rfl rfl rfl dX8_at_4 ?_
  refine lv_iload_n hx hb dX8_at_7 rfl (lv_at hl 1 rfl) ?_
  refine k_iVN (As := [.int (nI u)]) (rest := []) (Rs := [ppB o (a 0) (b 0) (sn 0) (h 0) r (t 0) sb hs lf, stB a S, lnB ty a S, weB a S, miB ty a M]) (Bs' := [ppB o (a 0) (b 0) (sn 0) (h 0) r (t 0) sb hs lf, stB a S, lnB ty a S, quB ty a S, weB a S, miB ty a M]) ⟨hx, hb, hml, hown, hts⟩ w (c_X4_hasPlace l D ty a S q (hI).2.2.1 (hI).2.2.2.1 (nI u)) ⟨va_cnB 1 hts gX8_at_X4_hasPlace_n201 rfl rfl rfl (w.2.2.2.2.2 _ (List.mem_of_getElem? (i := 92) rfl)) (hts _ (List.mem_of_getElem? (i := 5) rfl)) hdN_X4_hasPlace ⟨Nat.le_of_ble_eq_true rfl, Nat.le_of_ble_eq_true rfl⟩, (hts _ (List.mem_of_getElem? (i := 4) rfl)), (hts _ (List.mem_of_getElem? (i := 6) rfl))⟩ [3, 0, 1, 2, 4, 5] (nB := 6) (by decide) rfl rfl rfl rfl 3 rfl rfl (ci := 8) rfl rfl rfl hl.1 rfl (Nat.le_of_ble_eq_true rfl) dX8_at_8 ⟨(Nat.zero_le _), (Nat.zero_le _)⟩ (fun H locs w => ?_)
  refine lv_if_ne (tgt := 24) hx hb dX8_at_11 (by decide) (fun c11 => ?_) (fun c11 => ?_)
  · have c11 := bI_1.mp c11
    refine lv_aload_n hx hb dX8_at_24 rfl (lv_at hl 0 rfl) ?_
    refine r_get (v' := .ref (a 0)) hx hb hts in_X8_at_X8 hown w 0 0 rfl rfl (ci := 12) rfl 0 (by decide) (hts _ (List.mem_of_getElem? (i := 3) rfl)) rfl rfl rfl dX8_at_25 ?_
    refine r_getN (v' := .ref (a 17)) hx hb hts in_X8_at_X6 hown w 1 0 rfl rfl (ci := 10) rfl 1 (by decide) (w.2.2.2.2.2 _ (List.mem_of_getElem? (i := 34) rfl)) rfl rfl rfl dX8_at_28 ?_
    refine r_getN (v' := .ref (a 18)) hx hb hts in_X8_at_X4 hown w 3 0 rfl rfl (ci := 8) rfl 1 (by decide) (w.2.2.2.2.2 _ (List.mem_of_getElem? (i := 19) rfl)) rfl rfl rfl dX8_at_31 ?_
    refine lv_iload_n hx hb dX8_at_34 rfl (lv_at hl 1 rfl) ?_
    refine r_iald (v := (S (50 + u))) hx hb w 3 1 rfl rfl 0 rfl u (by omega) (Nat.le_of_ble_eq_true rfl) rfl (quA_at (by omega)) dX8_at_35 ?_
    exact e_i hx hb hr hlocks w rfl dX8_at_36 (Nat.le_refl _) (Nat.le_refl _)
  · have c11 := bI_0.mp c11
    exact absurd c11 (by rw [pHas_n hu (by omega)]; decide)

theorem in_X8_neighbours_X6 : ∀ w ∈ wsX60, w ∈ wsX8_neighbours := by decide +kernel
theorem in_X8_neighbours_X8 : ∀ w ∈ wsX80, w ∈ wsX8_neighbours := by decide +kernel
theorem hdN_X8_neighbours : yX8_neighbours.cls ≠ "java/lang/invoke/MethodHandle" ∧ yX8_neighbours.cls ≠ "java/lang/invoke/VarHandle" ∧ (parseMethodDescriptor yX8_neighbours.desc).map (fun d => d.parameters.length) = some 1 := by decide +kernel
set_option maxRecDepth 100000 in
set_option maxHeartbeats 4000000 in
theorem c_X8_neighbours (l : Launch) (D : va_G) (ty : Nat → ClassId) (o : Nat) (a b sn h t : Nat → Nat) (r sb : Nat) (hs lf : Int32) (S M : pS) (n q : Nat) (hA : IA S n q) (i : Nat) (hi : i < n)  : Mi l yX8_neighbours wsX8_neighbours (kR 3 58 0 0) D (kTY ty) [.ref o, .int (nI i)] [ppB o (a 0) (b 0) (sn 0) (h 0) r (t 0) sb hs lf, stB a S, lnB ty a S, quB ty a S, weB a S, miB ty a M] [ppB o (a 0) (b 0) (sn 0) (h 0) r (t 0) sb hs lf, stB a S, lnB ty a S, quB ty a S, weB a S, miB ty a M] (pNbs S i n) 0 0 := by
  refine m_i (cc := cX8_neighbours) (maxL := 2) (ret := (some .int)) (by decide +kernel) rfl (Nat.le_of_ble_eq_true rfl) ?_
  intro p e s m below meth c A ls hx hb hml hr hlocks hown hts w hl
  have hown : s.vm.findClass RX8 = some m.cls := hown
  have hl : lv_has ls 2 [(0, .ref o), (1, .int (nI i))] := hl
  have hI := hA.1
  obtain ⟨h0, hn, h1, hq, he, hd, hdr, hwr⟩ := id hI
  refine lv_aload_n hx hb dX8_neighbours_0 rfl (lv_at hl 0 rfl) ?_
  refine r_get (v' := .ref (a 0)) hx hb hts in_X8_neighbours_X8 hown w 0 0 rfl rfl (ci := 12) rfl 0 (by decide) (hts _ (List.mem_of_getElem? (i := 3) rfl)) rfl rfl rfl dX8_neighbours_1 ?_
  refine r_getN (v' := .ref (a 1)) hx hb hts in_X8_neighbours_X6 hown w 1 0 rfl rfl (ci := 10) rfl 0 (by decide) (w.2.2.2.2.2 _ (List.mem_of_getElem? (i := 33) rfl)) rfl rfl rfl dX8_neighbours_4 ?_
  refine lv_iload_n hx hb dX8_neighbours_7 rfl (lv_at hl 1 rfl) ?_
  refine k_iVN (As := [.int (nI i)]) (rest := []) (Rs := [ppB o (a 0) (b 0) (sn 0) (h 0) r (t 0) sb hs lf, stB a S, quB ty a S, weB a S, miB ty a M]) (Bs' := [ppB o (a 0) (b 0) (sn 0) (h 0) r (t 0) sb hs lf, stB a S, lnB ty a S, quB ty a S, weB a S, miB ty a M]) ⟨hx, hb, hml, hown, hts⟩ w (c_X2_has l D ty a S n (hI).1 (hI).2.1 (nI i)) ⟨va_cnB 1 hts gX8_neighbours_X2_has_n153 rfl rfl rfl (w.2.2.2.2.2 _ (List.mem_of_getElem? (i := 86) rfl)) (hts _ (List.mem_of_getElem? (i := 5) rfl)) hdN_X2_has ⟨Nat.le_of_ble_eq_true rfl, Nat.le_of_ble_eq_true rfl⟩, (hts _ (List.mem_of_getElem? (i := 4) rfl)), (hts _ (List.mem_of_getElem? (i := 6) rfl))⟩ [2, 0, 1, 3, 4, 5] (nB := 6) (by decide) rfl rfl rfl rfl 2 rfl rfl (ci := 6) rfl rfl rfl hl.1 rfl (Nat.le_of_ble_eq_true rfl) dX8_neighbours_8 ⟨(Nat.zero_le _), (Nat.zero_le _)⟩ (fun H locs w => ?_)
  refine lv_if_ne (tgt := 24) hx hb dX8_neighbours_11 (by decide) (fun c11 => ?_) (fun c11 => ?_)
  · have c11 := bI_1.mp c11
    refine lv_aload_n hx hb dX8_neighbours_24 rfl (lv_at hl 0 rfl) ?_
    refine r_get (v' := .ref (a 0)) hx hb hts in_X8_neighbours_X8 hown w 0 0 rfl rfl (ci := 12) rfl 0 (by decide) (hts _ (List.mem_of_getElem? (i := 3) rfl)) rfl rfl rfl dX8_neighbours_25 ?_
    refine r_getN (v' := .ref (a 1)) hx hb hts in_X8_neighbours_X6 hown w 1 0 rfl rfl (ci := 10) rfl 0 (by decide) (w.2.2.2.2.2 _ (List.mem_of_getElem? (i := 33) rfl)) rfl rfl rfl dX8_neighbours_28 ?_
    refine lv_iload_n hx hb dX8_neighbours_31 rfl (lv_at hl 1 rfl) ?_
    refine k_iVN (As := [.int (nI i)]) (rest := []) (Rs := [ppB o (a 0) (b 0) (sn 0) (h 0) r (t 0) sb hs lf, stB a S, quB ty a S, weB a S, miB ty a M]) (Bs' := [ppB o (a 0) (b 0) (sn 0) (h 0) r (t 0) sb hs lf, stB a S, lnB ty a S, quB ty a S, weB a S, miB ty a M]) ⟨hx, hb, hml, hown, hts⟩ w (c_X2_neighbourSet l D ty a S n (hI).1 (hI).2.1 i (by omega)) ⟨va_cnB 1 hts gX8_neighbours_X2_neighbourSet_n209 rfl rfl rfl (w.2.2.2.2.2 _ (List.mem_of_getElem? (i := 93) rfl)) (hts _ (List.mem_of_getElem? (i := 5) rfl)) hdN_X2_neighbourSet ⟨Nat.le_of_ble_eq_true rfl, Nat.le_of_ble_eq_true rfl⟩, (hts _ (List.mem_of_getElem? (i := 9) rfl)), (hts _ (List.mem_of_getElem? (i := 10) rfl))⟩ [2, 0, 1, 3, 4, 5] (nB := 6) (by decide) rfl rfl rfl rfl 2 rfl rfl (ci := 6) rfl rfl rfl hl.1 rfl (Nat.le_of_ble_eq_true rfl) dX8_neighbours_32 ⟨(Nat.zero_le _), (Nat.zero_le _)⟩ (fun H locs w => ?_)
    exact e_i hx hb hr hlocks w rfl dX8_neighbours_35 (Nat.le_refl _) (Nat.le_refl _)
  · have c11 := bI_0.mp c11
    exact absurd c11 (by rw [pHas_n hi (by omega)]; decide)

theorem in_X8_quarrels_X2 : ∀ w ∈ wsX20, w ∈ wsX8_quarrels := by decide +kernel
theorem in_X8_quarrels_X6 : ∀ w ∈ wsX60, w ∈ wsX8_quarrels := by decide +kernel
theorem in_X8_quarrels_X8 : ∀ w ∈ wsX80, w ∈ wsX8_quarrels := by decide +kernel
theorem hdN_X8_quarrels : yX8_quarrels.cls ≠ "java/lang/invoke/MethodHandle" ∧ yX8_quarrels.cls ≠ "java/lang/invoke/VarHandle" ∧ (parseMethodDescriptor yX8_quarrels.desc).map (fun d => d.parameters.length) = some 2 := by decide +kernel
set_option maxRecDepth 100000 in
set_option maxHeartbeats 4000000 in
theorem c_X8_quarrels (l : Launch) (D : va_G) (ty : Nat → ClassId) (o : Nat) (a b sn h t : Nat → Nat) (r sb : Nat) (hs lf : Int32) (S M : pS) (n q : Nat) (hA : IA S n q) (i j : Nat) (hi : i < n) (hj : j < n)  : Mi l yX8_quarrels wsX8_quarrels (kR 1 21 0 0) D (kTY ty) [.ref o, .int (nI i), .int (nI j)] [ppB o (a 0) (b 0) (sn 0) (h 0) r (t 0) sb hs lf, stB a S, lnB ty a S, quB ty a S, weB a S, miB ty a M] [ppB o (a 0) (b 0) (sn 0) (h 0) r (t 0) sb hs lf, stB a S, lnB ty a S, quB ty a S, weB a S, miB ty a M] (S (58 + 8 * i + j)) 0 0 := by
  refine m_i (cc := cX8_quarrels) (maxL := 3) (ret := (some .int)) (by decide +kernel) rfl (Nat.le_of_ble_eq_true rfl) ?_
  intro p e s m below meth c A ls hx hb hml hr hlocks hown hts w hl
  have hown : s.vm.findClass RX8 = some m.cls := hown
  have hl : lv_has ls 3 [(0, .ref o), (1, .int (nI i)), (2, .int (nI j))] := hl
  have hI := hA.1
  obtain ⟨h0, hn, h1, hq, he, hd, hdr, hwr⟩ := id hI
  refine lv_aload_n hx hb dX8_quarrels_0 rfl (lv_at hl 0 rfl) ?_
  refine r_get (v' := .ref (a 0)) hx hb hts in_X8_quarrels_X8 hown w 0 0 rfl rfl (ci := 12) rfl 0 (by decide) (hts _ (List.mem_of_getElem? (i := 3) rfl)) rfl rfl rfl dX8_quarrels_1 ?_
  refine r_getN (v' := .ref (a 1)) hx hb hts in_X8_quarrels_X6 hown w 1 0 rfl rfl (ci := 10) rfl 0 (by decide) (w.2.2.2.2.2 _ (List.mem_of_getElem? (i := 33) rfl)) rfl rfl rfl dX8_quarrels_4 ?_
  refine lv_iload_n hx hb dX8_quarrels_7 rfl (lv_at hl 1 rfl) ?_
  refine k_iVN (As := [.int (nI i)]) (rest := []) (Rs := [ppB o (a 0) (b 0) (sn 0) (h 0) r (t 0) sb hs lf, stB a S, quB ty a S, weB a S, miB ty a M]) (Bs' := [ppB o (a 0) (b 0) (sn 0) (h 0) r (t 0) sb hs lf, stB a S, lnB ty a S, quB ty a S, weB a S, miB ty a M]) ⟨hx, hb, hml, hown, hts⟩ w (c_X2_has l D ty a S n (hI).1 (hI).2.1 (nI i)) ⟨va_cnB 1 hts gX8_quarrels_X2_has_n153 rfl rfl rfl (w.2.2.2.2.2 _ (List.mem_of_getElem? (i := 86) rfl)) (hts _ (List.mem_of_getElem? (i := 5) rfl)) hdN_X2_has ⟨Nat.le_of_ble_eq_true rfl, Nat.le_of_ble_eq_true rfl⟩, (hts _ (List.mem_of_getElem? (i := 4) rfl)), (hts _ (List.mem_of_getElem? (i := 6) rfl))⟩ [2, 0, 1, 3, 4, 5] (nB := 6) (by decide) rfl rfl rfl rfl 2 rfl rfl (ci := 6) rfl rfl rfl hl.1 rfl (Nat.le_of_ble_eq_true rfl) dX8_quarrels_8 ⟨(Nat.zero_le _), (Nat.zero_le _)⟩ (fun H locs w => ?_)
  refine lv_if_eq (tgt := 28) hx hb dX8_quarrels_11 (by decide) (fun c11 => ?_) (fun c11 => ?_)
  · have c11 := bI_0.mp c11
    exact absurd c11 (by rw [pHas_n hi (by omega)]; decide)
  · have c11 := bI_1.mp c11
    refine lv_aload_n hx hb dX8_quarrels_14 rfl (lv_at hl 0 rfl) ?_
    refine r_get (v' := .ref (a 0)) hx hb hts in_X8_quarrels_X8 hown w 0 0 rfl rfl (ci := 12) rfl 0 (by decide) (hts _ (List.mem_of_getElem? (i := 3) rfl)) rfl rfl rfl dX8_quarrels_15 ?_
    refine r_getN (v' := .ref (a 1)) hx hb hts in_X8_quarrels_X6 hown w 1 0 rfl rfl (ci := 10) rfl 0 (by decide) (w.2.2.2.2.2 _ (List.mem_of_getElem? (i := 33) rfl)) rfl rfl rfl dX8_quarrels_18 ?_
    refine lv_iload_n hx hb dX8_quarrels_21 rfl (lv_at hl 2 rfl) ?_
    refine k_iVN (As := [.int (nI j)]) (rest := []) (Rs := [ppB o (a 0) (b 0) (sn 0) (h 0) r (t 0) sb hs lf, stB a S, quB ty a S, weB a S, miB ty a M]) (Bs' := [ppB o (a 0) (b 0) (sn 0) (h 0) r (t 0) sb hs lf, stB a S, lnB ty a S, quB ty a S, weB a S, miB ty a M]) ⟨hx, hb, hml, hown, hts⟩ w (c_X2_has l D ty a S n (hI).1 (hI).2.1 (nI j)) ⟨va_cnB 1 hts gX8_quarrels_X2_has_n153 rfl rfl rfl (w.2.2.2.2.2 _ (List.mem_of_getElem? (i := 86) rfl)) (hts _ (List.mem_of_getElem? (i := 5) rfl)) hdN_X2_has ⟨Nat.le_of_ble_eq_true rfl, Nat.le_of_ble_eq_true rfl⟩, (hts _ (List.mem_of_getElem? (i := 4) rfl)), (hts _ (List.mem_of_getElem? (i := 6) rfl))⟩ [2, 0, 1, 3, 4, 5] (nB := 6) (by decide) rfl rfl rfl rfl 2 rfl rfl (ci := 6) rfl rfl rfl hl.1 rfl (Nat.le_of_ble_eq_true rfl) dX8_quarrels_22 ⟨(Nat.zero_le _), (Nat.zero_le _)⟩ (fun H locs w => ?_)
    refine lv_if_ne (tgt := 38) hx hb dX8_quarrels_25 (by decide) (fun c25 => ?_) (fun c25 => ?_)
    · have c25 := bI_1.mp c25
      refine lv_aload_n hx hb dX8_quarrels_38 rfl (lv_at hl 0 rfl) ?_
      refine r_get (v' := .ref (a 0)) hx hb hts in_X8_quarrels_X8 hown w 0 0 rfl rfl (ci := 12) rfl 0 (by decide) (hts _ (List.mem_of_getElem? (i := 3) rfl)) rfl rfl rfl dX8_quarrels_39 ?_
      refine r_getN (v' := .ref (a 1)) hx hb hts in_X8_quarrels_X6 hown w 1 0 rfl rfl (ci := 10) rfl 0 (by decide) (w.2.2.2.2.2 _ (List.mem_of_getElem? (i := 33) rfl)) rfl rfl rfl dX8_quarrels_42 ?_
      refine r_getN (v' := .ref (a 8)) hx hb hts in_X8_quarrels_X2 hown w 2 0 rfl rfl (ci := 6) rfl 8 (by decide) (w.2.2.2.2.2 _ (List.mem_of_getElem? (i := 14) rfl)) rfl rfl rfl dX8_quarrels_45 ?_
      refine lv_iload_n hx hb dX8_quarrels_48 rfl (lv_at hl 1 rfl) ?_
      refine r_aald (y := (a (9 + i))) hx hb w 2 7 rfl (ty := .array .int) rfl rfl 3 rfl i (by omega) (Nat.le_of_ble_eq_true rfl) rfl (if_pos (by omega)) dX8_quarrels_49 ?_
      refine lv_iload_n hx hb dX8_quarrels_50 rfl (lv_at hl 2 rfl) ?_
      refine r_iald (v := (S (58 + 8 * i + j))) hx hb w 2 (8 + i) rfl (lnB_row (by omega)) 0 rfl j (by omega) (Nat.le_of_ble_eq_true rfl) rfl (wnA_at (by omega)) dX8_quarrels_51 ?_
      exact e_i hx hb hr hlocks w rfl dX8_quarrels_52 (Nat.le_refl _) (Nat.le_refl _)
    · have c25 := bI_0.mp c25
      exact absurd c25 (by rw [pHas_n hj (by omega)]; decide)

theorem in_X8_turnsBy_X6 : ∀ w ∈ wsX60, w ∈ wsX8_turnsBy := by decide +kernel
theorem in_X8_turnsBy_X8 : ∀ w ∈ wsX80, w ∈ wsX8_turnsBy := by decide +kernel
theorem hdN_X8_turnsBy : yX8_turnsBy.cls ≠ "java/lang/invoke/MethodHandle" ∧ yX8_turnsBy.cls ≠ "java/lang/invoke/VarHandle" ∧ (parseMethodDescriptor yX8_turnsBy.desc).map (fun d => d.parameters.length) = some 2 := by decide +kernel
set_option maxRecDepth 100000 in
set_option maxHeartbeats 4000000 in
theorem c_X8_turnsBy (l : Launch) (D : va_G) (ty : Nat → ClassId) (o : Nat) (a b sn h t : Nat → Nat) (r sb : Nat) (hs lf : Int32) (S M : pS) (n q : Nat) (hA : IA S n q) (i k : Nat) (hi : i < n) (hk : k < 4)  : Mi l yX8_turnsBy wsX8_turnsBy (kR 1 22 0 0) D (kTY ty) [.ref o, .int (nI i), .int (nI k)] [ppB o (a 0) (b 0) (sn 0) (h 0) r (t 0) sb hs lf, stB a S, lnB ty a S, quB ty a S, weB a S, miB ty a M] [ppB o (a 0) (b 0) (sn 0) (h 0) r (t 0) sb hs lf, stB a S, lnB ty a S, quB ty a S, weB a S, miB ty a M] (pTbl S i (nI k)) 0 0 := by
  refine m_i (cc := cX8_turnsBy) (maxL := 3) (ret := (some .int)) (by decide +kernel) rfl (Nat.le_of_ble_eq_true rfl) ?_
  intro p e s m below meth c A ls hx hb hml hr hlocks hown hts w hl
  have hown : s.vm.findClass RX8 = some m.cls := hown
  have hl : lv_has ls 3 [(0, .ref o), (1, .int (nI i)), (2, .int (nI k))] := hl
  have hI := hA.1
  obtain ⟨h0, hn, h1, hq, he, hd, hdr, hwr⟩ := id hI
  refine lv_aload_n hx hb dX8_turnsBy_0 rfl (lv_at hl 0 rfl) ?_
  refine r_get (v' := .ref (a 0)) hx hb hts in_X8_turnsBy_X8 hown w 0 0 rfl rfl (ci := 12) rfl 0 (by decide) (hts _ (List.mem_of_getElem? (i := 5) rfl)) rfl rfl rfl dX8_turnsBy_1 ?_
  refine r_getN (v' := .ref (a 1)) hx hb hts in_X8_turnsBy_X6 hown w 1 0 rfl rfl (ci := 10) rfl 0 (by decide) (w.2.2.2.2.2 _ (List.mem_of_getElem? (i := 33) rfl)) rfl rfl rfl dX8_turnsBy_4 ?_
  refine lv_iload_n hx hb dX8_turnsBy_7 rfl (lv_at hl 1 rfl) ?_
  refine k_iVN (As := [.int (nI i)]) (rest := []) (Rs := [ppB o (a 0) (b 0) (sn 0) (h 0) r (t 0) sb hs lf, stB a S, quB ty a S, weB a S, miB ty a M]) (Bs' := [ppB o (a 0) (b 0) (sn 0) (h 0) r (t 0) sb hs lf, stB a S, lnB ty a S, quB ty a S, weB a S, miB ty a M]) ⟨hx, hb, hml, hown, hts⟩ w (c_X2_has l D ty a S n (hI).1 (hI).2.1 (nI i)) ⟨va_cnB 1 hts gX8_turnsBy_X2_has_n153 rfl rfl rfl (w.2.2.2.2.2 _ (List.mem_of_getElem? (i := 86) rfl)) (hts _ (List.mem_of_getElem? (i := 7) rfl)) hdN_X2_has ⟨Nat.le_of_ble_eq_true rfl, Nat.le_of_ble_eq_true rfl⟩, (hts _ (List.mem_of_getElem? (i := 6) rfl)), (hts _ (List.mem_of_getElem? (i := 8) rfl))⟩ [2, 0, 1, 3, 4, 5] (nB := 6) (by decide) rfl rfl rfl rfl 2 rfl rfl (ci := 6) rfl rfl rfl hl.1 rfl (Nat.le_of_ble_eq_true rfl) dX8_turnsBy_8 ⟨(Nat.zero_le _), (Nat.zero_le _)⟩ (fun H locs w => ?_)
  refine lv_if_ne (tgt := 24) hx hb dX8_turnsBy_11 (by decide) (fun c11 => ?_) (fun c11 => ?_)
  · have c11 := bI_1.mp c11
    refine lv_iload_n hx hb dX8_turnsBy_24 rfl (lv_at hl 2 rfl) ?_
    refine lv_iconst (v := 0) hx hb dX8_turnsBy_25 (by decide) ?_
    refine lv_iconst (v := 3) hx hb dX8_turnsBy_26 (by decide) ?_
    refine k_iS (As := [.int (nI k), .int 0, .int 3]) (rest := []) (Rs := [ppB o (a 0) (b 0) (sn 0) (h 0) r (t 0) sb hs lf, stB a S, lnB ty a S, quB ty a S, weB a S, miB ty a M]) (Bs' := [ppB o (a 0) (b 0) (sn 0) (h 0) r (t 0) sb hs lf, stB a S, lnB ty a S, quB ty a S, weB a S, miB ty a M]) ⟨hx, hb, hml, hown, hts⟩ w (c_X8_isWithin l D ty (nI k) 0 3) (va_cwS 3 hts gX8_turnsBy_X8_isWithin rfl rfl rfl hdN_X8_isWithin ⟨Nat.le_of_ble_eq_true rfl, Nat.le_of_ble_eq_true rfl⟩) [0, 1, 2, 3, 4, 5] (nB := 6) (by decide) rfl rfl rfl rfl rfl hl.1 rfl (Nat.le_of_ble_eq_true rfl) dX8_turnsBy_27 ⟨(Nat.zero_le _), (Nat.zero_le _)⟩ (fun H locs w => ?_)
    refine lv_if_ne (tgt := 43) hx hb dX8_turnsBy_30 (by decide) (fun c30 => ?_) (fun c30 => ?_)
    · have c30 := bI_1.mp c30
      refine lv_aload_n hx hb dX8_turnsBy_43 rfl (lv_at hl 0 rfl) ?_
      refine r_get (v' := .ref (a 0)) hx hb hts in_X8_turnsBy_X8 hown w 0 0 rfl rfl (ci := 12) rfl 0 (by decide) (hts _ (List.mem_of_getElem? (i := 5) rfl)) rfl rfl rfl dX8_turnsBy_44 ?_
      refine r_getN (v' := .ref (a 1)) hx hb hts in_X8_turnsBy_X6 hown w 1 0 rfl rfl (ci := 10) rfl 0 (by decide) (w.2.2.2.2.2 _ (List.mem_of_getElem? (i := 33) rfl)) rfl rfl rfl dX8_turnsBy_47 ?_
      refine lv_iload_n hx hb dX8_turnsBy_50 rfl (lv_at hl 1 rfl) ?_
      refine lv_iload_n hx hb dX8_turnsBy_51 rfl (lv_at hl 2 rfl) ?_
      refine k_iVN (As := [.int (nI i), .int (nI k)]) (rest := []) (Rs := [ppB o (a 0) (b 0) (sn 0) (h 0) r (t 0) sb hs lf, stB a S, quB ty a S, weB a S, miB ty a M]) (Bs' := [ppB o (a 0) (b 0) (sn 0) (h 0) r (t 0) sb hs lf, stB a S, lnB ty a S, quB ty a S, weB a S, miB ty a M]) ⟨hx, hb, hml, hown, hts⟩ w (c_X2_lawfulTurns l D ty a S i (by omega) (nI k)) ⟨va_cnB 2 hts gX8_turnsBy_X2_lawfulTurns_n228 rfl rfl rfl (w.2.2.2.2.2 _ (List.mem_of_getElem? (i := 87) rfl)) (hts _ (List.mem_of_getElem? (i := 7) rfl)) hdN_X2_lawfulTurns ⟨Nat.le_of_ble_eq_true rfl, Nat.le_of_ble_eq_true rfl⟩, (hts _ (List.mem_of_getElem? (i := 15) rfl)), (hts _ (List.mem_of_getElem? (i := 16) rfl))⟩ [2, 0, 1, 3, 4, 5] (nB := 6) (by decide) rfl rfl rfl rfl 2 rfl rfl (ci := 6) rfl rfl rfl hl.1 rfl (Nat.le_of_ble_eq_true rfl) dX8_turnsBy_52 ⟨(Nat.zero_le _), (Nat.zero_le _)⟩ (fun H locs w => ?_)
      exact e_i hx hb hr hlocks w rfl dX8_turnsBy_55 (Nat.le_refl _) (Nat.le_refl _)
    · have c30 := bI_0.mp c30
      exact absurd c30 (by rw [pIn_n3 hk]; decide)
  · have c11 := bI_0.mp c11
    exact absurd c11 (by rw [pHas_n hi (by omega)]; decide)

theorem in_X8_isFor_X6 : ∀ w ∈ wsX60, w ∈ wsX8_isFor := by decide +kernel
theorem in_X8_isFor_X8 : ∀ w ∈ wsX80, w ∈ wsX8_isFor := by decide +kernel
theorem hdN_X8_isFor : yX8_isFor.cls ≠ "java/lang/invoke/MethodHandle" ∧ yX8_isFor.cls ≠ "java/lang/invoke/VarHandle" ∧ (parseMethodDescriptor yX8_isFor.desc).map (fun d => d.parameters.length) = some 1 := by decide +kernel
set_option maxRecDepth 100000 in
set_option maxHeartbeats 4000000 in
theorem c_X8_isFor (l : Launch) (D : va_G) (ty : Nat → ClassId) (o : Nat) (a b sn h t : Nat → Nat) (r sb : Nat) (hs lf : Int32) (S M : pS) (n q : Nat) (hA : IA S n q) (i : Nat) (hi : i < n)  : Mi l yX8_isFor wsX8_isFor (kR 2 45 0 0) D (kTY ty) [.ref o, .int (nI i)] [ppB o (a 0) (b 0) (sn 0) (h 0) r (t 0) sb hs lf, stB a S, lnB ty a S, quB ty a S, weB a S, miB ty a M] [ppB o (a 0) (b 0) (sn 0) (h 0) r (t 0) sb hs lf, stB a S, lnB ty a S, quB ty a S, weB a S, miB ty a M] (nI (pWant S i 3)) 0 0 := by
  refine m_i (cc := cX8_isFor) (maxL := 2) (ret := (some .int)) (by decide +kernel) rfl (Nat.le_of_ble_eq_true rfl) ?_
  intro p e s m below meth c A ls hx hb hml hr hlocks hown hts w hl
  have hown : s.vm.findClass RX8 = some m.cls := hown
  have hl : lv_has ls 2 [(0, .ref o), (1, .int (nI i))] := hl
  have hI := hA.1
  obtain ⟨h0, hn, h1, hq, he, hd, hdr, hwr⟩ := id hI
  refine lv_aload_n hx hb dX8_isFor_0 rfl (lv_at hl 0 rfl) ?_
  refine r_get (v' := .ref (a 0)) hx hb hts in_X8_isFor_X8 hown w 0 0 rfl rfl (ci := 12) rfl 0 (by decide) (hts _ (List.mem_of_getElem? (i := 3) rfl)) rfl rfl rfl dX8_isFor_1 ?_
  refine r_getN (v' := .ref (a 1)) hx hb hts in_X8_isFor_X6 hown w 1 0 rfl rfl (ci := 10) rfl 0 (by decide) (w.2.2.2.2.2 _ (List.mem_of_getElem? (i := 33) rfl)) rfl rfl rfl dX8_isFor_4 ?_
  refine lv_iload_n hx hb dX8_isFor_7 rfl (lv_at hl 1 rfl) ?_
  refine k_iVN (As := [.int (nI i)]) (rest := []) (Rs := [ppB o (a 0) (b 0) (sn 0) (h 0) r (t 0) sb hs lf, stB a S, quB ty a S, weB a S, miB ty a M]) (Bs' := [ppB o (a 0) (b 0) (sn 0) (h 0) r (t 0) sb hs lf, stB a S, lnB ty a S, quB ty a S, weB a S, miB ty a M]) ⟨hx, hb, hml, hown, hts⟩ w (c_X2_has l D ty a S n (hI).1 (hI).2.1 (nI i)) ⟨va_cnB 1 hts gX8_isFor_X2_has_n153 rfl rfl rfl (w.2.2.2.2.2 _ (List.mem_of_getElem? (i := 86) rfl)) (hts _ (List.mem_of_getElem? (i := 5) rfl)) hdN_X2_has ⟨Nat.le_of_ble_eq_true rfl, Nat.le_of_ble_eq_true rfl⟩, (hts _ (List.mem_of_getElem? (i := 4) rfl)), (hts _ (List.mem_of_getElem? (i := 6) rfl))⟩ [2, 0, 1, 3, 4, 5] (nB := 6) (by decide) rfl rfl rfl rfl 2 rfl rfl (ci := 6) rfl rfl rfl hl.1 rfl (Nat.le_of_ble_eq_true rfl) dX8_isFor_8 ⟨(Nat.zero_le _), (Nat.zero_le _)⟩ (fun H locs w => ?_)
  refine lv_if_ne (tgt := 24) hx hb dX8_isFor_11 (by decide) (fun c11 => ?_) (fun c11 => ?_)
  · have c11 := bI_1.mp c11
    refine lv_aload_n hx hb dX8_isFor_24 rfl (lv_at hl 0 rfl) ?_
    refine r_get (v' := .ref (a 0)) hx hb hts in_X8_isFor_X8 hown w 0 0 rfl rfl (ci := 12) rfl 0 (by decide) (hts _ (List.mem_of_getElem? (i := 3) rfl)) rfl rfl rfl dX8_isFor_25 ?_
    refine r_getN (v' := .ref (a 1)) hx hb hts in_X8_isFor_X6 hown w 1 0 rfl rfl (ci := 10) rfl 0 (by decide) (w.2.2.2.2.2 _ (List.mem_of_getElem? (i := 33) rfl)) rfl rfl rfl dX8_isFor_28 ?_
    refine lv_iload_n hx hb dX8_isFor_31 rfl (lv_at hl 1 rfl) ?_
    refine k_iVN (As := [.int (nI i)]) (rest := []) (Rs := [ppB o (a 0) (b 0) (sn 0) (h 0) r (t 0) sb hs lf, stB a S, quB ty a S, weB a S, miB ty a M]) (Bs' := [ppB o (a 0) (b 0) (sn 0) (h 0) r (t 0) sb hs lf, stB a S, lnB ty a S, quB ty a S, weB a S, miB ty a M]) ⟨hx, hb, hml, hown, hts⟩ w (c_X2_favouriteLaw l D ty a S i (by omega)) ⟨va_cnB 1 hts gX8_isFor_X2_favouriteLaw_n231 rfl rfl rfl (w.2.2.2.2.2 _ (List.mem_of_getElem? (i := 91) rfl)) (hts _ (List.mem_of_getElem? (i := 5) rfl)) hdN_X2_favouriteLaw ⟨Nat.le_of_ble_eq_true rfl, Nat.le_of_ble_eq_true rfl⟩, (hts _ (List.mem_of_getElem? (i := 9) rfl)), (hts _ (List.mem_of_getElem? (i := 10) rfl))⟩ [2, 0, 1, 3, 4, 5] (nB := 6) (by decide) rfl rfl rfl rfl 2 rfl rfl (ci := 6) rfl rfl rfl hl.1 rfl (Nat.le_of_ble_eq_true rfl) dX8_isFor_32 ⟨(Nat.zero_le _), (Nat.zero_le _)⟩ (fun H locs w => ?_)
    exact e_i hx hb hr hlocks w rfl dX8_isFor_35 (Nat.le_refl _) (Nat.le_refl _)
  · have c11 := bI_0.mp c11
    exact absurd c11 (by rw [pHas_n hi (by omega)]; decide)

theorem in_X8_membersFor_X6 : ∀ w ∈ wsX60, w ∈ wsX8_membersFor := by decide +kernel
theorem in_X8_membersFor_X8 : ∀ w ∈ wsX80, w ∈ wsX8_membersFor := by decide +kernel
theorem hdN_X8_membersFor : yX8_membersFor.cls ≠ "java/lang/invoke/MethodHandle" ∧ yX8_membersFor.cls ≠ "java/lang/invoke/VarHandle" ∧ (parseMethodDescriptor yX8_membersFor.desc).map (fun d => d.parameters.length) = some 1 := by decide +kernel
set_option maxRecDepth 100000 in
set_option maxHeartbeats 4000000 in
theorem c_X8_membersFor (l : Launch) (D : va_G) (ty : Nat → ClassId) (o : Nat) (a b sn h t : Nat → Nat) (r sb : Nat) (hs lf : Int32) (S M : pS) (n q : Nat) (hA : IA S n q) (k : Nat) (hk : k < 4)  : Mi l yX8_membersFor wsX8_membersFor (kR 3 68 0 0) D (kTY ty) [.ref o, .int (nI k)] [ppB o (a 0) (b 0) (sn 0) (h 0) r (t 0) sb hs lf, stB a S, lnB ty a S, quB ty a S, weB a S, miB ty a M] [ppB o (a 0) (b 0) (sn 0) (h 0) r (t 0) sb hs lf, stB a S, lnB ty a S, quB ty a S, weB a S, miB ty a M] (pMem S (nI k) n) 0 0 := by
  refine m_i (cc := cX8_membersFor) (maxL := 2) (ret := (some .int)) (by decide +kernel) rfl (Nat.le_of_ble_eq_true rfl) ?_
  intro p e s m below meth c A ls hx hb hml hr hlocks hown hts w hl
  have hown : s.vm.findClass RX8 = some m.cls := hown
  have hl : lv_has ls 2 [(0, .ref o), (1, .int (nI k))] := hl
  have hI := hA.1
  obtain ⟨h0, hn, h1, hq, he, hd, hdr, hwr⟩ := id hI
  refine lv_iload_n hx hb dX8_membersFor_0 rfl (lv_at hl 1 rfl) ?_
  refine lv_iconst (v := 0) hx hb dX8_membersFor_1 (by decide) ?_
  refine lv_iconst (v := 3) hx hb dX8_membersFor_2 (by decide) ?_
  refine k_iS (As := [.int (nI k), .int 0, .int 3]) (rest := []) (Rs := [ppB o (a 0) (b 0) (sn 0) (h 0) r (t 0) sb hs lf, stB a S, lnB ty a S, quB ty a S, weB a S, miB ty a M]) (Bs' := [ppB o (a 0) (b 0) (sn 0) (h 0) r (t 0) sb hs lf, stB a S, lnB ty a S, quB ty a S, weB a S, miB ty a M]) ⟨hx, hb, hml, hown, hts⟩ w (c_X8_isWithin l D ty (nI k) 0 3) (va_cwS 3 hts gX8_membersFor_X8_isWithin rfl rfl rfl hdN_X8_isWithin ⟨Nat.le_of_ble_eq_true rfl, Nat.le_of_ble_eq_true rfl⟩) [0, 1, 2, 3, 4, 5] (nB := 6) (by decide) rfl rfl rfl rfl rfl hl.1 rfl (Nat.le_of_ble_eq_true rfl) dX8_membersFor_3 ⟨(Nat.zero_le _), (Nat.zero_le _)⟩ (fun H locs w => ?_)
  refine lv_if_ne (tgt := 19) hx hb dX8_membersFor_6 (by decide) (fun c6 => ?_) (fun c6 => ?_)
  · have c6 := bI_1.mp c6
    refine lv_aload_n hx hb dX8_membersFor_19 rfl (lv_at hl 0 rfl) ?_
    refine r_get (v' := .ref (a 0)) hx hb hts in_X8_membersFor_X8 hown w 0 0 rfl rfl (ci := 12) rfl 0 (by decide) (hts _ (List.mem_of_getElem? (i := 3) rfl)) rfl rfl rfl dX8_membersFor_20 ?_
    refine r_getN (v' := .ref (a 1)) hx hb hts in_X8_membersFor_X6 hown w 1 0 rfl rfl (ci := 10) rfl 0 (by decide) (w.2.2.2.2.2 _ (List.mem_of_getElem? (i := 33) rfl)) rfl rfl rfl dX8_membersFor_23 ?_
    refine lv_iload_n hx hb dX8_membersFor_26 rfl (lv_at hl 1 rfl) ?_
    refine k_iVN (As := [.int (nI k)]) (rest := []) (Rs := [ppB o (a 0) (b 0) (sn 0) (h 0) r (t 0) sb hs lf, stB a S, quB ty a S, weB a S, miB ty a M]) (Bs' := [ppB o (a 0) (b 0) (sn 0) (h 0) r (t 0) sb hs lf, stB a S, lnB ty a S, quB ty a S, weB a S, miB ty a M]) ⟨hx, hb, hml, hown, hts⟩ w (c_X2_membersBehind l D ty a S n (hI).1 (hI).2.1 (nI k)) ⟨va_cnB 1 hts gX8_membersFor_X2_membersBehind_n234 rfl rfl rfl (w.2.2.2.2.2 _ (List.mem_of_getElem? (i := 95) rfl)) (hts _ (List.mem_of_getElem? (i := 9) rfl)) hdN_X2_membersBehind ⟨Nat.le_of_ble_eq_true rfl, Nat.le_of_ble_eq_true rfl⟩, (hts _ (List.mem_of_getElem? (i := 8) rfl)), (hts _ (List.mem_of_getElem? (i := 10) rfl))⟩ [2, 0, 1, 3, 4, 5] (nB := 6) (by decide) rfl rfl rfl rfl 2 rfl rfl (ci := 6) rfl rfl rfl hl.1 rfl (Nat.le_of_ble_eq_true rfl) dX8_membersFor_27 ⟨(Nat.zero_le _), (Nat.zero_le _)⟩ (fun H locs w => ?_)
    exact e_i hx hb hr hlocks w rfl dX8_membersFor_30 (Nat.le_refl _) (Nat.le_refl _)
  · have c6 := bI_0.mp c6
    exact absurd c6 (by rw [pIn_n3 hk]; decide)

theorem in_X8_turnIn_X6 : ∀ w ∈ wsX60, w ∈ wsX8_turnIn := by decide +kernel
theorem in_X8_turnIn_X8 : ∀ w ∈ wsX80, w ∈ wsX8_turnIn := by decide +kernel
theorem hdN_X8_turnIn : yX8_turnIn.cls ≠ "java/lang/invoke/MethodHandle" ∧ yX8_turnIn.cls ≠ "java/lang/invoke/VarHandle" ∧ (parseMethodDescriptor yX8_turnIn.desc).map (fun d => d.parameters.length) = some 1 := by decide +kernel
set_option maxRecDepth 100000 in
set_option maxHeartbeats 4000000 in
theorem c_X8_turnIn (l : Launch) (D : va_G) (ty : Nat → ClassId) (o : Nat) (a b sn h t : Nat → Nat) (r sb : Nat) (hs lf : Int32) (S M : pS) (n q : Nat) (hA : IA S n q) (i : Nat) (hi : i < n) (hp : ¬ pPl S (nI i) q = -1)  : Mi l yX8_turnIn wsX8_turnIn (kR 1 22 0 0) D (kTY ty) [.ref o, .int (nI i)] [ppB o (a 0) (b 0) (sn 0) (h 0) r (t 0) sb hs lf, stB a S, lnB ty a S, quB ty a S, weB a S, miB ty a M] [ppB o (a 0) (b 0) (sn 0) (h 0) r (t 0) sb hs lf, stB a S, lnB ty a S, quB ty a S, weB a S, miB ty a M] (pPl S (nI i) q + 1) 0 0 := by
  refine m_i (cc := cX8_turnIn) (maxL := 3) (ret := (some .int)) (by decide +kernel) rfl (Nat.le_of_ble_eq_true rfl) ?_
  intro p e s m below meth c A ls hx hb hml hr hlocks hown hts w hl
  have hown : s.vm.findClass RX8 = some m.cls := hown
  have hl : lv_has ls 3 [(0, .ref o), (1, .int (nI i))] := hl
  have hI := hA.1
  obtain ⟨h0, hn, h1, hq, he, hd, hdr, hwr⟩ := id hI
  refine lv_aload_n hx hb dX8_turnIn_0 rfl (lv_at hl 0 rfl) ?_
  refine r_get (v' := .ref (a 0)) hx hb hts in_X8_turnIn_X8 hown w 0 0 rfl rfl (ci := 12) rfl 0 (by decide) (hts _ (List.mem_of_getElem? (i := 5) rfl)) rfl rfl rfl dX8_turnIn_1 ?_
  refine r_getN (v' := .ref (a 1)) hx hb hts in_X8_turnIn_X6 hown w 1 0 rfl rfl (ci := 10) rfl 0 (by decide) (w.2.2.2.2.2 _ (List.mem_of_getElem? (i := 33) rfl)) rfl rfl rfl dX8_turnIn_4 ?_
  refine lv_iload_n hx hb dX8_turnIn_7 rfl (lv_at hl 1 rfl) ?_
  refine k_iVN (As := [.int (nI i)]) (rest := []) (Rs := [ppB o (a 0) (b 0) (sn 0) (h 0) r (t 0) sb hs lf, stB a S, quB ty a S, weB a S, miB ty a M]) (Bs' := [ppB o (a 0) (b 0) (sn 0) (h 0) r (t 0) sb hs lf, stB a S, lnB ty a S, quB ty a S, weB a S, miB ty a M]) ⟨hx, hb, hml, hown, hts⟩ w (c_X2_has l D ty a S n (hI).1 (hI).2.1 (nI i)) ⟨va_cnB 1 hts gX8_turnIn_X2_has_n153 rfl rfl rfl (w.2.2.2.2.2 _ (List.mem_of_getElem? (i := 86) rfl)) (hts _ (List.mem_of_getElem? (i := 7) rfl)) hdN_X2_has ⟨Nat.le_of_ble_eq_true rfl, Nat.le_of_ble_eq_true rfl⟩, (hts _ (List.mem_of_getElem? (i := 6) rfl)), (hts _ (List.mem_of_getElem? (i := 8) rfl))⟩ [2, 0, 1, 3, 4, 5] (nB := 6) (by decide) rfl rfl rfl rfl 2 rfl rfl (ci := 6) rfl rfl rfl hl.1 rfl (Nat.le_of_ble_eq_true rfl) dX8_turnIn_8 ⟨(Nat.zero_le _), (Nat.zero_le _)⟩ (fun H locs w => ?_)
  refine lv_if_ne (tgt := 24) hx hb dX8_turnIn_11 (by decide) (fun c11 => ?_) (fun c11 => ?_)
  · have c11 := bI_1.mp c11
    refine lv_aload_n hx hb dX8_turnIn_24 rfl (lv_at hl 0 rfl) ?_
    refine r_get (v' := .ref (a 0)) hx hb hts in_X8_turnIn_X8 hown w 0 0 rfl rfl (ci := 12) rfl 0 (by decide) (hts _ (List.mem_of_getElem? (i := 5) rfl)) rfl rfl rfl dX8_turnIn_25 ?_
    refine r_getN (v' := .ref (a 17)) hx hb hts in_X8_turnIn_X6 hown w 1 0 rfl rfl (ci := 10) rfl 1 (by decide) (w.2.2.2.2.2 _ (List.mem_of_getElem? (i := 34) rfl)) rfl rfl rfl dX8_turnIn_28 ?_
    refine lv_iload_n hx hb dX8_turnIn_31 rfl (lv_at hl 1 rfl) ?_
    refine k_iVN (As := [.int (nI i)]) (rest := []) (Rs := [ppB o (a 0) (b 0) (sn 0) (h 0) r (t 0) sb hs lf, stB a S, lnB ty a S, weB a S, miB ty a M]) (Bs' := [ppB o (a 0) (b 0) (sn 0) (h 0) r (t 0) sb hs lf, stB a S, lnB ty a S, quB ty a S, weB a S, miB ty a M]) ⟨hx, hb, hml, hown, hts⟩ w (c_X4_placeOf l D ty a S q (hI).2.2.1 (hI).2.2.2.1 (hI).2.2.2.2.2.1 (nI i)) ⟨va_cnB 1 hts gX8_turnIn_X4_placeOf_n191 rfl rfl rfl (w.2.2.2.2.2 _ (List.mem_of_getElem? (i := 90) rfl)) (hts _ (List.mem_of_getElem? (i := 12) rfl)) hdN_X4_placeOf ⟨Nat.le_of_ble_eq_true rfl, Nat.le_of_ble_eq_true rfl⟩, (hts _ (List.mem_of_getElem? (i := 11) rfl)), (hts _ (List.mem_of_getElem? (i := 13) rfl))⟩ [3, 0, 1, 2, 4, 5] (nB := 6) (by decide) rfl rfl rfl rfl 3 rfl rfl (ci := 8) rfl rfl rfl hl.1 rfl (Nat.le_of_ble_eq_true rfl) dX8_turnIn_32 ⟨(Nat.zero_le _), (Nat.zero_le _)⟩ (fun H locs w => ?_)
    refine lv_istore_n (lv' := [(2, .int (pPl S (nI i) q)), (0, .ref o), (1, .int (nI i))]) hx hb dX8_turnIn_35 rfl hl (by decide) rfl (fun ls hl => ?_)
    refine lv_iload_n hx hb dX8_turnIn_36 rfl (lv_at hl 0 rfl) ?_
    refine lv_iconst (v := (-1)) hx hb dX8_turnIn_37 (by decide) ?_
    refine lv_icmp_ne (tgt := 51) hx hb dX8_turnIn_38 (by decide) (fun c38 => ?_) (fun c38 => ?_)
    · refine lv_iload_n hx hb dX8_turnIn_51 rfl (lv_at hl 0 rfl) ?_
      refine lv_iconst (v := 1) hx hb dX8_turnIn_52 (by decide) ?_
      refine lv_iadd hx hb dX8_turnIn_53 ?_
      exact e_i hx hb hr hlocks w rfl dX8_turnIn_54 (Nat.le_refl _) (Nat.le_refl _)
    · exact absurd c38 hp
  · have c11 := bI_0.mp c11
    exact absurd c11 (by rw [pHas_n hi (by omega)]; decide)

theorem in_X8_householdOf_X2 : ∀ w ∈ wsX20, w ∈ wsX8_householdOf := by decide +kernel
theorem in_X8_householdOf_X6 : ∀ w ∈ wsX60, w ∈ wsX8_householdOf := by decide +kernel
theorem in_X8_householdOf_X8 : ∀ w ∈ wsX80, w ∈ wsX8_householdOf := by decide +kernel
theorem hdN_X8_householdOf : yX8_householdOf.cls ≠ "java/lang/invoke/MethodHandle" ∧ yX8_householdOf.cls ≠ "java/lang/invoke/VarHandle" ∧ (parseMethodDescriptor yX8_householdOf.desc).map (fun d => d.parameters.length) = some 2 := by decide +kernel
set_option maxRecDepth 100000 in
set_option maxHeartbeats 4000000 in
theorem c_X8_householdOf (l : Launch) (D : va_G) (ty : Nat → ClassId) (o : Nat) (a b sn h t : Nat → Nat) (r sb : Nat) (hs lf : Int32) (S M : pS) (n q : Nat) (hA : IA S n q) (i : Nat) (hi : i < n) (y : Int32) (hy : pIn y 0 8 = true)  : Mi l yX8_householdOf wsX8_householdOf (kR 3 65 0 0) D (kTY ty) [.ref o, .int (nI i), .int y] [ppB o (a 0) (b 0) (sn 0) (h 0) r (t 0) sb hs lf, stB a S, lnB ty a S, quB ty a S, weB a S, miB ty a M] [ppB o (a 0) (b 0) (sn 0) (h 0) r (t 0) sb hs lf, stB a S, lnB ty a S, quB ty a S, weB a S, miB ty a M] (vHo S q (nI i) y) 0 0 := by
  refine m_i (cc := cX8_householdOf) (maxL := 3) (ret := (some .int)) (by decide +kernel) rfl (Nat.le_of_ble_eq_true rfl) ?_
  intro p e s m below meth c A ls hx hb hml hr hlocks hown hts w hl
  have hown : s.vm.findClass RX8 = some m.cls := hown
  have hl : lv_has ls 3 [(0, .ref o), (1, .int (nI i)), (2, .int y)] := hl
  have hI := hA.1
  obtain ⟨h0, hn, h1, hq, he, hd, hdr, hwr⟩ := id hI
  refine lv_aload_n hx hb dX8_householdOf_0 rfl (lv_at hl 0 rfl) ?_
  refine r_get (v' := .ref (a 0)) hx hb hts in_X8_householdOf_X8 hown w 0 0 rfl rfl (ci := 12) rfl 0 (by decide) (hts _ (List.mem_of_getElem? (i := 5) rfl)) rfl rfl rfl dX8_householdOf_1 ?_
  refine r_getN (v' := .ref (a 1)) hx hb hts in_X8_householdOf_X6 hown w 1 0 rfl rfl (ci := 10) rfl 0 (by decide) (w.2.2.2.2.2 _ (List.mem_of_getElem? (i := 33) rfl)) rfl rfl rfl dX8_householdOf_4 ?_
  refine lv_iload_n hx hb dX8_householdOf_7 rfl (lv_at hl 1 rfl) ?_
  refine k_iVN (As := [.int (nI i)]) (rest := []) (Rs := [ppB o (a 0) (b 0) (sn 0) (h 0) r (t 0) sb hs lf, stB a S, quB ty a S, weB a S, miB ty a M]) (Bs' := [ppB o (a 0) (b 0) (sn 0) (h 0) r (t 0) sb hs lf, stB a S, lnB ty a S, quB ty a S, weB a S, miB ty a M]) ⟨hx, hb, hml, hown, hts⟩ w (c_X2_has l D ty a S n (hI).1 (hI).2.1 (nI i)) ⟨va_cnB 1 hts gX8_householdOf_X2_has_n153 rfl rfl rfl (w.2.2.2.2.2 _ (List.mem_of_getElem? (i := 86) rfl)) (hts _ (List.mem_of_getElem? (i := 7) rfl)) hdN_X2_has ⟨Nat.le_of_ble_eq_true rfl, Nat.le_of_ble_eq_true rfl⟩, (hts _ (List.mem_of_getElem? (i := 6) rfl)), (hts _ (List.mem_of_getElem? (i := 8) rfl))⟩ [2, 0, 1, 3, 4, 5] (nB := 6) (by decide) rfl rfl rfl rfl 2 rfl rfl (ci := 6) rfl rfl rfl hl.1 rfl (Nat.le_of_ble_eq_true rfl) dX8_householdOf_8 ⟨(Nat.zero_le _), (Nat.zero_le _)⟩ (fun H locs w => ?_)
  refine lv_if_ne (tgt := 24) hx hb dX8_householdOf_11 (by decide) (fun c11 => ?_) (fun c11 => ?_)
  · have c11 := bI_1.mp c11
    refine lv_iload_n hx hb dX8_householdOf_24 rfl (lv_at hl 2 rfl) ?_
    by_cases e25_0 : y = 0
    · have hvv : vHo S q (nI i) y = vHo S q (nI i) 0 := by rw [e25_0]
      refine r_eq (y := 0) e25_0 ?_
      refine lv_tableIn (tgt := 76) hx hb dX8_householdOf_25 (by decide) (by decide) rfl (by decide) ?_
      refine lv_aload_n hx hb dX8_householdOf_76 rfl (lv_at hl 0 rfl) ?_
      refine r_get (v' := .ref (a 0)) hx hb hts in_X8_householdOf_X8 hown w 0 0 rfl rfl (ci := 12) rfl 0 (by decide) (hts _ (List.mem_of_getElem? (i := 5) rfl)) rfl rfl rfl dX8_householdOf_77 ?_
      refine r_getN (v' := .ref (a 1)) hx hb hts in_X8_householdOf_X6 hown w 1 0 rfl rfl (ci := 10) rfl 0 (by decide) (w.2.2.2.2.2 _ (List.mem_of_getElem? (i := 33) rfl)) rfl rfl rfl dX8_householdOf_80 ?_
      refine r_getN (v' := .ref (a 2)) hx hb hts in_X8_householdOf_X2 hown w 2 0 rfl rfl (ci := 6) rfl 2 (by decide) (w.2.2.2.2.2 _ (List.mem_of_getElem? (i := 5) rfl)) rfl rfl rfl dX8_householdOf_83 ?_
      refine lv_iload_n hx hb dX8_householdOf_86 rfl (lv_at hl 1 rfl) ?_
      refine r_iald (v := (S (1 + 6 * i + 0))) hx hb w 2 1 rfl rfl 0 rfl i (by omega) (Nat.le_of_ble_eq_true rfl) rfl (lnA_at (by omega)) dX8_householdOf_87 ?_
      exact e_i hx hb hr hlocks w (by rw [hvv, vHo, cN_nI (show i < 2 ^ 31 by omega)]; rfl) dX8_householdOf_88 (Nat.le_refl _) (Nat.le_refl _)
    by_cases e25_1 : y = 1
    · have hvv : vHo S q (nI i) y = vHo S q (nI i) 1 := by rw [e25_1]
      refine r_eq (y := 1) e25_1 ?_
      refine lv_tableIn (tgt := 89) hx hb dX8_householdOf_25 (by decide) (by decide) rfl (by decide) ?_
      refine lv_aload_n hx hb dX8_householdOf_89 rfl (lv_at hl 0 rfl) ?_
      refine r_get (v' := .ref (a 0)) hx hb hts in_X8_householdOf_X8 hown w 0 0 rfl rfl (ci := 12) rfl 0 (by decide) (hts _ (List.mem_of_getElem? (i := 5) rfl)) rfl rfl rfl dX8_householdOf_90 ?_
      refine r_getN (v' := .ref (a 1)) hx hb hts in_X8_householdOf_X6 hown w 1 0 rfl rfl (ci := 10) rfl 0 (by decide) (w.2.2.2.2.2 _ (List.mem_of_getElem? (i := 33) rfl)) rfl rfl rfl dX8_householdOf_93 ?_
      refine r_getN (v' := .ref (a 3)) hx hb hts in_X8_householdOf_X2 hown w 2 0 rfl rfl (ci := 6) rfl 3 (by decide) (w.2.2.2.2.2 _ (List.mem_of_getElem? (i := 6) rfl)) rfl rfl rfl dX8_householdOf_96 ?_
      refine lv_iload_n hx hb dX8_householdOf_99 rfl (lv_at hl 1 rfl) ?_
      refine r_iald (v := (S (1 + 6 * i + 1))) hx hb w 2 2 rfl rfl 0 rfl i (by omega) (Nat.le_of_ble_eq_true rfl) rfl (lnA_at (by omega)) dX8_householdOf_100 ?_
      exact e_i hx hb hr hlocks w (by rw [hvv, vHo, cN_nI (show i < 2 ^ 31 by omega)]; rfl) dX8_householdOf_101 (Nat.le_refl _) (Nat.le_refl _)
    by_cases e25_2 : y = 2
    · have hvv : vHo S q (nI i) y = vHo S q (nI i) 2 := by rw [e25_2]
      refine r_eq (y := 2) e25_2 ?_
      refine lv_tableIn (tgt := 102) hx hb dX8_householdOf_25 (by decide) (by decide) rfl (by decide) ?_
      refine lv_aload_n hx hb dX8_householdOf_102 rfl (lv_at hl 0 rfl) ?_
      refine r_get (v' := .ref (a 0)) hx hb hts in_X8_householdOf_X8 hown w 0 0 rfl rfl (ci := 12) rfl 0 (by decide) (hts _ (List.mem_of_getElem? (i := 5) rfl)) rfl rfl rfl dX8_householdOf_103 ?_
      refine r_getN (v' := .ref (a 1)) hx hb hts in_X8_householdOf_X6 hown w 1 0 rfl rfl (ci := 10) rfl 0 (by decide) (w.2.2.2.2.2 _ (List.mem_of_getElem? (i := 33) rfl)) rfl rfl rfl dX8_householdOf_106 ?_
      refine r_getN (v' := .ref (a 4)) hx hb hts in_X8_householdOf_X2 hown w 2 0 rfl rfl (ci := 6) rfl 4 (by decide) (w.2.2.2.2.2 _ (List.mem_of_getElem? (i := 7) rfl)) rfl rfl rfl dX8_householdOf_109 ?_
      refine lv_iload_n hx hb dX8_householdOf_112 rfl (lv_at hl 1 rfl) ?_
      refine r_iald (v := (S (1 + 6 * i + 2))) hx hb w 2 3 rfl rfl 0 rfl i (by omega) (Nat.le_of_ble_eq_true rfl) rfl (lnA_at (by omega)) dX8_householdOf_113 ?_
      exact e_i hx hb hr hlocks w (by rw [hvv, vHo, cN_nI (show i < 2 ^ 31 by omega)]; rfl) dX8_householdOf_114 (Nat.le_refl _) (Nat.le_refl _)
    by_cases e25_3 : y = 3
    · have hvv : vHo S q (nI i) y = vHo S q (nI i) 3 := by rw [e25_3]
      refine r_eq (y := 3) e25_3 ?_
      refine lv_tableIn (tgt := 115) hx hb dX8_householdOf_25 (by decide) (by decide) rfl (by decide) ?_
      refine lv_aload_n hx hb dX8_householdOf_115 rfl (lv_at hl 0 rfl) ?_
      refine r_get (v' := .ref (a 0)) hx hb hts in_X8_householdOf_X8 hown w 0 0 rfl rfl (ci := 12) rfl 0 (by decide) (hts _ (List.mem_of_getElem? (i := 5) rfl)) rfl rfl rfl dX8_householdOf_116 ?_
      refine lv_iload_n hx hb dX8_householdOf_119 rfl (lv_at hl 1 rfl) ?_
      refine k_iVN (As := [.int (nI i)]) (rest := []) (Rs := [ppB o (a 0) (b 0) (sn 0) (h 0) r (t 0) sb hs lf]) (Bs' := [ppB o (a 0) (b 0) (sn 0) (h 0) r (t 0) sb hs lf, stB a S, lnB ty a S, quB ty a S, weB a S, miB ty a M]) ⟨hx, hb, hml, hown, hts⟩ w (c_X6_turnsOf l D ty a S M n q (hI) i (by omega)) ⟨va_cnB 1 hts gX8_householdOf_X6_turnsOf_n172 rfl rfl rfl (w.2.2.2.2.2 _ (List.mem_of_getElem? (i := 88) rfl)) (hts _ (List.mem_of_getElem? (i := 12) rfl)) hdN_X6_turnsOf ⟨Nat.le_of_ble_eq_true rfl, Nat.le_of_ble_eq_true rfl⟩, (hts _ (List.mem_of_getElem? (i := 11) rfl)), (hts _ (List.mem_of_getElem? (i := 13) rfl))⟩ [1, 2, 3, 4, 5, 0] (nB := 6) (by decide) rfl rfl rfl rfl 1 rfl rfl (ci := 10) rfl rfl rfl hl.1 rfl (Nat.le_of_ble_eq_true rfl) dX8_householdOf_120 ⟨(Nat.zero_le _), (Nat.zero_le _)⟩ (fun H locs w => ?_)
      exact e_i hx hb hr hlocks w (by rw [hvv, vHo, cN_nI (show i < 2 ^ 31 by omega)]; rfl) dX8_householdOf_123 (Nat.le_refl _) (Nat.le_refl _)
    by_cases e25_4 : y = 4
    · have hvv : vHo S q (nI i) y = vHo S q (nI i) 4 := by rw [e25_4]
      refine r_eq (y := 4) e25_4 ?_
      refine lv_tableIn (tgt := 124) hx hb dX8_householdOf_25 (by decide) (by decide) rfl (by decide) ?_
      refine lv_aload_n hx hb dX8_householdOf_124 rfl (lv_at hl 0 rfl) ?_
      refine r_get (v' := .ref (a 0)) hx hb hts in_X8_householdOf_X8 hown w 0 0 rfl rfl (ci := 12) rfl 0 (by decide) (hts _ (List.mem_of_getElem? (i := 5) rfl)) rfl rfl rfl dX8_householdOf_125 ?_
      refine lv_iload_n hx hb dX8_householdOf_128 rfl (lv_at hl 1 rfl) ?_
      refine k_iVN (As := [.int (nI i)]) (rest := []) (Rs := [ppB o (a 0) (b 0) (sn 0) (h 0) r (t 0) sb hs lf]) (Bs' := [ppB o (a 0) (b 0) (sn 0) (h 0) r (t 0) sb hs lf, stB a S, lnB ty a S, quB ty a S, weB a S, miB ty a M]) ⟨hx, hb, hml, hown, hts⟩ w (c_X6_turnsLeft l D ty a S M n q (hI) i (by omega)) ⟨va_cnB 1 hts gX8_householdOf_X6_turnsLeft_n175 rfl rfl rfl (w.2.2.2.2.2 _ (List.mem_of_getElem? (i := 89) rfl)) (hts _ (List.mem_of_getElem? (i := 12) rfl)) hdN_X6_turnsLeft ⟨Nat.le_of_ble_eq_true rfl, Nat.le_of_ble_eq_true rfl⟩, (hts _ (List.mem_of_getElem? (i := 23) rfl)), (hts _ (List.mem_of_getElem? (i := 24) rfl))⟩ [1, 2, 3, 4, 5, 0] (nB := 6) (by decide) rfl rfl rfl rfl 1 rfl rfl (ci := 10) rfl rfl rfl hl.1 rfl (Nat.le_of_ble_eq_true rfl) dX8_householdOf_129 ⟨(Nat.zero_le _), (Nat.zero_le _)⟩ (fun H locs w => ?_)
      exact e_i hx hb hr hlocks w (by rw [hvv, vHo, cN_nI (show i < 2 ^ 31 by omega)]; rfl) dX8_householdOf_132 (Nat.le_refl _) (Nat.le_refl _)
    by_cases e25_5 : y = 5
    · have hvv : vHo S q (nI i) y = vHo S q (nI i) 5 := by rw [e25_5]
      refine r_eq (y := 5) e25_5 ?_
      refine lv_tableIn (tgt := 133) hx hb dX8_householdOf_25 (by decide) (by decide) rfl (by decide) ?_
      refine lv_aload_n hx hb dX8_householdOf_133 rfl (lv_at hl 0 rfl) ?_
      refine r_get (v' := .ref (a 0)) hx hb hts in_X8_householdOf_X8 hown w 0 0 rfl rfl (ci := 12) rfl 0 (by decide) (hts _ (List.mem_of_getElem? (i := 5) rfl)) rfl rfl rfl dX8_householdOf_134 ?_
      refine r_getN (v' := .ref (a 1)) hx hb hts in_X8_householdOf_X6 hown w 1 0 rfl rfl (ci := 10) rfl 0 (by decide) (w.2.2.2.2.2 _ (List.mem_of_getElem? (i := 33) rfl)) rfl rfl rfl dX8_householdOf_137 ?_
      refine r_getN (v' := .ref (a 5)) hx hb hts in_X8_householdOf_X2 hown w 2 0 rfl rfl (ci := 6) rfl 5 (by decide) (w.2.2.2.2.2 _ (List.mem_of_getElem? (i := 9) rfl)) rfl rfl rfl dX8_householdOf_140 ?_
      refine lv_iload_n hx hb dX8_householdOf_143 rfl (lv_at hl 1 rfl) ?_
      refine r_iald (v := (S (1 + 6 * i + 3))) hx hb w 2 4 rfl rfl 0 rfl i (by omega) (Nat.le_of_ble_eq_true rfl) rfl (lnA_at (by omega)) dX8_householdOf_144 ?_
      exact e_i hx hb hr hlocks w (by rw [hvv, vHo, cN_nI (show i < 2 ^ 31 by omega)]; rfl) dX8_householdOf_145 (Nat.le_refl _) (Nat.le_refl _)
    by_cases e25_6 : y = 6
    · have hvv : vHo S q (nI i) y = vHo S q (nI i) 6 := by rw [e25_6]
      refine r_eq (y := 6) e25_6 ?_
      refine lv_tableIn (tgt := 146) hx hb dX8_householdOf_25 (by decide) (by decide) rfl (by decide) ?_
      refine lv_aload_n hx hb dX8_householdOf_146 rfl (lv_at hl 0 rfl) ?_
      refine r_get (v' := .ref (a 0)) hx hb hts in_X8_householdOf_X8 hown w 0 0 rfl rfl (ci := 12) rfl 0 (by decide) (hts _ (List.mem_of_getElem? (i := 5) rfl)) rfl rfl rfl dX8_householdOf_147 ?_
      refine r_getN (v' := .ref (a 1)) hx hb hts in_X8_householdOf_X6 hown w 1 0 rfl rfl (ci := 10) rfl 0 (by decide) (w.2.2.2.2.2 _ (List.mem_of_getElem? (i := 33) rfl)) rfl rfl rfl dX8_householdOf_150 ?_
      refine r_getN (v' := .ref (a 6)) hx hb hts in_X8_householdOf_X2 hown w 2 0 rfl rfl (ci := 6) rfl 6 (by decide) (w.2.2.2.2.2 _ (List.mem_of_getElem? (i := 11) rfl)) rfl rfl rfl dX8_householdOf_153 ?_
      refine lv_iload_n hx hb dX8_householdOf_156 rfl (lv_at hl 1 rfl) ?_
      refine r_iald (v := (S (1 + 6 * i + 4))) hx hb w 2 5 rfl rfl 0 rfl i (by omega) (Nat.le_of_ble_eq_true rfl) rfl (lnA_at (by omega)) dX8_householdOf_157 ?_
      exact e_i hx hb hr hlocks w (by rw [hvv, vHo, cN_nI (show i < 2 ^ 31 by omega)]; rfl) dX8_householdOf_158 (Nat.le_refl _) (Nat.le_refl _)
    by_cases e25_7 : y = 7
    · have hvv : vHo S q (nI i) y = vHo S q (nI i) 7 := by rw [e25_7]
      refine r_eq (y := 7) e25_7 ?_
      refine lv_tableIn (tgt := 159) hx hb dX8_householdOf_25 (by decide) (by decide) rfl (by decide) ?_
      refine lv_aload_n hx hb dX8_householdOf_159 rfl (lv_at hl 0 rfl) ?_
      refine r_get (v' := .ref (a 0)) hx hb hts in_X8_householdOf_X8 hown w 0 0 rfl rfl (ci := 12) rfl 0 (by decide) (hts _ (List.mem_of_getElem? (i := 5) rfl)) rfl rfl rfl dX8_householdOf_160 ?_
      refine r_getN (v' := .ref (a 1)) hx hb hts in_X8_householdOf_X6 hown w 1 0 rfl rfl (ci := 10) rfl 0 (by decide) (w.2.2.2.2.2 _ (List.mem_of_getElem? (i := 33) rfl)) rfl rfl rfl dX8_householdOf_163 ?_
      refine r_getN (v' := .ref (a 7)) hx hb hts in_X8_householdOf_X2 hown w 2 0 rfl rfl (ci := 6) rfl 7 (by decide) (w.2.2.2.2.2 _ (List.mem_of_getElem? (i := 12) rfl)) rfl rfl rfl dX8_householdOf_166 ?_
      refine lv_iload_n hx hb dX8_householdOf_169 rfl (lv_at hl 1 rfl) ?_
      refine r_iald (v := (S (1 + 6 * i + 5))) hx hb w 2 6 rfl rfl 0 rfl i (by omega) (Nat.le_of_ble_eq_true rfl) rfl (lnA_at (by omega)) dX8_householdOf_170 ?_
      exact e_i hx hb hr hlocks w (by rw [hvv, vHo, cN_nI (show i < 2 ^ 31 by omega)]; rfl) dX8_householdOf_171 (Nat.le_refl _) (Nat.le_refl _)
    by_cases e25_8 : y = 8
    · have hvv : vHo S q (nI i) y = vHo S q (nI i) 8 := by rw [e25_8]
      refine r_eq (y := 8) e25_8 ?_
      refine lv_tableIn (tgt := 172) hx hb dX8_householdOf_25 (by decide) (by decide) rfl (by decide) ?_
      refine lv_aload_n hx hb dX8_householdOf_172 rfl (lv_at hl 0 rfl) ?_
      refine r_get (v' := .ref (a 0)) hx hb hts in_X8_householdOf_X8 hown w 0 0 rfl rfl (ci := 12) rfl 0 (by decide) (hts _ (List.mem_of_getElem? (i := 5) rfl)) rfl rfl rfl dX8_householdOf_173 ?_
      refine r_getN (v' := .ref (a 17)) hx hb hts in_X8_householdOf_X6 hown w 1 0 rfl rfl (ci := 10) rfl 1 (by decide) (w.2.2.2.2.2 _ (List.mem_of_getElem? (i := 34) rfl)) rfl rfl rfl dX8_householdOf_176 ?_
      refine lv_iload_n hx hb dX8_householdOf_179 rfl (lv_at hl 1 rfl) ?_
      refine k_iVN (As := [.int (nI i)]) (rest := []) (Rs := [ppB o (a 0) (b 0) (sn 0) (h 0) r (t 0) sb hs lf, stB a S, lnB ty a S, weB a S, miB ty a M]) (Bs' := [ppB o (a 0) (b 0) (sn 0) (h 0) r (t 0) sb hs lf, stB a S, lnB ty a S, quB ty a S, weB a S, miB ty a M]) ⟨hx, hb, hml, hown, hts⟩ w (c_X4_placeOf l D ty a S q (hI).2.2.1 (hI).2.2.2.1 (hI).2.2.2.2.2.1 (nI i)) ⟨va_cnB 1 hts gX8_householdOf_X4_placeOf_n191 rfl rfl rfl (w.2.2.2.2.2 _ (List.mem_of_getElem? (i := 90) rfl)) (hts _ (List.mem_of_getElem? (i := 32) rfl)) hdN_X4_placeOf ⟨Nat.le_of_ble_eq_true rfl, Nat.le_of_ble_eq_true rfl⟩, (hts _ (List.mem_of_getElem? (i := 31) rfl)), (hts _ (List.mem_of_getElem? (i := 33) rfl))⟩ [3, 0, 1, 2, 4, 5] (nB := 6) (by decide) rfl rfl rfl rfl 3 rfl rfl (ci := 8) rfl rfl rfl hl.1 rfl (Nat.le_of_ble_eq_true rfl) dX8_householdOf_180 ⟨(Nat.zero_le _), (Nat.zero_le _)⟩ (fun H locs w => ?_)
      exact e_i hx hb hr hlocks w (by rw [hvv, vHo, cN_nI (show i < 2 ^ 31 by omega)]; rfl) dX8_householdOf_183 (Nat.le_refl _) (Nat.le_refl _)
    have hpi : pIn y 0 8 = false := pIn_no8 (fun j hj e => by
      rcases (show j = 0 ∨ j = 1 ∨ j = 2 ∨ j = 3 ∨ j = 4 ∨ j = 5 ∨ j = 6 ∨ j = 7 ∨ j = 8 by omega) with rfl | rfl | rfl | rfl | rfl | rfl | rfl | rfl | rfl
      · exact e25_0 e
      · exact e25_1 e
      · exact e25_2 e
      · exact e25_3 e
      · exact e25_4 e
      · exact e25_5 e
      · exact e25_6 e
      · exact e25_7 e
      · exact e25_8 e)
    have hyn := bt_n hpi
    refine lv_tableOut (tgt := 184) hx hb dX8_householdOf_25 (sw_out 0 8 (fun v h1 h2 e => by
      have h3 : v = 0 ∨ v = 1 ∨ v = 2 ∨ v = 3 ∨ v = 4 ∨ v = 5 ∨ v = 6 ∨ v = 7 ∨ v = 8 := by omega
      rcases h3 with rfl | rfl | rfl | rfl | rfl | rfl | rfl | rfl | rfl
      · exact e25_0 (Int32.toInt_inj.mp e)
      · exact e25_1 (Int32.toInt_inj.mp e)
      · exact e25_2 (Int32.toInt_inj.mp e)
      · exact e25_3 (Int32.toInt_inj.mp e)
      · exact e25_4 (Int32.toInt_inj.mp e)
      · exact e25_5 (Int32.toInt_inj.mp e)
      · exact e25_6 (Int32.toInt_inj.mp e)
      · exact e25_7 (Int32.toInt_inj.mp e)
      · exact e25_8 (Int32.toInt_inj.mp e)
      )) (by decide) ?_
    exact absurd hy hyn
  · have c11 := bI_0.mp c11
    exact absurd c11 (by rw [pHas_n hi (by omega)]; decide)

theorem c_ho0 (l : Launch) (D : va_G) (ty : Nat → ClassId) (o : Nat) (a b sn h t : Nat → Nat) (r sb : Nat) (hs lf : Int32) (S M : pS) (n q : Nat) (hA : IA S n q) (i : Nat) (hi : i < n) : Mi l yX8_householdOf wsX8_householdOf (kR 3 65 0 0) D (kTY ty) [.ref o, .int (nI i), .int 0] [ppB o (a 0) (b 0) (sn 0) (h 0) r (t 0) sb hs lf, stB a S, lnB ty a S, quB ty a S, weB a S, miB ty a M] [ppB o (a 0) (b 0) (sn 0) (h 0) r (t 0) sb hs lf, stB a S, lnB ty a S, quB ty a S, weB a S, miB ty a M] (S (1 + 6 * i + 0)) 0 0 := by
  have hx := c_X8_householdOf l D ty o a b sn h t r sb hs lf S M n q hA i hi 0 (by decide)
  rw [show vHo S q (nI i) 0 = S (1 + 6 * i + 0) from by rw [vHo, cN_nI (show i < 2 ^ 31 by have := hA.1.2.1; omega)]; rfl] at hx
  exact hx
theorem c_ho1 (l : Launch) (D : va_G) (ty : Nat → ClassId) (o : Nat) (a b sn h t : Nat → Nat) (r sb : Nat) (hs lf : Int32) (S M : pS) (n q : Nat) (hA : IA S n q) (i : Nat) (hi : i < n) : Mi l yX8_householdOf wsX8_householdOf (kR 3 65 0 0) D (kTY ty) [.ref o, .int (nI i), .int 1] [ppB o (a 0) (b 0) (sn 0) (h 0) r (t 0) sb hs lf, stB a S, lnB ty a S, quB ty a S, weB a S, miB ty a M] [ppB o (a 0) (b 0) (sn 0) (h 0) r (t 0) sb hs lf, stB a S, lnB ty a S, quB ty a S, weB a S, miB ty a M] (S (1 + 6 * i + 1)) 0 0 := by
  have hx := c_X8_householdOf l D ty o a b sn h t r sb hs lf S M n q hA i hi 1 (by decide)
  rw [show vHo S q (nI i) 1 = S (1 + 6 * i + 1) from by rw [vHo, cN_nI (show i < 2 ^ 31 by have := hA.1.2.1; omega)]; rfl] at hx
  exact hx
theorem c_ho2 (l : Launch) (D : va_G) (ty : Nat → ClassId) (o : Nat) (a b sn h t : Nat → Nat) (r sb : Nat) (hs lf : Int32) (S M : pS) (n q : Nat) (hA : IA S n q) (i : Nat) (hi : i < n) : Mi l yX8_householdOf wsX8_householdOf (kR 3 65 0 0) D (kTY ty) [.ref o, .int (nI i), .int 2] [ppB o (a 0) (b 0) (sn 0) (h 0) r (t 0) sb hs lf, stB a S, lnB ty a S, quB ty a S, weB a S, miB ty a M] [ppB o (a 0) (b 0) (sn 0) (h 0) r (t 0) sb hs lf, stB a S, lnB ty a S, quB ty a S, weB a S, miB ty a M] (S (1 + 6 * i + 2)) 0 0 := by
  have hx := c_X8_householdOf l D ty o a b sn h t r sb hs lf S M n q hA i hi 2 (by decide)
  rw [show vHo S q (nI i) 2 = S (1 + 6 * i + 2) from by rw [vHo, cN_nI (show i < 2 ^ 31 by have := hA.1.2.1; omega)]; rfl] at hx
  exact hx
theorem c_ho3 (l : Launch) (D : va_G) (ty : Nat → ClassId) (o : Nat) (a b sn h t : Nat → Nat) (r sb : Nat) (hs lf : Int32) (S M : pS) (n q : Nat) (hA : IA S n q) (i : Nat) (hi : i < n) : Mi l yX8_householdOf wsX8_householdOf (kR 3 65 0 0) D (kTY ty) [.ref o, .int (nI i), .int 3] [ppB o (a 0) (b 0) (sn 0) (h 0) r (t 0) sb hs lf, stB a S, lnB ty a S, quB ty a S, weB a S, miB ty a M] [ppB o (a 0) (b 0) (sn 0) (h 0) r (t 0) sb hs lf, stB a S, lnB ty a S, quB ty a S, weB a S, miB ty a M] (pTurns S i) 0 0 := by
  have hx := c_X8_householdOf l D ty o a b sn h t r sb hs lf S M n q hA i hi 3 (by decide)
  rw [show vHo S q (nI i) 3 = pTurns S i from by rw [vHo, cN_nI (show i < 2 ^ 31 by have := hA.1.2.1; omega)]; rfl] at hx
  exact hx
theorem c_ho4 (l : Launch) (D : va_G) (ty : Nat → ClassId) (o : Nat) (a b sn h t : Nat → Nat) (r sb : Nat) (hs lf : Int32) (S M : pS) (n q : Nat) (hA : IA S n q) (i : Nat) (hi : i < n) : Mi l yX8_householdOf wsX8_householdOf (kR 3 65 0 0) D (kTY ty) [.ref o, .int (nI i), .int 4] [ppB o (a 0) (b 0) (sn 0) (h 0) r (t 0) sb hs lf, stB a S, lnB ty a S, quB ty a S, weB a S, miB ty a M] [ppB o (a 0) (b 0) (sn 0) (h 0) r (t 0) sb hs lf, stB a S, lnB ty a S, quB ty a S, weB a S, miB ty a M] (pLeft S i) 0 0 := by
  have hx := c_X8_householdOf l D ty o a b sn h t r sb hs lf S M n q hA i hi 4 (by decide)
  rw [show vHo S q (nI i) 4 = pLeft S i from by rw [vHo, cN_nI (show i < 2 ^ 31 by have := hA.1.2.1; omega)]; rfl] at hx
  exact hx
theorem c_ho5 (l : Launch) (D : va_G) (ty : Nat → ClassId) (o : Nat) (a b sn h t : Nat → Nat) (r sb : Nat) (hs lf : Int32) (S M : pS) (n q : Nat) (hA : IA S n q) (i : Nat) (hi : i < n) : Mi l yX8_householdOf wsX8_householdOf (kR 3 65 0 0) D (kTY ty) [.ref o, .int (nI i), .int 5] [ppB o (a 0) (b 0) (sn 0) (h 0) r (t 0) sb hs lf, stB a S, lnB ty a S, quB ty a S, weB a S, miB ty a M] [ppB o (a 0) (b 0) (sn 0) (h 0) r (t 0) sb hs lf, stB a S, lnB ty a S, quB ty a S, weB a S, miB ty a M] (S (1 + 6 * i + 3)) 0 0 := by
  have hx := c_X8_householdOf l D ty o a b sn h t r sb hs lf S M n q hA i hi 5 (by decide)
  rw [show vHo S q (nI i) 5 = S (1 + 6 * i + 3) from by rw [vHo, cN_nI (show i < 2 ^ 31 by have := hA.1.2.1; omega)]; rfl] at hx
  exact hx
theorem c_ho6 (l : Launch) (D : va_G) (ty : Nat → ClassId) (o : Nat) (a b sn h t : Nat → Nat) (r sb : Nat) (hs lf : Int32) (S M : pS) (n q : Nat) (hA : IA S n q) (i : Nat) (hi : i < n) : Mi l yX8_householdOf wsX8_householdOf (kR 3 65 0 0) D (kTY ty) [.ref o, .int (nI i), .int 6] [ppB o (a 0) (b 0) (sn 0) (h 0) r (t 0) sb hs lf, stB a S, lnB ty a S, quB ty a S, weB a S, miB ty a M] [ppB o (a 0) (b 0) (sn 0) (h 0) r (t 0) sb hs lf, stB a S, lnB ty a S, quB ty a S, weB a S, miB ty a M] (S (1 + 6 * i + 4)) 0 0 := by
  have hx := c_X8_householdOf l D ty o a b sn h t r sb hs lf S M n q hA i hi 6 (by decide)
  rw [show vHo S q (nI i) 6 = S (1 + 6 * i + 4) from by rw [vHo, cN_nI (show i < 2 ^ 31 by have := hA.1.2.1; omega)]; rfl] at hx
  exact hx
theorem c_ho7 (l : Launch) (D : va_G) (ty : Nat → ClassId) (o : Nat) (a b sn h t : Nat → Nat) (r sb : Nat) (hs lf : Int32) (S M : pS) (n q : Nat) (hA : IA S n q) (i : Nat) (hi : i < n) : Mi l yX8_householdOf wsX8_householdOf (kR 3 65 0 0) D (kTY ty) [.ref o, .int (nI i), .int 7] [ppB o (a 0) (b 0) (sn 0) (h 0) r (t 0) sb hs lf, stB a S, lnB ty a S, quB ty a S, weB a S, miB ty a M] [ppB o (a 0) (b 0) (sn 0) (h 0) r (t 0) sb hs lf, stB a S, lnB ty a S, quB ty a S, weB a S, miB ty a M] (S (1 + 6 * i + 5)) 0 0 := by
  have hx := c_X8_householdOf l D ty o a b sn h t r sb hs lf S M n q hA i hi 7 (by decide)
  rw [show vHo S q (nI i) 7 = S (1 + 6 * i + 5) from by rw [vHo, cN_nI (show i < 2 ^ 31 by have := hA.1.2.1; omega)]; rfl] at hx
  exact hx
theorem c_ho8 (l : Launch) (D : va_G) (ty : Nat → ClassId) (o : Nat) (a b sn h t : Nat → Nat) (r sb : Nat) (hs lf : Int32) (S M : pS) (n q : Nat) (hA : IA S n q) (i : Nat) (hi : i < n) : Mi l yX8_householdOf wsX8_householdOf (kR 3 65 0 0) D (kTY ty) [.ref o, .int (nI i), .int 8] [ppB o (a 0) (b 0) (sn 0) (h 0) r (t 0) sb hs lf, stB a S, lnB ty a S, quB ty a S, weB a S, miB ty a M] [ppB o (a 0) (b 0) (sn 0) (h 0) r (t 0) sb hs lf, stB a S, lnB ty a S, quB ty a S, weB a S, miB ty a M] (pPl S (nI i) q) 0 0 := by
  have hx := c_X8_householdOf l D ty o a b sn h t r sb hs lf S M n q hA i hi 8 (by decide)
  rw [show vHo S q (nI i) 8 = pPl S (nI i) q from by rw [vHo, cN_nI (show i < 2 ^ 31 by have := hA.1.2.1; omega)]; rfl] at hx
  exact hx

theorem in_X8_account_X0 : ∀ w ∈ wsX00, w ∈ wsX8_account := by decide +kernel
theorem in_X8_account_X1 : ∀ w ∈ wsX10, w ∈ wsX8_account := by decide +kernel
theorem in_X8_account_X2 : ∀ w ∈ wsX20, w ∈ wsX8_account := by decide +kernel
theorem in_X8_account_X3 : ∀ w ∈ wsX30, w ∈ wsX8_account := by decide +kernel
theorem in_X8_account_X4 : ∀ w ∈ wsX40, w ∈ wsX8_account := by decide +kernel
theorem in_X8_account_X6 : ∀ w ∈ wsX60, w ∈ wsX8_account := by decide +kernel
theorem in_X8_account_X7 : ∀ w ∈ wsX70, w ∈ wsX8_account := by decide +kernel
theorem in_X8_account_X8 : ∀ w ∈ wsX80, w ∈ wsX8_account := by decide +kernel
theorem hdN_X8_account : yX8_account.cls ≠ "java/lang/invoke/MethodHandle" ∧ yX8_account.cls ≠ "java/lang/invoke/VarHandle" ∧ (parseMethodDescriptor yX8_account.desc).map (fun d => d.parameters.length) = some 1 := by decide +kernel
set_option maxRecDepth 100000 in
set_option maxHeartbeats 4000000 in
theorem c_X8_account (l : Launch) (D : va_G) (ty : Nat → ClassId) (o : Nat) (a b sn h t : Nat → Nat) (r sb : Nat) (hs lf : Int32) (S M : pS) (n q : Nat) (hA : IA S n q) (ha : Nat → Nat → Nat) (sz nx ln cn : Int32) (ch le nu : Nat → Int32) (hM0 : M 0 = S 122) (y : Int32) (hy : pIn y 0 15 = true)  : Mi l yX8_account wsX8_account (kR 0 0 0 0) D (kTY ty) [.ref o, .int y] [ppB o (a 0) (b 0) (sn 0) (h 0) r (t 0) sb hs lf, stB a S, lnB ty a S, quB ty a S, weB a S, miB ty a M, hiB ty h ha sz nx, txB ty t ln cn ch le nu] [ppB o (a 0) (b 0) (sn 0) (h 0) r (t 0) sb hs lf, stB a S, lnB ty a S, quB ty a S, weB a S, miB ty a M, hiB ty h ha sz nx, txB ty t ln cn ch le nu] (acV (acF sz ln) S y) 0 0 := by
  refine m_i (cc := cX8_account) (maxL := 2) (ret := (some .int)) (by decide +kernel) rfl (Nat.le_of_ble_eq_true rfl) ?_
  intro p e s m below meth c A ls hx hb hml hr hlocks hown hts w hl
  have hown : s.vm.findClass RX8 = some m.cls := hown
  have hl : lv_has ls 2 [(0, .ref o), (1, .int y)] := hl
  have hI := hA.1
  obtain ⟨h0, hn, h1, hq, he, hd, hdr, hwr⟩ := id hI
  refine lv_iload_n hx hb dX8_account_0 rfl (lv_at hl 1 rfl) ?_
  by_cases e1_0 : y = 0
  · have hvv : acV (acF sz ln) S y = acV (acF sz ln) S 0 := by rw [e1_0]
    refine r_eq (y := 0) e1_0 ?_
    refine lv_tableIn (tgt := 80) hx hb dX8_account_1 (by decide) (by decide) rfl (by decide) ?_
    refine lv_aload_n hx hb dX8_account_80 rfl (lv_at hl 0 rfl) ?_
    refine r_get (v' := .ref (a 0)) hx hb hts in_X8_account_X8 hown w 0 0 rfl rfl (ci := 12) rfl 0 (by decide) (hts _ (List.mem_of_getElem? (i := 3) rfl)) rfl rfl rfl dX8_account_81 ?_
    refine r_getN (v' := .int (S 206)) hx hb hts in_X8_account_X6 hown w 1 0 rfl rfl (ci := 10) rfl 4 (by decide) (w.2.2.2.2.2 _ (List.mem_of_getElem? (i := 37) rfl)) rfl rfl rfl dX8_account_84 ?_
    exact e_i hx hb hr hlocks w (by rw [hvv]; rfl) dX8_account_87 (Nat.le_refl _) (Nat.le_refl _)
  by_cases e1_1 : y = 1
  · have hvv : acV (acF sz ln) S y = acV (acF sz ln) S 1 := by rw [e1_1]
    refine r_eq (y := 1) e1_1 ?_
    refine lv_tableIn (tgt := 88) hx hb dX8_account_1 (by decide) (by decide) rfl (by decide) ?_
    refine lv_aload_n hx hb dX8_account_88 rfl (lv_at hl 0 rfl) ?_
    refine r_get (v' := .ref (a 0)) hx hb hts in_X8_account_X8 hown w 0 0 rfl rfl (ci := 12) rfl 0 (by decide) (hts _ (List.mem_of_getElem? (i := 3) rfl)) rfl rfl rfl dX8_account_89 ?_
    refine r_getN (v' := .ref (a 1)) hx hb hts in_X8_account_X6 hown w 1 0 rfl rfl (ci := 10) rfl 0 (by decide) (w.2.2.2.2.2 _ (List.mem_of_getElem? (i := 33) rfl)) rfl rfl rfl dX8_account_92 ?_
    refine r_getN (v' := .int (S 0)) hx hb hts in_X8_account_X2 hown w 2 0 rfl rfl (ci := 6) rfl 0 (by decide) (w.2.2.2.2.2 _ (List.mem_of_getElem? (i := 3) rfl)) rfl rfl rfl dX8_account_95 ?_
    exact e_i hx hb hr hlocks w (by rw [hvv]; rfl) dX8_account_98 (Nat.le_refl _) (Nat.le_refl _)
  by_cases e1_2 : y = 2
  · have hvv : acV (acF sz ln) S y = acV (acF sz ln) S 2 := by rw [e1_2]
    refine r_eq (y := 2) e1_2 ?_
    refine lv_tableIn (tgt := 99) hx hb dX8_account_1 (by decide) (by decide) rfl (by decide) ?_
    refine lv_aload_n hx hb dX8_account_99 rfl (lv_at hl 0 rfl) ?_
    refine r_get (v' := .ref (a 0)) hx hb hts in_X8_account_X8 hown w 0 0 rfl rfl (ci := 12) rfl 0 (by decide) (hts _ (List.mem_of_getElem? (i := 3) rfl)) rfl rfl rfl dX8_account_100 ?_
    refine r_getN (v' := .ref (a 17)) hx hb hts in_X8_account_X6 hown w 1 0 rfl rfl (ci := 10) rfl 1 (by decide) (w.2.2.2.2.2 _ (List.mem_of_getElem? (i := 34) rfl)) rfl rfl rfl dX8_account_103 ?_
    refine r_getN (v' := .int (S 49)) hx hb hts in_X8_account_X4 hown w 3 0 rfl rfl (ci := 8) rfl 0 (by decide) (w.2.2.2.2.2 _ (List.mem_of_getElem? (i := 17) rfl)) rfl rfl rfl dX8_account_106 ?_
    exact e_i hx hb hr hlocks w (by rw [hvv]; rfl) dX8_account_109 (Nat.le_refl _) (Nat.le_refl _)
  by_cases e1_3 : y = 3
  · have hvv : acV (acF sz ln) S y = acV (acF sz ln) S 3 := by rw [e1_3]
    refine r_eq (y := 3) e1_3 ?_
    refine lv_tableIn (tgt := 110) hx hb dX8_account_1 (by decide) (by decide) rfl (by decide) ?_
    refine lv_aload_n hx hb dX8_account_110 rfl (lv_at hl 0 rfl) ?_
    refine r_get (v' := .ref (a 0)) hx hb hts in_X8_account_X8 hown w 0 0 rfl rfl (ci := 12) rfl 0 (by decide) (hts _ (List.mem_of_getElem? (i := 3) rfl)) rfl rfl rfl dX8_account_111 ?_
    refine r_getN (v' := .ref (a 19)) hx hb hts in_X8_account_X6 hown w 1 0 rfl rfl (ci := 10) rfl 2 (by decide) (w.2.2.2.2.2 _ (List.mem_of_getElem? (i := 35) rfl)) rfl rfl rfl dX8_account_114 ?_
    refine r_getN (v' := .int (S 204)) hx hb hts in_X8_account_X7 hown w 4 0 rfl rfl (ci := 11) rfl 0 (by decide) (w.2.2.2.2.2 _ (List.mem_of_getElem? (i := 22) rfl)) rfl rfl rfl dX8_account_117 ?_
    exact e_i hx hb hr hlocks w (by rw [hvv]; rfl) dX8_account_120 (Nat.le_refl _) (Nat.le_refl _)
  by_cases e1_4 : y = 4
  · have hvv : acV (acF sz ln) S y = acV (acF sz ln) S 4 := by rw [e1_4]
    refine r_eq (y := 4) e1_4 ?_
    refine lv_tableIn (tgt := 121) hx hb dX8_account_1 (by decide) (by decide) rfl (by decide) ?_
    refine lv_aload_n hx hb dX8_account_121 rfl (lv_at hl 0 rfl) ?_
    refine r_get (v' := .ref (a 0)) hx hb hts in_X8_account_X8 hown w 0 0 rfl rfl (ci := 12) rfl 0 (by decide) (hts _ (List.mem_of_getElem? (i := 3) rfl)) rfl rfl rfl dX8_account_122 ?_
    refine r_getN (v' := .ref (a 19)) hx hb hts in_X8_account_X6 hown w 1 0 rfl rfl (ci := 10) rfl 2 (by decide) (w.2.2.2.2.2 _ (List.mem_of_getElem? (i := 35) rfl)) rfl rfl rfl dX8_account_125 ?_
    refine r_getN (v' := .int (S 210)) hx hb hts in_X8_account_X7 hown w 4 0 rfl rfl (ci := 11) rfl 1 (by decide) (w.2.2.2.2.2 _ (List.mem_of_getElem? (i := 23) rfl)) rfl rfl rfl dX8_account_128 ?_
    exact e_i hx hb hr hlocks w (by rw [hvv]; rfl) dX8_account_131 (Nat.le_refl _) (Nat.le_refl _)
  by_cases e1_5 : y = 5
  · have hvv : acV (acF sz ln) S y = acV (acF sz ln) S 5 := by rw [e1_5]
    refine r_eq (y := 5) e1_5 ?_
    refine lv_tableIn (tgt := 132) hx hb dX8_account_1 (by decide) (by decide) rfl (by decide) ?_
    refine lv_aload_n hx hb dX8_account_132 rfl (lv_at hl 0 rfl) ?_
    refine r_get (v' := .ref (a 0)) hx hb hts in_X8_account_X8 hown w 0 0 rfl rfl (ci := 12) rfl 0 (by decide) (hts _ (List.mem_of_getElem? (i := 3) rfl)) rfl rfl rfl dX8_account_133 ?_
    refine r_getN (v' := .ref (a 19)) hx hb hts in_X8_account_X6 hown w 1 0 rfl rfl (ci := 10) rfl 2 (by decide) (w.2.2.2.2.2 _ (List.mem_of_getElem? (i := 35) rfl)) rfl rfl rfl dX8_account_136 ?_
    refine r_getN (v' := .int (S 211)) hx hb hts in_X8_account_X7 hown w 4 0 rfl rfl (ci := 11) rfl 2 (by decide) (w.2.2.2.2.2 _ (List.mem_of_getElem? (i := 24) rfl)) rfl rfl rfl dX8_account_139 ?_
    exact e_i hx hb hr hlocks w (by rw [hvv]; rfl) dX8_account_142 (Nat.le_refl _) (Nat.le_refl _)
  by_cases e1_6 : y = 6
  · have hvv : acV (acF sz ln) S y = acV (acF sz ln) S 6 := by rw [e1_6]
    refine r_eq (y := 6) e1_6 ?_
    refine lv_tableIn (tgt := 143) hx hb dX8_account_1 (by decide) (by decide) rfl (by decide) ?_
    refine lv_aload_n hx hb dX8_account_143 rfl (lv_at hl 0 rfl) ?_
    refine r_get (v' := .ref (a 0)) hx hb hts in_X8_account_X8 hown w 0 0 rfl rfl (ci := 12) rfl 0 (by decide) (hts _ (List.mem_of_getElem? (i := 3) rfl)) rfl rfl rfl dX8_account_144 ?_
    refine r_getN (v' := .ref (a 19)) hx hb hts in_X8_account_X6 hown w 1 0 rfl rfl (ci := 10) rfl 2 (by decide) (w.2.2.2.2.2 _ (List.mem_of_getElem? (i := 35) rfl)) rfl rfl rfl dX8_account_147 ?_
    refine r_getN (v' := .int (S 212)) hx hb hts in_X8_account_X7 hown w 4 0 rfl rfl (ci := 11) rfl 6 (by decide) (w.2.2.2.2.2 _ (List.mem_of_getElem? (i := 28) rfl)) rfl rfl rfl dX8_account_150 ?_
    exact e_i hx hb hr hlocks w (by rw [hvv]; rfl) dX8_account_153 (Nat.le_refl _) (Nat.le_refl _)
  by_cases e1_7 : y = 7
  · have hvv : acV (acF sz ln) S y = acV (acF sz ln) S 7 := by rw [e1_7]
    refine r_eq (y := 7) e1_7 ?_
    refine lv_tableIn (tgt := 154) hx hb dX8_account_1 (by decide) (by decide) rfl (by decide) ?_
    refine lv_aload_n hx hb dX8_account_154 rfl (lv_at hl 0 rfl) ?_
    refine r_get (v' := .ref (a 0)) hx hb hts in_X8_account_X8 hown w 0 0 rfl rfl (ci := 12) rfl 0 (by decide) (hts _ (List.mem_of_getElem? (i := 3) rfl)) rfl rfl rfl dX8_account_155 ?_
    refine r_getN (v' := .ref (a 1)) hx hb hts in_X8_account_X6 hown w 1 0 rfl rfl (ci := 10) rfl 0 (by decide) (w.2.2.2.2.2 _ (List.mem_of_getElem? (i := 33) rfl)) rfl rfl rfl dX8_account_158 ?_
    refine r_getN (v' := .int (S 213)) hx hb hts in_X8_account_X2 hown w 2 0 rfl rfl (ci := 6) rfl 1 (by decide) (w.2.2.2.2.2 _ (List.mem_of_getElem? (i := 4) rfl)) rfl rfl rfl dX8_account_161 ?_
    exact e_i hx hb hr hlocks w (by rw [hvv]; rfl) dX8_account_164 (Nat.le_refl _) (Nat.le_refl _)
  by_cases e1_8 : y = 8
  · have hvv : acV (acF sz ln) S y = acV (acF sz ln) S 8 := by rw [e1_8]
    refine r_eq (y := 8) e1_8 ?_
    refine lv_tableIn (tgt := 165) hx hb dX8_account_1 (by decide) (by decide) rfl (by decide) ?_
    refine lv_aload_n hx hb dX8_account_165 rfl (lv_at hl 0 rfl) ?_
    refine r_get (v' := .ref (a 0)) hx hb hts in_X8_account_X8 hown w 0 0 rfl rfl (ci := 12) rfl 0 (by decide) (hts _ (List.mem_of_getElem? (i := 3) rfl)) rfl rfl rfl dX8_account_166 ?_
    refine r_getN (v' := .ref (a 19)) hx hb hts in_X8_account_X6 hown w 1 0 rfl rfl (ci := 10) rfl 2 (by decide) (w.2.2.2.2.2 _ (List.mem_of_getElem? (i := 35) rfl)) rfl rfl rfl dX8_account_169 ?_
    refine r_getN (v' := .int (S 205)) hx hb hts in_X8_account_X7 hown w 4 0 rfl rfl (ci := 11) rfl 5 (by decide) (w.2.2.2.2.2 _ (List.mem_of_getElem? (i := 27) rfl)) rfl rfl rfl dX8_account_172 ?_
    exact e_i hx hb hr hlocks w (by rw [hvv]; rfl) dX8_account_175 (Nat.le_refl _) (Nat.le_refl _)
  by_cases e1_9 : y = 9
  · have hvv : acV (acF sz ln) S y = acV (acF sz ln) S 9 := by rw [e1_9]
    refine r_eq (y := 9) e1_9 ?_
    refine lv_tableIn (tgt := 176) hx hb dX8_account_1 (by decide) (by decide) rfl (by decide) ?_
    refine lv_aload_n hx hb dX8_account_176 rfl (lv_at hl 0 rfl) ?_
    refine r_get (v' := .ref (a 0)) hx hb hts in_X8_account_X8 hown w 0 0 rfl rfl (ci := 12) rfl 0 (by decide) (hts _ (List.mem_of_getElem? (i := 3) rfl)) rfl rfl rfl dX8_account_177 ?_
    refine r_getN (v' := .int (S 209)) hx hb hts in_X8_account_X6 hown w 1 0 rfl rfl (ci := 10) rfl 6 (by decide) (w.2.2.2.2.2 _ (List.mem_of_getElem? (i := 39) rfl)) rfl rfl rfl dX8_account_180 ?_
    exact e_i hx hb hr hlocks w (by rw [hvv]; rfl) dX8_account_183 (Nat.le_refl _) (Nat.le_refl _)
  by_cases e1_10 : y = 10
  · have hvv : acV (acF sz ln) S y = acV (acF sz ln) S 10 := by rw [e1_10]
    refine r_eq (y := 10) e1_10 ?_
    refine lv_tableIn (tgt := 184) hx hb dX8_account_1 (by decide) (by decide) rfl (by decide) ?_
    refine lv_aload_n hx hb dX8_account_184 rfl (lv_at hl 0 rfl) ?_
    refine r_get (v' := .ref (a 0)) hx hb hts in_X8_account_X8 hown w 0 0 rfl rfl (ci := 12) rfl 0 (by decide) (hts _ (List.mem_of_getElem? (i := 3) rfl)) rfl rfl rfl dX8_account_185 ?_
    refine r_getN (v' := .int (S 203)) hx hb hts in_X8_account_X6 hown w 1 0 rfl rfl (ci := 10) rfl 5 (by decide) (w.2.2.2.2.2 _ (List.mem_of_getElem? (i := 38) rfl)) rfl rfl rfl dX8_account_188 ?_
    exact e_i hx hb hr hlocks w (by rw [hvv]; rfl) dX8_account_191 (Nat.le_refl _) (Nat.le_refl _)
  by_cases e1_11 : y = 11
  · have hvv : acV (acF sz ln) S y = acV (acF sz ln) S 11 := by rw [e1_11]
    refine r_eq (y := 11) e1_11 ?_
    refine lv_tableIn (tgt := 192) hx hb dX8_account_1 (by decide) (by decide) rfl (by decide) ?_
    refine lv_aload_n hx hb dX8_account_192 rfl (lv_at hl 0 rfl) ?_
    refine r_get (v' := .ref (a 0)) hx hb hts in_X8_account_X8 hown w 0 0 rfl rfl (ci := 12) rfl 0 (by decide) (hts _ (List.mem_of_getElem? (i := 3) rfl)) rfl rfl rfl dX8_account_193 ?_
    refine r_getN (v' := .ref (a 19)) hx hb hts in_X8_account_X6 hown w 1 0 rfl rfl (ci := 10) rfl 2 (by decide) (w.2.2.2.2.2 _ (List.mem_of_getElem? (i := 35) rfl)) rfl rfl rfl dX8_account_196 ?_
    refine r_getN (v' := .int (S 208)) hx hb hts in_X8_account_X7 hown w 4 0 rfl rfl (ci := 11) rfl 4 (by decide) (w.2.2.2.2.2 _ (List.mem_of_getElem? (i := 26) rfl)) rfl rfl rfl dX8_account_199 ?_
    exact e_i hx hb hr hlocks w (by rw [hvv]; rfl) dX8_account_202 (Nat.le_refl _) (Nat.le_refl _)
  by_cases e1_12 : y = 12
  · have hvv : acV (acF sz ln) S y = acV (acF sz ln) S 12 := by rw [e1_12]
    refine r_eq (y := 12) e1_12 ?_
    refine lv_tableIn (tgt := 203) hx hb dX8_account_1 (by decide) (by decide) rfl (by decide) ?_
    refine lv_aload_n hx hb dX8_account_203 rfl (lv_at hl 0 rfl) ?_
    refine r_get (v' := .ref (a 0)) hx hb hts in_X8_account_X8 hown w 0 0 rfl rfl (ci := 12) rfl 0 (by decide) (hts _ (List.mem_of_getElem? (i := 3) rfl)) rfl rfl rfl dX8_account_204 ?_
    refine r_getN (v' := .ref (a 19)) hx hb hts in_X8_account_X6 hown w 1 0 rfl rfl (ci := 10) rfl 2 (by decide) (w.2.2.2.2.2 _ (List.mem_of_getElem? (i := 35) rfl)) rfl rfl rfl dX8_account_207 ?_
    refine r_getN (v' := .int (S 207)) hx hb hts in_X8_account_X7 hown w 4 0 rfl rfl (ci := 11) rfl 7 (by decide) (w.2.2.2.2.2 _ (List.mem_of_getElem? (i := 30) rfl)) rfl rfl rfl dX8_account_210 ?_
    refine lv_if_eq (tgt := 220) hx hb dX8_account_213 (by decide) (fun c213 => ?_) (fun c213 => ?_)
    · refine lv_iconst (v := 0) hx hb dX8_account_220 (by decide) ?_
      exact e_i hx hb hr hlocks w (by rw [hvv]; exact c213.symm) dX8_account_221 (Nat.le_refl _) (Nat.le_refl _)
    · refine lv_iconst (v := 1) hx hb dX8_account_216 (by decide) ?_
      refine lv_goto (tgt := 221) hx hb dX8_account_217 (by decide) ?_
      exact e_i hx hb hr hlocks w (by rw [hvv]; exact (hdr.resolve_left c213).symm) dX8_account_221 (Nat.le_refl _) (Nat.le_refl _)
  by_cases e1_13 : y = 13
  · have hvv : acV (acF sz ln) S y = acV (acF sz ln) S 13 := by rw [e1_13]
    refine r_eq (y := 13) e1_13 ?_
    refine lv_tableIn (tgt := 222) hx hb dX8_account_1 (by decide) (by decide) rfl (by decide) ?_
    refine lv_aload_n hx hb dX8_account_222 rfl (lv_at hl 0 rfl) ?_
    refine r_get (v' := .ref (a 0)) hx hb hts in_X8_account_X8 hown w 0 0 rfl rfl (ci := 12) rfl 0 (by decide) (hts _ (List.mem_of_getElem? (i := 3) rfl)) rfl rfl rfl dX8_account_223 ?_
    refine r_getN (v' := .ref (a 20)) hx hb hts in_X8_account_X6 hown w 1 0 rfl rfl (ci := 10) rfl 3 (by decide) (w.2.2.2.2.2 _ (List.mem_of_getElem? (i := 36) rfl)) rfl rfl rfl dX8_account_226 ?_
    refine r_getN (v' := .int (M 0)) hx hb hts in_X8_account_X3 hown w 5 0 rfl rfl (ci := 7) rfl 0 (by decide) (w.2.2.2.2.2 _ (List.mem_of_getElem? (i := 32) rfl)) rfl rfl rfl dX8_account_229 ?_
    exact e_i hx hb hr hlocks w (by rw [hvv]; exact hM0) dX8_account_232 (Nat.le_refl _) (Nat.le_refl _)
  by_cases e1_14 : y = 14
  · have hvv : acV (acF sz ln) S y = acV (acF sz ln) S 14 := by rw [e1_14]
    refine r_eq (y := 14) e1_14 ?_
    refine lv_tableIn (tgt := 233) hx hb dX8_account_1 (by decide) (by decide) rfl (by decide) ?_
    refine lv_aload_n hx hb dX8_account_233 rfl (lv_at hl 0 rfl) ?_
    refine r_get (v' := .ref (h 0)) hx hb hts in_X8_account_X8 hown w 0 0 rfl rfl (ci := 12) rfl 4 (by decide) (hts _ (List.mem_of_getElem? (i := 4) rfl)) rfl rfl rfl dX8_account_234 ?_
    refine r_getN (v' := .int sz) hx hb hts in_X8_account_X1 hown w 6 0 rfl rfl (ci := 5) rfl 0 (by decide) (w.2.2.2.2.2 _ (List.mem_of_getElem? (i := 42) rfl)) rfl rfl rfl dX8_account_237 ?_
    exact e_i hx hb hr hlocks w (by rw [hvv]; rfl) dX8_account_240 (Nat.le_refl _) (Nat.le_refl _)
  by_cases e1_15 : y = 15
  · have hvv : acV (acF sz ln) S y = acV (acF sz ln) S 15 := by rw [e1_15]
    refine r_eq (y := 15) e1_15 ?_
    refine lv_tableIn (tgt := 241) hx hb dX8_account_1 (by decide) (by decide) rfl (by decide) ?_
    refine lv_aload_n hx hb dX8_account_241 rfl (lv_at hl 0 rfl) ?_
    refine r_get (v' := .ref (t 0)) hx hb hts in_X8_account_X8 hown w 0 0 rfl rfl (ci := 12) rfl 6 (by decide) (hts _ (List.mem_of_getElem? (i := 5) rfl)) rfl rfl rfl dX8_account_242 ?_
    refine r_getN (v' := .int ln) hx hb hts in_X8_account_X0 hown w 7 0 rfl rfl (ci := 4) rfl 0 (by decide) (w.2.2.2.2.2 _ (List.mem_of_getElem? (i := 45) rfl)) rfl rfl rfl dX8_account_245 ?_
    exact e_i hx hb hr hlocks w (by rw [hvv]; rfl) dX8_account_248 (Nat.le_refl _) (Nat.le_refl _)
  have hpi : pIn y 0 15 = false := pIn_no15 (fun j hj e => by
    rcases (show j = 0 ∨ j = 1 ∨ j = 2 ∨ j = 3 ∨ j = 4 ∨ j = 5 ∨ j = 6 ∨ j = 7 ∨ j = 8 ∨ j = 9 ∨ j = 10 ∨ j = 11 ∨ j = 12 ∨ j = 13 ∨ j = 14 ∨ j = 15 by omega) with rfl | rfl | rfl | rfl | rfl | rfl | rfl | rfl | rfl | rfl | rfl | rfl | rfl | rfl | rfl | rfl
    · exact e1_0 e
    · exact e1_1 e
    · exact e1_2 e
    · exact e1_3 e
    · exact e1_4 e
    · exact e1_5 e
    · exact e1_6 e
    · exact e1_7 e
    · exact e1_8 e
    · exact e1_9 e
    · exact e1_10 e
    · exact e1_11 e
    · exact e1_12 e
    · exact e1_13 e
    · exact e1_14 e
    · exact e1_15 e)
  have hyn := bt_n hpi
  refine lv_tableOut (tgt := 249) hx hb dX8_account_1 (sw_out 0 15 (fun v h1 h2 e => by
    have h3 : v = 0 ∨ v = 1 ∨ v = 2 ∨ v = 3 ∨ v = 4 ∨ v = 5 ∨ v = 6 ∨ v = 7 ∨ v = 8 ∨ v = 9 ∨ v = 10 ∨ v = 11 ∨ v = 12 ∨ v = 13 ∨ v = 14 ∨ v = 15 := by omega
    rcases h3 with rfl | rfl | rfl | rfl | rfl | rfl | rfl | rfl | rfl | rfl | rfl | rfl | rfl | rfl | rfl | rfl
    · exact e1_0 (Int32.toInt_inj.mp e)
    · exact e1_1 (Int32.toInt_inj.mp e)
    · exact e1_2 (Int32.toInt_inj.mp e)
    · exact e1_3 (Int32.toInt_inj.mp e)
    · exact e1_4 (Int32.toInt_inj.mp e)
    · exact e1_5 (Int32.toInt_inj.mp e)
    · exact e1_6 (Int32.toInt_inj.mp e)
    · exact e1_7 (Int32.toInt_inj.mp e)
    · exact e1_8 (Int32.toInt_inj.mp e)
    · exact e1_9 (Int32.toInt_inj.mp e)
    · exact e1_10 (Int32.toInt_inj.mp e)
    · exact e1_11 (Int32.toInt_inj.mp e)
    · exact e1_12 (Int32.toInt_inj.mp e)
    · exact e1_13 (Int32.toInt_inj.mp e)
    · exact e1_14 (Int32.toInt_inj.mp e)
    · exact e1_15 (Int32.toInt_inj.mp e)
    )) (by decide) ?_
  exact absurd hy hyn

theorem c_ac0 (l : Launch) (D : va_G) (ty : Nat → ClassId) (o : Nat) (a b sn h t : Nat → Nat) (r sb : Nat) (hs lf : Int32) (S M : pS) (n q : Nat) (hA : IA S n q) (ha : Nat → Nat → Nat) (sz nx ln cn : Int32) (ch le nu : Nat → Int32) (hM0 : M 0 = S 122) : Mi l yX8_account wsX8_account (kR 0 0 0 0) D (kTY ty) [.ref o, .int 0] [ppB o (a 0) (b 0) (sn 0) (h 0) r (t 0) sb hs lf, stB a S, lnB ty a S, quB ty a S, weB a S, miB ty a M, hiB ty h ha sz nx, txB ty t ln cn ch le nu] [ppB o (a 0) (b 0) (sn 0) (h 0) r (t 0) sb hs lf, stB a S, lnB ty a S, quB ty a S, weB a S, miB ty a M, hiB ty h ha sz nx, txB ty t ln cn ch le nu] (S 206) 0 0 := by
  have hx := c_X8_account l D ty o a b sn h t r sb hs lf S M n q hA ha sz nx ln cn ch le nu hM0 0 (by decide)
  rw [show acV (acF sz ln) S 0 = S 206 from rfl] at hx
  exact hx
theorem c_ac1 (l : Launch) (D : va_G) (ty : Nat → ClassId) (o : Nat) (a b sn h t : Nat → Nat) (r sb : Nat) (hs lf : Int32) (S M : pS) (n q : Nat) (hA : IA S n q) (ha : Nat → Nat → Nat) (sz nx ln cn : Int32) (ch le nu : Nat → Int32) (hM0 : M 0 = S 122) : Mi l yX8_account wsX8_account (kR 0 0 0 0) D (kTY ty) [.ref o, .int 1] [ppB o (a 0) (b 0) (sn 0) (h 0) r (t 0) sb hs lf, stB a S, lnB ty a S, quB ty a S, weB a S, miB ty a M, hiB ty h ha sz nx, txB ty t ln cn ch le nu] [ppB o (a 0) (b 0) (sn 0) (h 0) r (t 0) sb hs lf, stB a S, lnB ty a S, quB ty a S, weB a S, miB ty a M, hiB ty h ha sz nx, txB ty t ln cn ch le nu] (nI n) 0 0 := by
  have hx := c_X8_account l D ty o a b sn h t r sb hs lf S M n q hA ha sz nx ln cn ch le nu hM0 1 (by decide)
  rw [show acV (acF sz ln) S 1 = nI n from hA.1.1] at hx
  exact hx
theorem c_ac2 (l : Launch) (D : va_G) (ty : Nat → ClassId) (o : Nat) (a b sn h t : Nat → Nat) (r sb : Nat) (hs lf : Int32) (S M : pS) (n q : Nat) (hA : IA S n q) (ha : Nat → Nat → Nat) (sz nx ln cn : Int32) (ch le nu : Nat → Int32) (hM0 : M 0 = S 122) : Mi l yX8_account wsX8_account (kR 0 0 0 0) D (kTY ty) [.ref o, .int 2] [ppB o (a 0) (b 0) (sn 0) (h 0) r (t 0) sb hs lf, stB a S, lnB ty a S, quB ty a S, weB a S, miB ty a M, hiB ty h ha sz nx, txB ty t ln cn ch le nu] [ppB o (a 0) (b 0) (sn 0) (h 0) r (t 0) sb hs lf, stB a S, lnB ty a S, quB ty a S, weB a S, miB ty a M, hiB ty h ha sz nx, txB ty t ln cn ch le nu] (nI q) 0 0 := by
  have hx := c_X8_account l D ty o a b sn h t r sb hs lf S M n q hA ha sz nx ln cn ch le nu hM0 2 (by decide)
  rw [show acV (acF sz ln) S 2 = nI q from hA.1.2.2.1] at hx
  exact hx
theorem c_ac3 (l : Launch) (D : va_G) (ty : Nat → ClassId) (o : Nat) (a b sn h t : Nat → Nat) (r sb : Nat) (hs lf : Int32) (S M : pS) (n q : Nat) (hA : IA S n q) (ha : Nat → Nat → Nat) (sz nx ln cn : Int32) (ch le nu : Nat → Int32) (hM0 : M 0 = S 122) : Mi l yX8_account wsX8_account (kR 0 0 0 0) D (kTY ty) [.ref o, .int 3] [ppB o (a 0) (b 0) (sn 0) (h 0) r (t 0) sb hs lf, stB a S, lnB ty a S, quB ty a S, weB a S, miB ty a M, hiB ty h ha sz nx, txB ty t ln cn ch le nu] [ppB o (a 0) (b 0) (sn 0) (h 0) r (t 0) sb hs lf, stB a S, lnB ty a S, quB ty a S, weB a S, miB ty a M, hiB ty h ha sz nx, txB ty t ln cn ch le nu] (S 204) 0 0 := by
  have hx := c_X8_account l D ty o a b sn h t r sb hs lf S M n q hA ha sz nx ln cn ch le nu hM0 3 (by decide)
  rw [show acV (acF sz ln) S 3 = S 204 from rfl] at hx
  exact hx
theorem c_ac4 (l : Launch) (D : va_G) (ty : Nat → ClassId) (o : Nat) (a b sn h t : Nat → Nat) (r sb : Nat) (hs lf : Int32) (S M : pS) (n q : Nat) (hA : IA S n q) (ha : Nat → Nat → Nat) (sz nx ln cn : Int32) (ch le nu : Nat → Int32) (hM0 : M 0 = S 122) : Mi l yX8_account wsX8_account (kR 0 0 0 0) D (kTY ty) [.ref o, .int 4] [ppB o (a 0) (b 0) (sn 0) (h 0) r (t 0) sb hs lf, stB a S, lnB ty a S, quB ty a S, weB a S, miB ty a M, hiB ty h ha sz nx, txB ty t ln cn ch le nu] [ppB o (a 0) (b 0) (sn 0) (h 0) r (t 0) sb hs lf, stB a S, lnB ty a S, quB ty a S, weB a S, miB ty a M, hiB ty h ha sz nx, txB ty t ln cn ch le nu] (S 210) 0 0 := by
  have hx := c_X8_account l D ty o a b sn h t r sb hs lf S M n q hA ha sz nx ln cn ch le nu hM0 4 (by decide)
  rw [show acV (acF sz ln) S 4 = S 210 from rfl] at hx
  exact hx
theorem c_ac5 (l : Launch) (D : va_G) (ty : Nat → ClassId) (o : Nat) (a b sn h t : Nat → Nat) (r sb : Nat) (hs lf : Int32) (S M : pS) (n q : Nat) (hA : IA S n q) (ha : Nat → Nat → Nat) (sz nx ln cn : Int32) (ch le nu : Nat → Int32) (hM0 : M 0 = S 122) : Mi l yX8_account wsX8_account (kR 0 0 0 0) D (kTY ty) [.ref o, .int 5] [ppB o (a 0) (b 0) (sn 0) (h 0) r (t 0) sb hs lf, stB a S, lnB ty a S, quB ty a S, weB a S, miB ty a M, hiB ty h ha sz nx, txB ty t ln cn ch le nu] [ppB o (a 0) (b 0) (sn 0) (h 0) r (t 0) sb hs lf, stB a S, lnB ty a S, quB ty a S, weB a S, miB ty a M, hiB ty h ha sz nx, txB ty t ln cn ch le nu] (S 211) 0 0 := by
  have hx := c_X8_account l D ty o a b sn h t r sb hs lf S M n q hA ha sz nx ln cn ch le nu hM0 5 (by decide)
  rw [show acV (acF sz ln) S 5 = S 211 from rfl] at hx
  exact hx
theorem c_ac7 (l : Launch) (D : va_G) (ty : Nat → ClassId) (o : Nat) (a b sn h t : Nat → Nat) (r sb : Nat) (hs lf : Int32) (S M : pS) (n q : Nat) (hA : IA S n q) (ha : Nat → Nat → Nat) (sz nx ln cn : Int32) (ch le nu : Nat → Int32) (hM0 : M 0 = S 122) : Mi l yX8_account wsX8_account (kR 0 0 0 0) D (kTY ty) [.ref o, .int 7] [ppB o (a 0) (b 0) (sn 0) (h 0) r (t 0) sb hs lf, stB a S, lnB ty a S, quB ty a S, weB a S, miB ty a M, hiB ty h ha sz nx, txB ty t ln cn ch le nu] [ppB o (a 0) (b 0) (sn 0) (h 0) r (t 0) sb hs lf, stB a S, lnB ty a S, quB ty a S, weB a S, miB ty a M, hiB ty h ha sz nx, txB ty t ln cn ch le nu] (S 213) 0 0 := by
  have hx := c_X8_account l D ty o a b sn h t r sb hs lf S M n q hA ha sz nx ln cn ch le nu hM0 7 (by decide)
  rw [show acV (acF sz ln) S 7 = S 213 from rfl] at hx
  exact hx
theorem c_ac8 (l : Launch) (D : va_G) (ty : Nat → ClassId) (o : Nat) (a b sn h t : Nat → Nat) (r sb : Nat) (hs lf : Int32) (S M : pS) (n q : Nat) (hA : IA S n q) (ha : Nat → Nat → Nat) (sz nx ln cn : Int32) (ch le nu : Nat → Int32) (hM0 : M 0 = S 122) : Mi l yX8_account wsX8_account (kR 0 0 0 0) D (kTY ty) [.ref o, .int 8] [ppB o (a 0) (b 0) (sn 0) (h 0) r (t 0) sb hs lf, stB a S, lnB ty a S, quB ty a S, weB a S, miB ty a M, hiB ty h ha sz nx, txB ty t ln cn ch le nu] [ppB o (a 0) (b 0) (sn 0) (h 0) r (t 0) sb hs lf, stB a S, lnB ty a S, quB ty a S, weB a S, miB ty a M, hiB ty h ha sz nx, txB ty t ln cn ch le nu] (S 205) 0 0 := by
  have hx := c_X8_account l D ty o a b sn h t r sb hs lf S M n q hA ha sz nx ln cn ch le nu hM0 8 (by decide)
  rw [show acV (acF sz ln) S 8 = S 205 from rfl] at hx
  exact hx
theorem c_ac10 (l : Launch) (D : va_G) (ty : Nat → ClassId) (o : Nat) (a b sn h t : Nat → Nat) (r sb : Nat) (hs lf : Int32) (S M : pS) (n q : Nat) (hA : IA S n q) (ha : Nat → Nat → Nat) (sz nx ln cn : Int32) (ch le nu : Nat → Int32) (hM0 : M 0 = S 122) : Mi l yX8_account wsX8_account (kR 0 0 0 0) D (kTY ty) [.ref o, .int 10] [ppB o (a 0) (b 0) (sn 0) (h 0) r (t 0) sb hs lf, stB a S, lnB ty a S, quB ty a S, weB a S, miB ty a M, hiB ty h ha sz nx, txB ty t ln cn ch le nu] [ppB o (a 0) (b 0) (sn 0) (h 0) r (t 0) sb hs lf, stB a S, lnB ty a S, quB ty a S, weB a S, miB ty a M, hiB ty h ha sz nx, txB ty t ln cn ch le nu] (S 203) 0 0 := by
  have hx := c_X8_account l D ty o a b sn h t r sb hs lf S M n q hA ha sz nx ln cn ch le nu hM0 10 (by decide)
  rw [show acV (acF sz ln) S 10 = S 203 from rfl] at hx
  exact hx
theorem c_ac12 (l : Launch) (D : va_G) (ty : Nat → ClassId) (o : Nat) (a b sn h t : Nat → Nat) (r sb : Nat) (hs lf : Int32) (S M : pS) (n q : Nat) (hA : IA S n q) (ha : Nat → Nat → Nat) (sz nx ln cn : Int32) (ch le nu : Nat → Int32) (hM0 : M 0 = S 122) : Mi l yX8_account wsX8_account (kR 0 0 0 0) D (kTY ty) [.ref o, .int 12] [ppB o (a 0) (b 0) (sn 0) (h 0) r (t 0) sb hs lf, stB a S, lnB ty a S, quB ty a S, weB a S, miB ty a M, hiB ty h ha sz nx, txB ty t ln cn ch le nu] [ppB o (a 0) (b 0) (sn 0) (h 0) r (t 0) sb hs lf, stB a S, lnB ty a S, quB ty a S, weB a S, miB ty a M, hiB ty h ha sz nx, txB ty t ln cn ch le nu] (S 207) 0 0 := by
  have hx := c_X8_account l D ty o a b sn h t r sb hs lf S M n q hA ha sz nx ln cn ch le nu hM0 12 (by decide)
  rw [show acV (acF sz ln) S 12 = S 207 from rfl] at hx
  exact hx
theorem c_ac13 (l : Launch) (D : va_G) (ty : Nat → ClassId) (o : Nat) (a b sn h t : Nat → Nat) (r sb : Nat) (hs lf : Int32) (S M : pS) (n q : Nat) (hA : IA S n q) (ha : Nat → Nat → Nat) (sz nx ln cn : Int32) (ch le nu : Nat → Int32) (hM0 : M 0 = S 122) : Mi l yX8_account wsX8_account (kR 0 0 0 0) D (kTY ty) [.ref o, .int 13] [ppB o (a 0) (b 0) (sn 0) (h 0) r (t 0) sb hs lf, stB a S, lnB ty a S, quB ty a S, weB a S, miB ty a M, hiB ty h ha sz nx, txB ty t ln cn ch le nu] [ppB o (a 0) (b 0) (sn 0) (h 0) r (t 0) sb hs lf, stB a S, lnB ty a S, quB ty a S, weB a S, miB ty a M, hiB ty h ha sz nx, txB ty t ln cn ch le nu] (S 122) 0 0 := by
  have hx := c_X8_account l D ty o a b sn h t r sb hs lf S M n q hA ha sz nx ln cn ch le nu hM0 13 (by decide)
  rw [show acV (acF sz ln) S 13 = S 122 from rfl] at hx
  exact hx

theorem in_X8_possible_X8 : ∀ w ∈ wsX80, w ∈ wsX8_possible := by decide +kernel
theorem hdN_X8_possible : yX8_possible.cls ≠ "java/lang/invoke/MethodHandle" ∧ yX8_possible.cls ≠ "java/lang/invoke/VarHandle" ∧ (parseMethodDescriptor yX8_possible.desc).map (fun d => d.parameters.length) = some 0 := by decide +kernel
set_option maxRecDepth 100000 in
set_option maxHeartbeats 4000000 in
theorem c_X8_possible (l : Launch) (D : va_G) (ty : Nat → ClassId) (o : Nat) (a b sn h t : Nat → Nat) (r sb : Nat) (hs lf : Int32) (S M : pS) (n q : Nat) (hA : IA S n q)  : Mi l yX8_possible wsX8_possible (kR 4 87 0 0) D (kTY ty) [.ref o] [ppB o (a 0) (b 0) (sn 0) (h 0) r (t 0) sb hs lf, stB a S, lnB ty a S, quB ty a S, weB a S, miB ty a M] [ppB o (a 0) (b 0) (sn 0) (h 0) r (t 0) sb hs lf, stB a S, lnB ty a S, quB ty a S, weB a S, miB ty a M] (pAll S q) 0 0 := by
  refine m_i (cc := cX8_possible) (maxL := 1) (ret := (some .int)) (by decide +kernel) rfl (Nat.le_of_ble_eq_true rfl) ?_
  intro p e s m below meth c A ls hx hb hml hr hlocks hown hts w hl
  have hown : s.vm.findClass RX8 = some m.cls := hown
  have hl : lv_has ls 1 [(0, .ref o)] := hl
  have hI := hA.1
  obtain ⟨h0, hn, h1, hq, he, hd, hdr, hwr⟩ := id hI
  refine lv_aload_n hx hb dX8_possible_0 rfl (lv_at hl 0 rfl) ?_
  refine r_get (v' := .ref (a 0)) hx hb hts in_X8_possible_X8 hown w 0 0 rfl rfl (ci := 12) rfl 0 (by decide) (hts _ (List.mem_of_getElem? (i := 1) rfl)) rfl rfl rfl dX8_possible_1 ?_
  refine k_iVN (As := []) (rest := []) (Rs := [ppB o (a 0) (b 0) (sn 0) (h 0) r (t 0) sb hs lf]) (Bs' := [ppB o (a 0) (b 0) (sn 0) (h 0) r (t 0) sb hs lf, stB a S, lnB ty a S, quB ty a S, weB a S, miB ty a M]) ⟨hx, hb, hml, hown, hts⟩ w (c_X6_drawsInQueue l D ty a S M n q (hI)) ⟨va_cnB 0 hts gX8_possible_X6_drawsInQueue_n242 rfl rfl rfl (w.2.2.2.2.2 _ (List.mem_of_getElem? (i := 94) rfl)) (hts _ (List.mem_of_getElem? (i := 3) rfl)) hdN_X6_drawsInQueue ⟨Nat.le_of_ble_eq_true rfl, Nat.le_of_ble_eq_true rfl⟩, (hts _ (List.mem_of_getElem? (i := 2) rfl)), (hts _ (List.mem_of_getElem? (i := 4) rfl))⟩ [1, 2, 3, 4, 5, 0] (nB := 6) (by decide) rfl rfl rfl rfl 1 rfl rfl (ci := 10) rfl rfl rfl hl.1 rfl (Nat.le_of_ble_eq_true rfl) dX8_possible_4 ⟨(Nat.zero_le _), (Nat.zero_le _)⟩ (fun H locs w => ?_)
  exact e_i hx hb hr hlocks w rfl dX8_possible_7 (Nat.le_refl _) (Nat.le_refl _)

theorem in_X8_water_X6 : ∀ w ∈ wsX60, w ∈ wsX8_water := by decide +kernel
theorem in_X8_water_X7 : ∀ w ∈ wsX70, w ∈ wsX8_water := by decide +kernel
theorem in_X8_water_X8 : ∀ w ∈ wsX80, w ∈ wsX8_water := by decide +kernel
theorem hdN_X8_water : yX8_water.cls ≠ "java/lang/invoke/MethodHandle" ∧ yX8_water.cls ≠ "java/lang/invoke/VarHandle" ∧ (parseMethodDescriptor yX8_water.desc).map (fun d => d.parameters.length) = some 0 := by decide +kernel
set_option maxRecDepth 100000 in
set_option maxHeartbeats 4000000 in
theorem c_X8_water (l : Launch) (D : va_G) (ty : Nat → ClassId) (o : Nat) (a b sn h t : Nat → Nat) (r sb : Nat) (hs lf : Int32) (S M : pS) (n q : Nat) (hA : IA S n q)  : Mi l yX8_water wsX8_water (kR 0 0 0 0) D (kTY ty) [.ref o] [ppB o (a 0) (b 0) (sn 0) (h 0) r (t 0) sb hs lf, stB a S, lnB ty a S, quB ty a S, weB a S, miB ty a M] [ppB o (a 0) (b 0) (sn 0) (h 0) r (t 0) sb hs lf, stB a S, lnB ty a S, quB ty a S, weB a S, miB ty a M] (S 204 + S 210 + S 211) 0 0 := by
  refine m_i (cc := cX8_water) (maxL := 1) (ret := (some .int)) (by decide +kernel) rfl (Nat.le_of_ble_eq_true rfl) ?_
  intro p e s m below meth c A ls hx hb hml hr hlocks hown hts w hl
  have hown : s.vm.findClass RX8 = some m.cls := hown
  have hl : lv_has ls 1 [(0, .ref o)] := hl
  have hI := hA.1
  obtain ⟨h0, hn, h1, hq, he, hd, hdr, hwr⟩ := id hI
  refine lv_aload_n hx hb dX8_water_0 rfl (lv_at hl 0 rfl) ?_
  refine r_get (v' := .ref (a 0)) hx hb hts in_X8_water_X8 hown w 0 0 rfl rfl (ci := 12) rfl 0 (by decide) (hts _ (List.mem_of_getElem? (i := 1) rfl)) rfl rfl rfl dX8_water_1 ?_
  refine r_getN (v' := .ref (a 19)) hx hb hts in_X8_water_X6 hown w 1 0 rfl rfl (ci := 10) rfl 2 (by decide) (w.2.2.2.2.2 _ (List.mem_of_getElem? (i := 35) rfl)) rfl rfl rfl dX8_water_4 ?_
  refine r_getN (v' := .int (S 204)) hx hb hts in_X8_water_X7 hown w 4 0 rfl rfl (ci := 11) rfl 0 (by decide) (w.2.2.2.2.2 _ (List.mem_of_getElem? (i := 22) rfl)) rfl rfl rfl dX8_water_7 ?_
  refine lv_aload_n hx hb dX8_water_10 rfl (lv_at hl 0 rfl) ?_
  refine r_get (v' := .ref (a 0)) hx hb hts in_X8_water_X8 hown w 0 0 rfl rfl (ci := 12) rfl 0 (by decide) (hts _ (List.mem_of_getElem? (i := 1) rfl)) rfl rfl rfl dX8_water_11 ?_
  refine r_getN (v' := .ref (a 19)) hx hb hts in_X8_water_X6 hown w 1 0 rfl rfl (ci := 10) rfl 2 (by decide) (w.2.2.2.2.2 _ (List.mem_of_getElem? (i := 35) rfl)) rfl rfl rfl dX8_water_14 ?_
  refine r_getN (v' := .int (S 210)) hx hb hts in_X8_water_X7 hown w 4 0 rfl rfl (ci := 11) rfl 1 (by decide) (w.2.2.2.2.2 _ (List.mem_of_getElem? (i := 23) rfl)) rfl rfl rfl dX8_water_17 ?_
  refine lv_iadd hx hb dX8_water_20 ?_
  refine lv_aload_n hx hb dX8_water_21 rfl (lv_at hl 0 rfl) ?_
  refine r_get (v' := .ref (a 0)) hx hb hts in_X8_water_X8 hown w 0 0 rfl rfl (ci := 12) rfl 0 (by decide) (hts _ (List.mem_of_getElem? (i := 1) rfl)) rfl rfl rfl dX8_water_22 ?_
  refine r_getN (v' := .ref (a 19)) hx hb hts in_X8_water_X6 hown w 1 0 rfl rfl (ci := 10) rfl 2 (by decide) (w.2.2.2.2.2 _ (List.mem_of_getElem? (i := 35) rfl)) rfl rfl rfl dX8_water_25 ?_
  refine r_getN (v' := .int (S 211)) hx hb hts in_X8_water_X7 hown w 4 0 rfl rfl (ci := 11) rfl 2 (by decide) (w.2.2.2.2.2 _ (List.mem_of_getElem? (i := 24) rfl)) rfl rfl rfl dX8_water_28 ?_
  refine lv_iadd hx hb dX8_water_31 ?_
  exact e_i hx hb hr hlocks w rfl dX8_water_32 (Nat.le_refl _) (Nat.le_refl _)

theorem in_X8_waterAgain_X6 : ∀ w ∈ wsX60, w ∈ wsX8_waterAgain := by decide +kernel
theorem in_X8_waterAgain_X7 : ∀ w ∈ wsX70, w ∈ wsX8_waterAgain := by decide +kernel
theorem in_X8_waterAgain_X8 : ∀ w ∈ wsX80, w ∈ wsX8_waterAgain := by decide +kernel
theorem hdN_X8_waterAgain : yX8_waterAgain.cls ≠ "java/lang/invoke/MethodHandle" ∧ yX8_waterAgain.cls ≠ "java/lang/invoke/VarHandle" ∧ (parseMethodDescriptor yX8_waterAgain.desc).map (fun d => d.parameters.length) = some 0 := by decide +kernel
set_option maxRecDepth 100000 in
set_option maxHeartbeats 4000000 in
theorem c_X8_waterAgain (l : Launch) (D : va_G) (ty : Nat → ClassId) (o : Nat) (a b sn h t : Nat → Nat) (r sb : Nat) (hs lf : Int32) (S M : pS) (n q : Nat) (hA : IA S n q)  : Mi l yX8_waterAgain wsX8_waterAgain (kR 0 0 0 0) D (kTY ty) [.ref o] [ppB o (a 0) (b 0) (sn 0) (h 0) r (t 0) sb hs lf, stB a S, lnB ty a S, quB ty a S, weB a S, miB ty a M] [ppB o (a 0) (b 0) (sn 0) (h 0) r (t 0) sb hs lf, stB a S, lnB ty a S, quB ty a S, weB a S, miB ty a M] (500 + S 214) 0 0 := by
  refine m_i (cc := cX8_waterAgain) (maxL := 1) (ret := (some .int)) (by decide +kernel) rfl (Nat.le_of_ble_eq_true rfl) ?_
  intro p e s m below meth c A ls hx hb hml hr hlocks hown hts w hl
  have hown : s.vm.findClass RX8 = some m.cls := hown
  have hl : lv_has ls 1 [(0, .ref o)] := hl
  have hI := hA.1
  obtain ⟨h0, hn, h1, hq, he, hd, hdr, hwr⟩ := id hI
  refine lv_sipush (v := 500) hx hb dX8_waterAgain_0 (by decide) ?_
  refine lv_aload_n hx hb dX8_waterAgain_3 rfl (lv_at hl 0 rfl) ?_
  refine r_get (v' := .ref (a 0)) hx hb hts in_X8_waterAgain_X8 hown w 0 0 rfl rfl (ci := 12) rfl 0 (by decide) (hts _ (List.mem_of_getElem? (i := 1) rfl)) rfl rfl rfl dX8_waterAgain_4 ?_
  refine r_getN (v' := .ref (a 19)) hx hb hts in_X8_waterAgain_X6 hown w 1 0 rfl rfl (ci := 10) rfl 2 (by decide) (w.2.2.2.2.2 _ (List.mem_of_getElem? (i := 35) rfl)) rfl rfl rfl dX8_waterAgain_7 ?_
  refine r_getN (v' := .int (S 214)) hx hb hts in_X8_waterAgain_X7 hown w 4 0 rfl rfl (ci := 11) rfl 3 (by decide) (w.2.2.2.2.2 _ (List.mem_of_getElem? (i := 25) rfl)) rfl rfl rfl dX8_waterAgain_10 ?_
  refine lv_iadd hx hb dX8_waterAgain_13 ?_
  exact e_i hx hb hr hlocks w rfl dX8_waterAgain_14 (Nat.le_refl _) (Nat.le_refl _)

theorem in_X8_rain_X6 : ∀ w ∈ wsX60, w ∈ wsX8_rain := by decide +kernel
theorem in_X8_rain_X8 : ∀ w ∈ wsX80, w ∈ wsX8_rain := by decide +kernel
theorem hdN_X8_rain : yX8_rain.cls ≠ "java/lang/invoke/MethodHandle" ∧ yX8_rain.cls ≠ "java/lang/invoke/VarHandle" ∧ (parseMethodDescriptor yX8_rain.desc).map (fun d => d.parameters.length) = some 1 := by decide +kernel
set_option maxRecDepth 100000 in
set_option maxHeartbeats 4000000 in
theorem c_X8_rain (l : Launch) (D : va_G) (ty : Nat → ClassId) (o : Nat) (a b sn h t : Nat → Nat) (ha : Nat → Nat → Nat) (HX : Nat → pX) (r sb : Nat) (hs lf f0 f1 f2 f3 sz : Int32) (nx : Nat) (hnx : nx < 8) (S M : pS) (B : Nat) (hB : B < 10 ^ 7) (hV : IV B (S, M)) (v : Int32) (hW : (wRain v).1 = 0)  : Mi l yX8_rain wsX8_rain (kR 4 84 0 0) D (kTY ty) [.ref o, .int v] [ppB o (a 0) (b 0) (sn 0) (h 0) r (t 0) sb hs lf, rfB r f0 f1 f2 f3, stB a S, lnB ty a S, quB ty a S, weB a S, miB ty a M, hiB ty h ha sz (nI nx), stF ty (ha 0) (HX 0), stF ty (ha 1) (HX 1), stF ty (ha 2) (HX 2), stF ty (ha 3) (HX 3), stF ty (ha 4) (HX 4), stF ty (ha 5) (HX 5), stF ty (ha 6) (HX 6), stF ty (ha 7) (HX 7)] [ppB o (a 0) (b 0) (sn 0) (h 0) r (t 0) sb hs lf, rfW r (wRain v) f0 f1 f2 f3, stB a (upd S 208 v), lnB ty a (upd S 208 v), quB ty a (upd S 208 v), weB a (upd S 208 v), miB ty a M, hiB ty h ha (jmin 8 (sz + 1)) (nI ((nx + 1) % 8)), stF ty (ha 0) (va_up HX nx (S, M) 0), stF ty (ha 1) (va_up HX nx (S, M) 1), stF ty (ha 2) (va_up HX nx (S, M) 2), stF ty (ha 3) (va_up HX nx (S, M) 3), stF ty (ha 4) (va_up HX nx (S, M) 4), stF ty (ha 5) (va_up HX nx (S, M) 5), stF ty (ha 6) (va_up HX nx (S, M) 6), stF ty (ha 7) (va_up HX nx (S, M) 7)] (S 208) 0 0 := by
  refine m_i (cc := cX8_rain) (maxL := 2) (ret := (some .int)) (by decide +kernel) rfl (Nat.le_of_ble_eq_true rfl) ?_
  intro p e s m below meth c A ls hx hb hml hr hlocks hown hts w hl
  have hown : s.vm.findClass RX8 = some m.cls := hown
  have hl : lv_has ls 2 [(0, .ref o), (1, .int v)] := hl
  obtain ⟨⟨n, q, hA⟩, hMM⟩ := id hV
  have hA : IA S n q := hA
  have hI := hA.1
  have hn := hI.2.1
  have hdr := hI.2.2.2.2.2.2.1
  obtain ⟨cc0, x, hmr, hmrow⟩ := id hMM.1
  have hM : mOK M x := ⟨hmr.2.2.2.2.1, hmr.2.1⟩
  have hcn0 : cN (S 0) = n := by rw [hI.1, cN_nI (by omega)]
  have hcn1 : cN (S 49) = q := by rw [hI.2.2.1, cN_nI (by have := hI.2.2.2.1; omega)]
  refine lv_aload_n hx hb dX8_rain_0 rfl (lv_at hl 0 rfl) ?_
  refine r_get (v' := .ref (a 0)) hx hb hts in_X8_rain_X8 hown w 0 0 rfl rfl (ci := 12) rfl 0 (by decide) (hts _ (List.mem_of_getElem? (i := 3) rfl)) rfl rfl rfl dX8_rain_1 ?_
  refine lv_iload_n hx hb dX8_rain_4 rfl (lv_at hl 1 rfl) ?_
  refine lv_aload_n hx hb dX8_rain_5 rfl (lv_at hl 0 rfl) ?_
  refine r_get (v' := .ref r) hx hb hts in_X8_rain_X8 hown w 0 0 rfl rfl (ci := 12) rfl 5 (by decide) (hts _ (List.mem_of_getElem? (i := 4) rfl)) rfl rfl rfl dX8_rain_6 ?_
  refine k_iVN (As := [.int v, .ref r]) (rest := []) (Rs := [ppB o (a 0) (b 0) (sn 0) (h 0) r (t 0) sb hs lf, hiB ty h ha sz (nI nx), stF ty (ha 0) (HX 0), stF ty (ha 1) (HX 1), stF ty (ha 2) (HX 2), stF ty (ha 3) (HX 3), stF ty (ha 4) (HX 4), stF ty (ha 5) (HX 5), stF ty (ha 6) (HX 6), stF ty (ha 7) (HX 7)]) (Bs' := [ppB o (a 0) (b 0) (sn 0) (h 0) r (t 0) sb hs lf, rfW r (wRain v) f0 f1 f2 f3, stB a S, lnB ty a S, quB ty a S, weB a S, miB ty a M, hiB ty h ha sz (nI nx), stF ty (ha 0) (HX 0), stF ty (ha 1) (HX 1), stF ty (ha 2) (HX 2), stF ty (ha 3) (HX 3), stF ty (ha 4) (HX 4), stF ty (ha 5) (HX 5), stF ty (ha 6) (HX 6), stF ty (ha 7) (HX 7)]) ⟨hx, hb, hml, hown, hts⟩ w (c_X6_refusesRain l D ty a S M n q (hI) r f0 f1 f2 f3 v) ⟨va_cnB 2 hts gX8_rain_X6_refusesRain_n115 rfl rfl rfl (w.2.2.2.2.2 _ (List.mem_of_getElem? (i := 46) rfl)) (hts _ (List.mem_of_getElem? (i := 7) rfl)) hdN_X6_refusesRain ⟨Nat.le_of_ble_eq_true rfl, Nat.le_of_ble_eq_true rfl⟩, (hts _ (List.mem_of_getElem? (i := 6) rfl)), (hts _ (List.mem_of_getElem? (i := 8) rfl))⟩ [2, 3, 4, 5, 6, 1, 0, 7, 8, 9, 10, 11, 12, 13, 14, 15] (nB := 16) (by decide) rfl rfl rfl rfl 2 rfl rfl (ci := 10) rfl rfl rfl hl.1 rfl (Nat.le_of_ble_eq_true rfl) dX8_rain_9 ⟨(Nat.zero_le _), (Nat.zero_le _)⟩ (fun H locs w => ?_)
  refine lv_if_eq (tgt := 25) hx hb dX8_rain_12 (by decide) (fun c12 => ?_) (fun c12 => ?_)
  · have c12 := bI_0.mp c12
    refine lv_aload_n hx hb dX8_rain_25 rfl (lv_at hl 0 rfl) ?_
    refine r_get (v' := .ref (h 0)) hx hb hts in_X8_rain_X8 hown w 0 0 rfl rfl (ci := 12) rfl 4 (by decide) (hts _ (List.mem_of_getElem? (i := 5) rfl)) rfl rfl rfl dX8_rain_26 ?_
    refine lv_aload_n hx hb dX8_rain_29 rfl (lv_at hl 0 rfl) ?_
    refine r_get (v' := .ref (a 0)) hx hb hts in_X8_rain_X8 hown w 0 0 rfl rfl (ci := 12) rfl 0 (by decide) (hts _ (List.mem_of_getElem? (i := 3) rfl)) rfl rfl rfl dX8_rain_30 ?_
    refine k_vVN (As := [.ref (a 0)]) (rest := []) (Rs := [ppB o (a 0) (b 0) (sn 0) (h 0) r (t 0) sb hs lf, rfW r (wRain v) f0 f1 f2 f3]) (Bs' := [ppB o (a 0) (b 0) (sn 0) (h 0) r (t 0) sb hs lf, rfW r (wRain v) f0 f1 f2 f3, stB a S, lnB ty a S, quB ty a S, weB a S, miB ty a M, hiB ty h ha (jmin 8 (sz + 1)) (nI ((nx + 1) % 8)), stF ty (ha 0) (va_up HX nx (S, M) 0), stF ty (ha 1) (va_up HX nx (S, M) 1), stF ty (ha 2) (va_up HX nx (S, M) 2), stF ty (ha 3) (va_up HX nx (S, M) 3), stF ty (ha 4) (va_up HX nx (S, M) 4), stF ty (ha 5) (va_up HX nx (S, M) 5), stF ty (ha 6) (va_up HX nx (S, M) 6), stF ty (ha 7) (va_up HX nx (S, M) 7)]) ⟨hx, hb, hml, hown, hts⟩ w (c_X1_keep l D ty h ha HX sz nx hnx a S M hdr) ⟨va_cnB 1 hts gX8_rain_X1_keep_n65 rfl rfl rfl (w.2.2.2.2.2 _ (List.mem_of_getElem? (i := 49) rfl)) (hts _ (List.mem_of_getElem? (i := 22) rfl)) hdN_X1_keep ⟨Nat.le_of_ble_eq_true rfl, Nat.le_of_ble_eq_true rfl⟩, (hts _ (List.mem_of_getElem? (i := 21) rfl)), (hts _ (List.mem_of_getElem? (i := 23) rfl))⟩ [7, 8, 9, 10, 11, 12, 13, 14, 15, 2, 3, 4, 5, 6, 0, 1] (nB := 16) (by decide) rfl rfl rfl rfl 7 rfl rfl (ci := 5) rfl rfl rfl hl.1 rfl (Nat.le_of_ble_eq_true rfl) dX8_rain_33 ⟨(Nat.zero_le _), (Nat.zero_le _)⟩ (fun H locs w => ?_)
    refine lv_aload_n hx hb dX8_rain_36 rfl (lv_at hl 0 rfl) ?_
    refine r_get (v' := .ref (a 0)) hx hb hts in_X8_rain_X8 hown w 0 0 rfl rfl (ci := 12) rfl 0 (by decide) (hts _ (List.mem_of_getElem? (i := 3) rfl)) rfl rfl rfl dX8_rain_37 ?_
    refine r_getN (v' := .ref (a 19)) hx hb hts in_X8_rain_X6 hown w 2 0 rfl rfl (ci := 10) rfl 2 (by decide) (w.2.2.2.2.2 _ (List.mem_of_getElem? (i := 35) rfl)) rfl rfl rfl dX8_rain_40 ?_
    refine lv_iload_n hx hb dX8_rain_43 rfl (lv_at hl 1 rfl) ?_
    refine k_iVN (As := [.int v]) (rest := []) (Rs := [ppB o (a 0) (b 0) (sn 0) (h 0) r (t 0) sb hs lf, rfW r (wRain v) f0 f1 f2 f3, stB a S, lnB ty a S, quB ty a S, miB ty a M, hiB ty h ha (jmin 8 (sz + 1)) (nI ((nx + 1) % 8)), stF ty (ha 0) (va_up HX nx (S, M) 0), stF ty (ha 1) (va_up HX nx (S, M) 1), stF ty (ha 2) (va_up HX nx (S, M) 2), stF ty (ha 3) (va_up HX nx (S, M) 3), stF ty (ha 4) (va_up HX nx (S, M) 4), stF ty (ha 5) (va_up HX nx (S, M) 5), stF ty (ha 6) (va_up HX nx (S, M) 6), stF ty (ha 7) (va_up HX nx (S, M) 7)]) (Bs' := [ppB o (a 0) (b 0) (sn 0) (h 0) r (t 0) sb hs lf, rfW r (wRain v) f0 f1 f2 f3, stB a S, lnB ty a S, quB ty a S, weB a (upd S 208 v), miB ty a M, hiB ty h ha (jmin 8 (sz + 1)) (nI ((nx + 1) % 8)), stF ty (ha 0) (va_up HX nx (S, M) 0), stF ty (ha 1) (va_up HX nx (S, M) 1), stF ty (ha 2) (va_up HX nx (S, M) 2), stF ty (ha 3) (va_up HX nx (S, M) 3), stF ty (ha 4) (va_up HX nx (S, M) 4), stF ty (ha 5) (va_up HX nx (S, M) 5), stF ty (ha 6) (va_up HX nx (S, M) 6), stF ty (ha 7) (va_up HX nx (S, M) 7)]) ⟨hx, hb, hml, hown, hts⟩ w (c_X7_changeRain l D ty a S v) ⟨va_cnB 1 hts gX8_rain_X7_changeRain_n124 rfl rfl rfl (w.2.2.2.2.2 _ (List.mem_of_getElem? (i := 55) rfl)) (hts _ (List.mem_of_getElem? (i := 67) rfl)) hdN_X7_changeRain ⟨Nat.le_of_ble_eq_true rfl, Nat.le_of_ble_eq_true rfl⟩, (hts _ (List.mem_of_getElem? (i := 89) rfl)), (hts _ (List.mem_of_getElem? (i := 90) rfl))⟩ [5, 0, 1, 2, 3, 4, 6, 7, 8, 9, 10, 11, 12, 13, 14, 15] (nB := 16) (by decide) rfl rfl rfl rfl 5 rfl rfl (ci := 11) rfl rfl rfl hl.1 rfl (Nat.le_of_ble_eq_true rfl) dX8_rain_44 ⟨(Nat.zero_le _), (Nat.zero_le _)⟩ (fun H locs w => ?_)
    exact e_i hx hb hr hlocks (w.cast (h10 rain_w5)) rfl dX8_rain_47 (Nat.le_refl _) (Nat.le_refl _)
  · have c12 := bI_1.mp c12
    exact absurd hW (wB_nz c12)

theorem in_X8_household_X6 : ∀ w ∈ wsX60, w ∈ wsX8_household := by decide +kernel
theorem in_X8_household_X8 : ∀ w ∈ wsX80, w ∈ wsX8_household := by decide +kernel
theorem hdN_X8_household : yX8_household.cls ≠ "java/lang/invoke/MethodHandle" ∧ yX8_household.cls ≠ "java/lang/invoke/VarHandle" ∧ (parseMethodDescriptor yX8_household.desc).map (fun d => d.parameters.length) = some 3 := by decide +kernel
set_option maxRecDepth 100000 in
set_option maxHeartbeats 4000000 in
theorem c_X8_household (l : Launch) (D : va_G) (ty : Nat → ClassId) (o : Nat) (a b sn h t : Nat → Nat) (ha : Nat → Nat → Nat) (HX : Nat → pX) (r sb : Nat) (hs lf f0 f1 f2 f3 sz : Int32) (nx : Nat) (hnx : nx < 8) (S M : pS) (B : Nat) (hB : B < 10 ^ 7) (hV : IV B (S, M)) (v y z : Int32) (hW : (wHouse S v y z).1 = 0)  : Mi l yX8_household wsX8_household (kR 4 84 0 0) D (kTY ty) [.ref o, .int v, .int y, .int z] [ppB o (a 0) (b 0) (sn 0) (h 0) r (t 0) sb hs lf, rfB r f0 f1 f2 f3, stB a S, lnB ty a S, quB ty a S, weB a S, miB ty a M, hiB ty h ha sz (nI nx), stF ty (ha 0) (HX 0), stF ty (ha 1) (HX 1), stF ty (ha 2) (HX 2), stF ty (ha 3) (HX 3), stF ty (ha 4) (HX 4), stF ty (ha 5) (HX 5), stF ty (ha 6) (HX 6), stF ty (ha 7) (HX 7)] [ppB o (a 0) (b 0) (sn 0) (h 0) r (t 0) sb hs lf, rfW r (wHouse S v y z) f0 f1 f2 f3, stB a (sHouse S (cN (S 0)) v y z), lnB ty a (sHouse S (cN (S 0)) v y z), quB ty a (sHouse S (cN (S 0)) v y z), weB a (sHouse S (cN (S 0)) v y z), miB ty a M, hiB ty h ha (jmin 8 (sz + 1)) (nI ((nx + 1) % 8)), stF ty (ha 0) (va_up HX nx (S, M) 0), stF ty (ha 1) (va_up HX nx (S, M) 1), stF ty (ha 2) (va_up HX nx (S, M) 2), stF ty (ha 3) (va_up HX nx (S, M) 3), stF ty (ha 4) (va_up HX nx (S, M) 4), stF ty (ha 5) (va_up HX nx (S, M) 5), stF ty (ha 6) (va_up HX nx (S, M) 6), stF ty (ha 7) (va_up HX nx (S, M) 7)] (S 0) 0 0 := by
  refine m_i (cc := cX8_household) (maxL := 4) (ret := (some .int)) (by decide +kernel) rfl (Nat.le_of_ble_eq_true rfl) ?_
  intro p e s m below meth c A ls hx hb hml hr hlocks hown hts w hl
  have hown : s.vm.findClass RX8 = some m.cls := hown
  have hl : lv_has ls 4 [(0, .ref o), (1, .int v), (2, .int y), (3, .int z)] := hl
  obtain ⟨⟨n, q, hA⟩, hMM⟩ := id hV
  have hA : IA S n q := hA
  have hI := hA.1
  have hn := hI.2.1
  have hdr := hI.2.2.2.2.2.2.1
  obtain ⟨cc0, x, hmr, hmrow⟩ := id hMM.1
  have hM : mOK M x := ⟨hmr.2.2.2.2.1, hmr.2.1⟩
  have hcn0 : cN (S 0) = n := by rw [hI.1, cN_nI (by omega)]
  have hcn1 : cN (S 49) = q := by rw [hI.2.2.1, cN_nI (by have := hI.2.2.2.1; omega)]
  refine lv_aload_n hx hb dX8_household_0 rfl (lv_at hl 0 rfl) ?_
  refine r_get (v' := .ref (a 0)) hx hb hts in_X8_household_X8 hown w 0 0 rfl rfl (ci := 12) rfl 0 (by decide) (hts _ (List.mem_of_getElem? (i := 3) rfl)) rfl rfl rfl dX8_household_1 ?_
  refine lv_iload_n hx hb dX8_household_4 rfl (lv_at hl 1 rfl) ?_
  refine lv_iload_n hx hb dX8_household_5 rfl (lv_at hl 2 rfl) ?_
  refine lv_iload_n hx hb dX8_household_6 rfl (lv_at hl 3 rfl) ?_
  refine lv_aload_n hx hb dX8_household_7 rfl (lv_at hl 0 rfl) ?_
  refine r_get (v' := .ref r) hx hb hts in_X8_household_X8 hown w 0 0 rfl rfl (ci := 12) rfl 5 (by decide) (hts _ (List.mem_of_getElem? (i := 4) rfl)) rfl rfl rfl dX8_household_8 ?_
  refine k_iVN (As := [.int v, .int y, .int z, .ref r]) (rest := []) (Rs := [ppB o (a 0) (b 0) (sn 0) (h 0) r (t 0) sb hs lf, hiB ty h ha sz (nI nx), stF ty (ha 0) (HX 0), stF ty (ha 1) (HX 1), stF ty (ha 2) (HX 2), stF ty (ha 3) (HX 3), stF ty (ha 4) (HX 4), stF ty (ha 5) (HX 5), stF ty (ha 6) (HX 6), stF ty (ha 7) (HX 7)]) (Bs' := [ppB o (a 0) (b 0) (sn 0) (h 0) r (t 0) sb hs lf, rfW r (wHouse S v y z) f0 f1 f2 f3, stB a S, lnB ty a S, quB ty a S, weB a S, miB ty a M, hiB ty h ha sz (nI nx), stF ty (ha 0) (HX 0), stF ty (ha 1) (HX 1), stF ty (ha 2) (HX 2), stF ty (ha 3) (HX 3), stF ty (ha 4) (HX 4), stF ty (ha 5) (HX 5), stF ty (ha 6) (HX 6), stF ty (ha 7) (HX 7)]) ⟨hx, hb, hml, hown, hts⟩ w (c_X6_refusesHousehold l D ty a S M n q (hI) r f0 f1 f2 f3 v y z) ⟨va_cnB 4 hts gX8_household_X6_refusesHousehold_n54 rfl rfl rfl (w.2.2.2.2.2 _ (List.mem_of_getElem? (i := 56) rfl)) (hts _ (List.mem_of_getElem? (i := 7) rfl)) hdN_X6_refusesHousehold ⟨Nat.le_of_ble_eq_true rfl, Nat.le_of_ble_eq_true rfl⟩, (hts _ (List.mem_of_getElem? (i := 6) rfl)), (hts _ (List.mem_of_getElem? (i := 8) rfl))⟩ [2, 3, 4, 5, 6, 1, 0, 7, 8, 9, 10, 11, 12, 13, 14, 15] (nB := 16) (by decide) rfl rfl rfl rfl 2 rfl rfl (ci := 10) rfl rfl rfl hl.1 rfl (Nat.le_of_ble_eq_true rfl) dX8_household_11 ⟨(Nat.zero_le _), (Nat.zero_le _)⟩ (fun H locs w => ?_)
  refine lv_if_eq (tgt := 27) hx hb dX8_household_14 (by decide) (fun c14 => ?_) (fun c14 => ?_)
  · have c14 := bI_0.mp c14
    have hn8 := ho_n hI.1 hn hW
    refine lv_aload_n hx hb dX8_household_27 rfl (lv_at hl 0 rfl) ?_
    refine r_get (v' := .ref (h 0)) hx hb hts in_X8_household_X8 hown w 0 0 rfl rfl (ci := 12) rfl 4 (by decide) (hts _ (List.mem_of_getElem? (i := 5) rfl)) rfl rfl rfl dX8_household_28 ?_
    refine lv_aload_n hx hb dX8_household_31 rfl (lv_at hl 0 rfl) ?_
    refine r_get (v' := .ref (a 0)) hx hb hts in_X8_household_X8 hown w 0 0 rfl rfl (ci := 12) rfl 0 (by decide) (hts _ (List.mem_of_getElem? (i := 3) rfl)) rfl rfl rfl dX8_household_32 ?_
    refine k_vVN (As := [.ref (a 0)]) (rest := []) (Rs := [ppB o (a 0) (b 0) (sn 0) (h 0) r (t 0) sb hs lf, rfW r (wHouse S v y z) f0 f1 f2 f3]) (Bs' := [ppB o (a 0) (b 0) (sn 0) (h 0) r (t 0) sb hs lf, rfW r (wHouse S v y z) f0 f1 f2 f3, stB a S, lnB ty a S, quB ty a S, weB a S, miB ty a M, hiB ty h ha (jmin 8 (sz + 1)) (nI ((nx + 1) % 8)), stF ty (ha 0) (va_up HX nx (S, M) 0), stF ty (ha 1) (va_up HX nx (S, M) 1), stF ty (ha 2) (va_up HX nx (S, M) 2), stF ty (ha 3) (va_up HX nx (S, M) 3), stF ty (ha 4) (va_up HX nx (S, M) 4), stF ty (ha 5) (va_up HX nx (S, M) 5), stF ty (ha 6) (va_up HX nx (S, M) 6), stF ty (ha 7) (va_up HX nx (S, M) 7)]) ⟨hx, hb, hml, hown, hts⟩ w (c_X1_keep l D ty h ha HX sz nx hnx a S M hdr) ⟨va_cnB 1 hts gX8_household_X1_keep_n65 rfl rfl rfl (w.2.2.2.2.2 _ (List.mem_of_getElem? (i := 49) rfl)) (hts _ (List.mem_of_getElem? (i := 23) rfl)) hdN_X1_keep ⟨Nat.le_of_ble_eq_true rfl, Nat.le_of_ble_eq_true rfl⟩, (hts _ (List.mem_of_getElem? (i := 22) rfl)), (hts _ (List.mem_of_getElem? (i := 24) rfl))⟩ [7, 8, 9, 10, 11, 12, 13, 14, 15, 2, 3, 4, 5, 6, 0, 1] (nB := 16) (by decide) rfl rfl rfl rfl 7 rfl rfl (ci := 5) rfl rfl rfl hl.1 rfl (Nat.le_of_ble_eq_true rfl) dX8_household_35 ⟨(Nat.zero_le _), (Nat.zero_le _)⟩ (fun H locs w => ?_)
    refine lv_aload_n hx hb dX8_household_38 rfl (lv_at hl 0 rfl) ?_
    refine r_get (v' := .ref (a 0)) hx hb hts in_X8_household_X8 hown w 0 0 rfl rfl (ci := 12) rfl 0 (by decide) (hts _ (List.mem_of_getElem? (i := 3) rfl)) rfl rfl rfl dX8_household_39 ?_
    refine r_getN (v' := .ref (a 1)) hx hb hts in_X8_household_X6 hown w 2 0 rfl rfl (ci := 10) rfl 0 (by decide) (w.2.2.2.2.2 _ (List.mem_of_getElem? (i := 33) rfl)) rfl rfl rfl dX8_household_42 ?_
    refine lv_iload_n hx hb dX8_household_45 rfl (lv_at hl 1 rfl) ?_
    refine lv_iload_n hx hb dX8_household_46 rfl (lv_at hl 2 rfl) ?_
    refine lv_iload_n hx hb dX8_household_47 rfl (lv_at hl 3 rfl) ?_
    refine k_iVN (As := [.int v, .int y, .int z]) (rest := []) (Rs := [ppB o (a 0) (b 0) (sn 0) (h 0) r (t 0) sb hs lf, rfW r (wHouse S v y z) f0 f1 f2 f3, stB a S, quB ty a S, weB a S, miB ty a M, hiB ty h ha (jmin 8 (sz + 1)) (nI ((nx + 1) % 8)), stF ty (ha 0) (va_up HX nx (S, M) 0), stF ty (ha 1) (va_up HX nx (S, M) 1), stF ty (ha 2) (va_up HX nx (S, M) 2), stF ty (ha 3) (va_up HX nx (S, M) 3), stF ty (ha 4) (va_up HX nx (S, M) 4), stF ty (ha 5) (va_up HX nx (S, M) 5), stF ty (ha 6) (va_up HX nx (S, M) 6), stF ty (ha 7) (va_up HX nx (S, M) 7)]) (Bs' := [ppB o (a 0) (b 0) (sn 0) (h 0) r (t 0) sb hs lf, rfW r (wHouse S v y z) f0 f1 f2 f3, stB a S, lnB ty a (sHouse S n v y z), quB ty a S, weB a S, miB ty a M, hiB ty h ha (jmin 8 (sz + 1)) (nI ((nx + 1) % 8)), stF ty (ha 0) (va_up HX nx (S, M) 0), stF ty (ha 1) (va_up HX nx (S, M) 1), stF ty (ha 2) (va_up HX nx (S, M) 2), stF ty (ha 3) (va_up HX nx (S, M) 3), stF ty (ha 4) (va_up HX nx (S, M) 4), stF ty (ha 5) (va_up HX nx (S, M) 5), stF ty (ha 6) (va_up HX nx (S, M) 6), stF ty (ha 7) (va_up HX nx (S, M) 7)]) ⟨hx, hb, hml, hown, hts⟩ w (c_X2_settle l D ty a S n (hI).1 (by omega) v y z) ⟨va_cnB 3 hts gX8_household_X2_settle_n73 rfl rfl rfl (w.2.2.2.2.2 _ (List.mem_of_getElem? (i := 57) rfl)) (hts _ (List.mem_of_getElem? (i := 43) rfl)) hdN_X2_settle ⟨Nat.le_of_ble_eq_true rfl, Nat.le_of_ble_eq_true rfl⟩, (hts _ (List.mem_of_getElem? (i := 89) rfl)), (hts _ (List.mem_of_getElem? (i := 90) rfl))⟩ [3, 0, 1, 2, 4, 5, 6, 7, 8, 9, 10, 11, 12, 13, 14, 15] (nB := 16) (by decide) rfl rfl rfl rfl 3 rfl rfl (ci := 6) rfl rfl rfl hl.1 rfl (Nat.le_of_ble_eq_true rfl) dX8_household_48 ⟨(Nat.zero_le _), (Nat.zero_le _)⟩ (fun H locs w => ?_)
    exact e_i hx hb hr hlocks (w.cast (by rw [hcn0]; exact h10 (house_w5 hn8))) (by rw [hI.1]) dX8_household_51 (Nat.le_refl _) (Nat.le_refl _)
  · have c14 := bI_1.mp c14
    exact absurd hW (wB_nz c14)
