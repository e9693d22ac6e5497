theorem in_X6_turnsOf_X6 : ∀ w ∈ wsX60, w ∈ wsX6_turnsOf := by decide +kernel
theorem in_X6_turnsOf_X7 : ∀ w ∈ wsX70, w ∈ wsX6_turnsOf := by decide +kernel
theorem hdN_X6_turnsOf : yX6_turnsOf.cls ≠ "java/lang/invoke/MethodHandle" ∧ yX6_turnsOf.cls ≠ "java/lang/invoke/VarHandle" ∧ (parseMethodDescriptor yX6_turnsOf.desc).map (fun d => d.parameters.length) = some 1 := by decide +kernel
set_option maxRecDepth 100000 in
set_option maxHeartbeats 4000000 in
theorem c_X6_turnsOf (l : Launch) (D : va_G) (ty : Nat → ClassId) (a : Nat → Nat) (S M : pS) (n q : Nat) (hI : pSh S n q) (i : Nat) (hi : i < n)  : Mi l yX6_turnsOf wsX6_turnsOf (kR 1 22 0 0) D (kTY ty) [.ref (a 0), .int (nI i)] [stB a S, lnB ty a S, quB ty a S, weB a S, miB ty a M] [stB a S, lnB ty a S, quB ty a S, weB a S, miB ty a M] (pTurns S i) 0 0 := by
  refine m_i (cc := cX6_turnsOf) (maxL := 3) (ret := (some .int)) (by decide +kernel) rfl (Nat.le_of_ble_eq_true rfl) ?_
  intro p e s m below meth c A ls hx hb hml hr hlocks hown hts w hl
  have hown : s.vm.findClass RX6 = some m.cls := hown
  have hl : lv_has ls 3 [(0, .ref (a 0)), (1, .int (nI i))] := hl
  obtain ⟨h0, hn, h1, hq, he, hd, hdr, hwr⟩ := id hI
  refine lv_aload_n hx hb dX6_turnsOf_0 rfl (lv_at hl 0 rfl) ?_
  refine r_get (v' := .ref (a 1)) hx hb hts in_X6_turnsOf_X6 hown w 0 0 rfl rfl (ci := 10) rfl 0 (by decide) (hts _ (List.mem_of_getElem? (i := 1) rfl)) rfl rfl rfl dX6_turnsOf_1 ?_
  refine lv_iload_n hx hb dX6_turnsOf_4 rfl (lv_at hl 1 rfl) ?_
  refine lv_aload_n hx hb dX6_turnsOf_5 rfl (lv_at hl 0 rfl) ?_
  refine r_get (v' := .int (S 203)) hx hb hts in_X6_turnsOf_X6 hown w 0 0 rfl rfl (ci := 10) rfl 5 (by decide) (hts _ (List.mem_of_getElem? (i := 2) rfl)) rfl rfl rfl dX6_turnsOf_6 ?_
  refine k_iVN (As := [.int (nI i), .int (S 203)]) (rest := []) (Rs := [stB a S, quB ty a S, weB a S, miB ty a M]) (Bs' := [stB a S, lnB ty a S, quB ty a S, weB a S, miB ty a M]) ⟨hx, hb, hml, hown, hts⟩ w (c_X2_lawfulTurns l D ty a S i (by omega) (S 203)) ⟨va_cnB 2 hts gX6_turnsOf_X2_lawfulTurns_n62 rfl rfl rfl (w.2.2.2.2.2 _ (List.mem_of_getElem? (i := 61) rfl)) (hts _ (List.mem_of_getElem? (i := 5) rfl)) hdN_X2_lawfulTurns ⟨Nat.le_of_ble_eq_true rfl, Nat.le_of_ble_eq_true rfl⟩, (hts _ (List.mem_of_getElem? (i := 4) rfl)), (hts _ (List.mem_of_getElem? (i := 6) rfl))⟩ [1, 0, 2, 3, 4] (nB := 5) (by decide) rfl rfl rfl rfl 1 rfl rfl (ci := 6) rfl rfl rfl hl.1 rfl (Nat.le_of_ble_eq_true rfl) dX6_turnsOf_9 ⟨(Nat.zero_le _), (Nat.zero_le _)⟩ (fun H locs w => ?_)
  refine lv_istore_n (lv' := [(2, .int (pTbl S i (S 203))), (0, .ref (a 0)), (1, .int (nI i))]) hx hb dX6_turnsOf_12 rfl hl (by decide) rfl (fun ls hl => ?_)
  refine lv_aload_n hx hb dX6_turnsOf_13 rfl (lv_at hl 1 rfl) ?_
  refine r_get (v' := .ref (a 19)) hx hb hts in_X6_turnsOf_X6 hown w 0 0 rfl rfl (ci := 10) rfl 2 (by decide) (hts _ (List.mem_of_getElem? (i := 3) rfl)) rfl rfl rfl dX6_turnsOf_14 ?_
  refine r_getN (v' := .int (S 207)) hx hb hts in_X6_turnsOf_X7 hown w 3 0 rfl rfl (ci := 11) rfl 7 (by decide) (w.2.2.2.2.2 _ (List.mem_of_getElem? (i := 29) rfl)) rfl rfl rfl dX6_turnsOf_17 ?_
  refine lv_if_eq (tgt := 31) hx hb dX6_turnsOf_20 (by decide) (fun c20 => ?_) (fun c20 => ?_)
  · refine lv_iload_n hx hb dX6_turnsOf_31 rfl (lv_at hl 0 rfl) ?_
    exact e_i hx hb hr hlocks w (pTurns_0 c20) dX6_turnsOf_32 (Nat.le_refl _) (Nat.le_refl _)
  · refine lv_iload_n hx hb dX6_turnsOf_23 rfl (lv_at hl 0 rfl) ?_
    refine lv_iconst (v := 1) hx hb dX6_turnsOf_24 (by decide) ?_
    refine lv_iadd hx hb dX6_turnsOf_25 ?_
    refine lv_iconst (v := 2) hx hb dX6_turnsOf_26 (by decide) ?_
    refine lv_idiv hx hb dX6_turnsOf_27 (by decide) ?_
    refine lv_goto (tgt := 32) hx hb dX6_turnsOf_28 (by decide) ?_
    exact e_i hx hb hr hlocks w (pTurns_1 c20 hdr) dX6_turnsOf_32 (Nat.le_refl _) (Nat.le_refl _)

theorem in_X6_turnsLeft_X2 : ∀ w ∈ wsX20, w ∈ wsX6_turnsLeft := by decide +kernel
theorem in_X6_turnsLeft_X6 : ∀ w ∈ wsX60, w ∈ wsX6_turnsLeft := by decide +kernel
theorem hdN_X6_turnsLeft : yX6_turnsLeft.cls ≠ "java/lang/invoke/MethodHandle" ∧ yX6_turnsLeft.cls ≠ "java/lang/invoke/VarHandle" ∧ (parseMethodDescriptor yX6_turnsLeft.desc).map (fun d => d.parameters.length) = some 1 := by decide +kernel
set_option maxRecDepth 100000 in
set_option maxHeartbeats 4000000 in
theorem c_X6_turnsLeft (l : Launch) (D : va_G) (ty : Nat → ClassId) (a : Nat → Nat) (S M : pS) (n q : Nat) (hI : pSh S n q) (i : Nat) (hi : i < n)  : Mi l yX6_turnsLeft wsX6_turnsLeft (kR 2 44 0 0) D (kTY ty) [.ref (a 0), .int (nI i)] [stB a S, lnB ty a S, quB ty a S, weB a S, miB ty a M] [stB a S, lnB ty a S, quB ty a S, weB a S, miB ty a M] (pLeft S i) 0 0 := by
  refine m_i (cc := cX6_turnsLeft) (maxL := 2) (ret := (some .int)) (by decide +kernel) rfl (Nat.le_of_ble_eq_true rfl) ?_
  intro p e s m below meth c A ls hx hb hml hr hlocks hown hts w hl
  have hown : s.vm.findClass RX6 = some m.cls := hown
  have hl : lv_has ls 2 [(0, .ref (a 0)), (1, .int (nI i))] := hl
  obtain ⟨h0, hn, h1, hq, he, hd, hdr, hwr⟩ := id hI
  refine lv_iconst (v := 0) hx hb dX6_turnsLeft_0 (by decide) ?_
  refine lv_aload_n hx hb dX6_turnsLeft_1 rfl (lv_at hl 0 rfl) ?_
  refine lv_iload_n hx hb dX6_turnsLeft_2 rfl (lv_at hl 1 rfl) ?_
  refine k_iV (As := [.int (nI i)]) (rest := [.int 0]) (Rs := []) (Bs' := [stB a S, lnB ty a S, quB ty a S, weB a S, miB ty a M]) ⟨hx, hb, hml, hown, hts⟩ w (c_X6_turnsOf l D ty a S M n q (hI) i (by omega)) (cwV 1 hts gX6_turnsLeft_X6_turnsOf rfl rfl rfl ⟨rfl, hdN_X6_turnsOf⟩ ⟨Nat.le_of_ble_eq_true rfl, Nat.le_of_ble_eq_true rfl⟩) [0, 1, 2, 3, 4] (nB := 5) (by decide) rfl rfl rfl rfl 0 rfl rfl (ci := 10) rfl rfl rfl hl.1 rfl (Nat.le_of_ble_eq_true rfl) dX6_turnsLeft_3 ⟨(Nat.zero_le _), (Nat.zero_le _)⟩ (fun H locs w => ?_)
  refine lv_aload_n hx hb dX6_turnsLeft_6 rfl (lv_at hl 0 rfl) ?_
  refine r_get (v' := .ref (a 1)) hx hb hts in_X6_turnsLeft_X6 hown w 0 0 rfl rfl (ci := 10) rfl 0 (by decide) (hts _ (List.mem_of_getElem? (i := 1) rfl)) rfl rfl rfl dX6_turnsLeft_7 ?_
  refine r_getN (v' := .ref (a 5)) hx hb hts in_X6_turnsLeft_X2 hown w 1 0 rfl rfl (ci := 6) rfl 5 (by decide) (w.2.2.2.2.2 _ (List.mem_of_getElem? (i := 8) rfl)) rfl rfl rfl dX6_turnsLeft_10 ?_
  refine lv_iload_n hx hb dX6_turnsLeft_13 rfl (lv_at hl 1 rfl) ?_
  refine r_iald (v := (S (1 + 6 * i + 3))) hx hb w 1 4 rfl rfl 0 rfl i (by omega) (Nat.le_of_ble_eq_true rfl) rfl (lnA_at (by omega)) dX6_turnsLeft_14 ?_
  refine lv_isub hx hb dX6_turnsLeft_15 ?_
  refine lv_aload_n hx hb dX6_turnsLeft_16 rfl (lv_at hl 0 rfl) ?_
  refine r_get (v' := .ref (a 1)) hx hb hts in_X6_turnsLeft_X6 hown w 0 0 rfl rfl (ci := 10) rfl 0 (by decide) (hts _ (List.mem_of_getElem? (i := 1) rfl)) rfl rfl rfl dX6_turnsLeft_17 ?_
  refine r_getN (v' := .ref (a 6)) hx hb hts in_X6_turnsLeft_X2 hown w 1 0 rfl rfl (ci := 6) rfl 6 (by decide) (w.2.2.2.2.2 _ (List.mem_of_getElem? (i := 10) rfl)) rfl rfl rfl dX6_turnsLeft_20 ?_
  refine lv_iload_n hx hb dX6_turnsLeft_23 rfl (lv_at hl 1 rfl) ?_
  refine r_iald (v := (S (1 + 6 * i + 4))) hx hb w 1 5 rfl rfl 0 rfl i (by omega) (Nat.le_of_ble_eq_true rfl) rfl (lnA_at (by omega)) dX6_turnsLeft_24 ?_
  refine lv_isub hx hb dX6_turnsLeft_25 ?_
  refine va_mmax hx hb (hml.trans hl.1.symm) hown (hts _ (List.mem_of_getElem? (i := 2) rfl)) (hts _ (List.mem_of_getElem? (i := 3) rfl)) (hts _ (List.mem_of_getElem? (i := 4) rfl)) (hts _ (List.mem_of_getElem? (i := 5) rfl)) (Nat.le_of_ble_eq_true rfl) (Nat.le_of_ble_eq_true rfl) (Nat.zero_le _) (Nat.zero_le _) dX6_turnsLeft_26 ?_
  refine r_eq (y := (jmax 0 (((pTurns S i) - (S (1 + 6 * i + 3))) - (S (1 + 6 * i + 4))))) rfl ?_
  exact e_i hx hb hr hlocks w rfl dX6_turnsLeft_29 (Nat.le_refl _) (Nat.le_refl _)

theorem in_X6_drawsInQueue_X4 : ∀ w ∈ wsX40, w ∈ wsX6_drawsInQueue := by decide +kernel
theorem in_X6_drawsInQueue_X6 : ∀ w ∈ wsX60, w ∈ wsX6_drawsInQueue := by decide +kernel
theorem hdN_X6_drawsInQueue : yX6_drawsInQueue.cls ≠ "java/lang/invoke/MethodHandle" ∧ yX6_drawsInQueue.cls ≠ "java/lang/invoke/VarHandle" ∧ (parseMethodDescriptor yX6_drawsInQueue.desc).map (fun d => d.parameters.length) = some 0 := by decide +kernel
set_option maxRecDepth 100000 in
set_option maxHeartbeats 4000000 in
theorem c_X6_drawsInQueue (l : Launch) (D : va_G) (ty : Nat → ClassId) (a : Nat → Nat) (S M : pS) (n q : Nat) (hI : pSh S n q)  : Mi l yX6_drawsInQueue wsX6_drawsInQueue (kR 3 65 0 0) D (kTY ty) [.ref (a 0)] [stB a S, lnB ty a S, quB ty a S, weB a S, miB ty a M] [stB a S, lnB ty a S, quB ty a S, weB a S, miB ty a M] (pAll S q) 0 0 := by
  refine m_i (cc := cX6_drawsInQueue) (maxL := 3) (ret := (some .int)) (by decide +kernel) rfl (Nat.le_of_ble_eq_true rfl) ?_
  intro p e s m below meth c A ls hx hb hml hr hlocks hown hts w hl
  have hown : s.vm.findClass RX6 = some m.cls := hown
  have hl : lv_has ls 3 [(0, .ref (a 0))] := hl
  obtain ⟨h0, hn, h1, hq, he, hd, hdr, hwr⟩ := id hI
  refine lv_iconst (v := 0) hx hb dX6_drawsInQueue_0 (by decide) ?_
  refine lv_istore_n (lv' := [(1, .int 0), (0, .ref (a 0))]) hx hb dX6_drawsInQueue_1 rfl hl (by decide) rfl (fun ls hl => ?_)
  refine lv_iconst (v := 0) hx hb dX6_drawsInQueue_2 (by decide) ?_
  refine lv_istore_n (lv' := [(2, .int 0), (1, .int 0), (0, .ref (a 0))]) hx hb dX6_drawsInQueue_3 rfl hl (by decide) rfl (fun ls hl => ?_)
  refine k_loop (fun k H locs ls => kW D (kTY ty) A s.heap s H locs [stB a S, lnB ty a S, quB ty a S, weB a S, miB ty a M] ∧ lv_has ls 3 [(0, .ref (a 0)), (1, .int (pAll S k)), (2, .int (nI k))]) q 0 (by omega) ⟨w, lv_sub hl [2, 1, 0] rfl⟩ ?_
  intro k hk0 hk ihk H locs ls hI
  obtain ⟨w, hl⟩ := hI
  refine lv_iload_n hx hb dX6_drawsInQueue_4 rfl (lv_at hl 2 rfl) ?_
  refine lv_aload_n hx hb dX6_drawsInQueue_5 rfl (lv_at hl 0 rfl) ?_
  refine r_get (v' := .ref (a 17)) hx hb hts in_X6_drawsInQueue_X6 hown w 0 0 rfl rfl (ci := 10) rfl 1 (by decide) (hts _ (List.mem_of_getElem? (i := 1) rfl)) rfl rfl rfl dX6_drawsInQueue_6 ?_
  refine r_getN (v' := .int (nI q)) hx hb hts in_X6_drawsInQueue_X4 hown w 2 0 rfl rfl (ci := 8) rfl 0 (by decide) (w.2.2.2.2.2 _ (List.mem_of_getElem? (i := 16) rfl)) rfl rfl (congrArg Value.int h1) dX6_drawsInQueue_9 ?_
  refine lv_icmp_ge (tgt := 37) hx hb dX6_drawsInQueue_12 (by decide) (fun c12 => ?_) (fun c12 => ?_)
  · have c12 := (nI_leI (a := q) (b := k) (by omega) (by omega)).mp c12
    obtain rfl : q = k := by omega
    refine lv_iload_n hx hb dX6_drawsInQueue_37 rfl (lv_at hl 1 rfl) ?_
    exact e_i hx hb hr hlocks w rfl dX6_drawsInQueue_38 (Nat.le_refl _) (Nat.le_refl _)
  · have c12 := mt (nI_leI (a := q) (b := k) (by omega) (by omega)).mpr c12
    refine lv_iload_n hx hb dX6_drawsInQueue_15 rfl (lv_at hl 1 rfl) ?_
    obtain ⟨hc1, hc2⟩ := pSh_c hI (j := k) (by omega)
    refine lv_aload_n hx hb dX6_drawsInQueue_16 rfl (lv_at hl 0 rfl) ?_
    refine lv_aload_n hx hb dX6_drawsInQueue_17 rfl (lv_at hl 0 rfl) ?_
    refine r_get (v' := .ref (a 17)) hx hb hts in_X6_drawsInQueue_X6 hown w 0 0 rfl rfl (ci := 10) rfl 1 (by decide) (hts _ (List.mem_of_getElem? (i := 1) rfl)) rfl rfl rfl dX6_drawsInQueue_18 ?_
    refine r_getN (v' := .ref (a 18)) hx hb hts in_X6_drawsInQueue_X4 hown w 2 0 rfl rfl (ci := 8) rfl 1 (by decide) (w.2.2.2.2.2 _ (List.mem_of_getElem? (i := 18) rfl)) rfl rfl rfl dX6_drawsInQueue_21 ?_
    refine lv_iload_n hx hb dX6_drawsInQueue_24 rfl (lv_at hl 2 rfl) ?_
    refine r_iald (v := (S (50 + k))) hx hb w 2 1 rfl rfl 0 rfl k (by omega) (Nat.le_of_ble_eq_true rfl) rfl (quA_at (by omega)) dX6_drawsInQueue_25 ?_
    refine r_eq (y := (nI (cN (S (50 + k))))) hc1 ?_
    refine k_iV (As := [.int (nI (cN (S (50 + k))))]) (rest := [.int (pAll S k)]) (Rs := []) (Bs' := [stB a S, lnB ty a S, quB ty a S, weB a S, miB ty a M]) ⟨hx, hb, hml, hown, hts⟩ w (c_X6_turnsLeft l D ty a S M n q (hI) (cN (S (50 + k))) (by omega)) (cwV 1 hts gX6_drawsInQueue_X6_turnsLeft rfl rfl rfl ⟨rfl, hdN_X6_turnsLeft⟩ ⟨Nat.le_of_ble_eq_true rfl, Nat.le_of_ble_eq_true rfl⟩) [0, 1, 2, 3, 4] (nB := 5) (by decide) rfl rfl rfl rfl 0 rfl rfl (ci := 10) rfl rfl rfl hl.1 rfl (Nat.le_of_ble_eq_true rfl) dX6_drawsInQueue_26 ⟨(Nat.zero_le _), (Nat.zero_le _)⟩ (fun H locs w => ?_)
    refine lv_iadd hx hb dX6_drawsInQueue_29 ?_
    refine r_eq (y := (pAll S (k + 1))) rfl ?_
    refine lv_istore_n (lv' := [(1, .int (pAll S (k + 1))), (0, .ref (a 0)), (2, .int (nI k))]) hx hb dX6_drawsInQueue_30 rfl hl (by decide) rfl (fun ls hl => ?_)
    refine lv_iinc (v := (nI (k + 1))) (lv' := [(2, .int (nI (k + 1))), (1, .int (pAll S (k + 1))), (0, .ref (a 0))]) hx hb dX6_drawsInQueue_31 hl (k := 2) rfl (inc1 k) (by decide) rfl (fun ls hl => ?_)
    refine lv_goto (tgt := 4) hx hb dX6_drawsInQueue_34 (by decide) ?_
    exact ihk _ _ _ ⟨w, lv_sub hl [2, 1, 0] rfl⟩ (by omega)

theorem in_X6_refusesHousehold_X2 : ∀ w ∈ wsX20, w ∈ wsX6_refusesHousehold := by decide +kernel
theorem in_X6_refusesHousehold_X6 : ∀ w ∈ wsX60, w ∈ wsX6_refusesHousehold := by decide +kernel
theorem hdN_X6_refusesHousehold : yX6_refusesHousehold.cls ≠ "java/lang/invoke/MethodHandle" ∧ yX6_refusesHousehold.cls ≠ "java/lang/invoke/VarHandle" ∧ (parseMethodDescriptor yX6_refusesHousehold.desc).map (fun d => d.parameters.length) = some 4 := by decide +kernel
set_option maxRecDepth 100000 in
set_option maxHeartbeats 4000000 in
theorem c_X6_refusesHousehold (l : Launch) (D : va_G) (ty : Nat → ClassId) (a : Nat → Nat) (S M : pS) (n q : Nat) (hI : pSh S n q) (r : Nat) (f0 f1 f2 f3 : Int32) (x y z : Int32)  : Mi l yX6_refusesHousehold wsX6_refusesHousehold (kR 1 22 0 0) D (kTY ty) [.ref (a 0), .int x, .int y, .int z, .ref r] [stB a S, lnB ty a S, quB ty a S, weB a S, miB ty a M, rfB r f0 f1 f2 f3] [stB a S, lnB ty a S, quB ty a S, weB a S, miB ty a M, rfW r (wHouse S x y z) f0 f1 f2 f3] (bI (wB (wHouse S x y z))) 0 0 := by
  refine m_i (cc := cX6_refusesHousehold) (maxL := 5) (ret := (some .boolean)) (by decide +kernel) rfl (Nat.le_of_ble_eq_true rfl) ?_
  intro p e s m below meth c A ls hx hb hml hr hlocks hown hts w hl
  have hown : s.vm.findClass RX6 = some m.cls := hown
  have hl : lv_has ls 5 [(0, .ref (a 0)), (1, .int x), (2, .int y), (3, .int z), (4, .ref r)] := hl
  obtain ⟨h0, hn, h1, hq, he, hd, hdr, hwr⟩ := id hI
  refine lv_iload_n hx hb dX6_refusesHousehold_0 rfl (lv_at hl 1 rfl) ?_
  refine lv_iconst (v := 1) hx hb dX6_refusesHousehold_1 (by decide) ?_
  refine lv_bipush (v := 9) hx hb dX6_refusesHousehold_2 (by decide) ?_
  refine k_iSN (As := [.int x, .int 1, .int 9]) (rest := []) (Rs := [stB a S, lnB ty a S, quB ty a S, weB a S, miB ty a M, rfB r f0 f1 f2 f3]) (Bs' := [stB a S, lnB ty a S, quB ty a S, weB a S, miB ty a M, rfB r f0 f1 f2 f3]) ⟨hx, hb, hml, hown, hts⟩ w (c_X8_isWithin l D ty x 1 9) ⟨va_cnB 3 hts gX6_refusesHousehold_X8_isWithin_n95 rfl rfl rfl (w.2.2.2.2.2 _ (List.mem_of_getElem? (i := 47) rfl)) (hts _ (List.mem_of_getElem? (i := 3) rfl)) hdN_X8_isWithin ⟨Nat.le_of_ble_eq_true rfl, Nat.le_of_ble_eq_true rfl⟩, (hts _ (List.mem_of_getElem? (i := 2) rfl)), trivial⟩ [0, 1, 2, 3, 4, 5] (nB := 6) (by decide) rfl rfl rfl rfl rfl hl.1 rfl (Nat.le_of_ble_eq_true rfl) dX6_refusesHousehold_4 ⟨(Nat.zero_le _), (Nat.zero_le _)⟩ (fun H locs w => ?_)
  refine lv_if_eq (tgt := 30) hx hb dX6_refusesHousehold_7 (by decide) (fun c7 => ?_) (fun c7 => ?_)
  · have c7 := bI_0.mp c7
    refine lv_aload hx hb dX6_refusesHousehold_30 (lv_at hl 4 rfl) ?_
    refine lv_iconst (v := 1) hx hb dX6_refusesHousehold_32 (by decide) ?_
    refine lv_iconst (v := 0) hx hb dX6_refusesHousehold_33 (by decide) ?_
    refine k_iVN (As := [.int 1, .int 0]) (rest := []) (Rs := [stB a S, lnB ty a S, quB ty a S, weB a S, miB ty a M]) (Bs' := [stB a S, lnB ty a S, quB ty a S, weB a S, miB ty a M, rfB r 1 0 f3 f3]) ⟨hx, hb, hml, hown, hts⟩ w (c_X5_because l D ty r f0 f1 f2 f3 1 0) ⟨va_cnB 2 hts gX6_refusesHousehold_X5_because_n99 rfl rfl rfl (w.2.2.2.2.2 _ (List.mem_of_getElem? (i := 48) rfl)) (hts _ (List.mem_of_getElem? (i := 6) rfl)) hdN_X5_because ⟨Nat.le_of_ble_eq_true rfl, Nat.le_of_ble_eq_true rfl⟩, (hts _ (List.mem_of_getElem? (i := 5) rfl)), (hts _ (List.mem_of_getElem? (i := 7) rfl))⟩ [5, 0, 1, 2, 3, 4] (nB := 6) (by decide) rfl rfl rfl rfl 5 rfl rfl (ci := 9) rfl rfl rfl hl.1 rfl (Nat.le_of_ble_eq_true rfl) dX6_refusesHousehold_34 ⟨(Nat.zero_le _), (Nat.zero_le _)⟩ (fun H locs w => ?_)
    have hW : wHouse S x y z = (1, 0) := (by rw [wHouse, if_neg (by rw [c7]; simp)])
    exact e_z (ty := .boolean) hx hb hr rfl hlocks (w.cast (by rw [rfW_1 (r := r) (f0 := f0) (f1 := f1) (f2 := f2) (f3 := f3) hW (by decide)])) (wB_1 hW (by decide)) dX6_refusesHousehold_37 (Nat.le_refl _) (Nat.le_refl _)
  · have c7 := bI_1.mp c7
    refine lv_iload_n hx hb dX6_refusesHousehold_10 rfl (lv_at hl 2 rfl) ?_
    refine lv_iconst (v := 0) hx hb dX6_refusesHousehold_11 (by decide) ?_
    refine lv_bipush (v := 19) hx hb dX6_refusesHousehold_12 (by decide) ?_
    refine k_iSN (As := [.int y, .int 0, .int 19]) (rest := []) (Rs := [stB a S, lnB ty a S, quB ty a S, weB a S, miB ty a M, rfB r f0 f1 f2 f3]) (Bs' := [stB a S, lnB ty a S, quB ty a S, weB a S, miB ty a M, rfB r f0 f1 f2 f3]) ⟨hx, hb, hml, hown, hts⟩ w (c_X8_isWithin l D ty y 0 19) ⟨va_cnB 3 hts gX6_refusesHousehold_X8_isWithin_n95 rfl rfl rfl (w.2.2.2.2.2 _ (List.mem_of_getElem? (i := 47) rfl)) (hts _ (List.mem_of_getElem? (i := 3) rfl)) hdN_X8_isWithin ⟨Nat.le_of_ble_eq_true rfl, Nat.le_of_ble_eq_true rfl⟩, (hts _ (List.mem_of_getElem? (i := 2) rfl)), trivial⟩ [0, 1, 2, 3, 4, 5] (nB := 6) (by decide) rfl rfl rfl rfl rfl hl.1 rfl (Nat.le_of_ble_eq_true rfl) dX6_refusesHousehold_14 ⟨(Nat.zero_le _), (Nat.zero_le _)⟩ (fun H locs w => ?_)
    refine lv_if_eq (tgt := 30) hx hb dX6_refusesHousehold_17 (by decide) (fun c17 => ?_) (fun c17 => ?_)
    · have c17 := bI_0.mp c17
      refine lv_aload hx hb dX6_refusesHousehold_30 (lv_at hl 4 rfl) ?_
      refine lv_iconst (v := 1) hx hb dX6_refusesHousehold_32 (by decide) ?_
      refine lv_iconst (v := 0) hx hb dX6_refusesHousehold_33 (by decide) ?_
      refine k_iVN (As := [.int 1, .int 0]) (rest := []) (Rs := [stB a S, lnB ty a S, quB ty a S, weB a S, miB ty a M]) (Bs' := [stB a S, lnB ty a S, quB ty a S, weB a S, miB ty a M, rfB r 1 0 f3 f3]) ⟨hx, hb, hml, hown, hts⟩ w (c_X5_because l D ty r f0 f1 f2 f3 1 0) ⟨va_cnB 2 hts gX6_refusesHousehold_X5_because_n99 rfl rfl rfl (w.2.2.2.2.2 _ (List.mem_of_getElem? (i := 48) rfl)) (hts _ (List.mem_of_getElem? (i := 6) rfl)) hdN_X5_because ⟨Nat.le_of_ble_eq_true rfl, Nat.le_of_ble_eq_true rfl⟩, (hts _ (List.mem_of_getElem? (i := 5) rfl)), (hts _ (List.mem_of_getElem? (i := 7) rfl))⟩ [5, 0, 1, 2, 3, 4] (nB := 6) (by decide) rfl rfl rfl rfl 5 rfl rfl (ci := 9) rfl rfl rfl hl.1 rfl (Nat.le_of_ble_eq_true rfl) dX6_refusesHousehold_34 ⟨(Nat.zero_le _), (Nat.zero_le _)⟩ (fun H locs w => ?_)
      have hW : wHouse S x y z = (1, 0) := (by rw [wHouse, if_neg (by rw [c17]; simp)])
      exact e_z (ty := .boolean) hx hb hr rfl hlocks (w.cast (by rw [rfW_1 (r := r) (f0 := f0) (f1 := f1) (f2 := f2) (f3 := f3) hW (by decide)])) (wB_1 hW (by decide)) dX6_refusesHousehold_37 (Nat.le_refl _) (Nat.le_refl _)
    · have c17 := bI_1.mp c17
      refine lv_iload_n hx hb dX6_refusesHousehold_20 rfl (lv_at hl 3 rfl) ?_
      refine lv_iconst (v := 0) hx hb dX6_refusesHousehold_21 (by decide) ?_
      refine lv_bipush (v := 9) hx hb dX6_refusesHousehold_22 (by decide) ?_
      refine k_iSN (As := [.int z, .int 0, .int 9]) (rest := []) (Rs := [stB a S, lnB ty a S, quB ty a S, weB a S, miB ty a M, rfB r f0 f1 f2 f3]) (Bs' := [stB a S, lnB ty a S, quB ty a S, weB a S, miB ty a M, rfB r f0 f1 f2 f3]) ⟨hx, hb, hml, hown, hts⟩ w (c_X8_isWithin l D ty z 0 9) ⟨va_cnB 3 hts gX6_refusesHousehold_X8_isWithin_n95 rfl rfl rfl (w.2.2.2.2.2 _ (List.mem_of_getElem? (i := 47) rfl)) (hts _ (List.mem_of_getElem? (i := 3) rfl)) hdN_X8_isWithin ⟨Nat.le_of_ble_eq_true rfl, Nat.le_of_ble_eq_true rfl⟩, (hts _ (List.mem_of_getElem? (i := 2) rfl)), trivial⟩ [0, 1, 2, 3, 4, 5] (nB := 6) (by decide) rfl rfl rfl rfl rfl hl.1 rfl (Nat.le_of_ble_eq_true rfl) dX6_refusesHousehold_24 ⟨(Nat.zero_le _), (Nat.zero_le _)⟩ (fun H locs w => ?_)
      refine lv_if_ne (tgt := 38) hx hb dX6_refusesHousehold_27 (by decide) (fun c27 => ?_) (fun c27 => ?_)
      · have c27 := bI_1.mp c27
        refine lv_aload_n hx hb dX6_refusesHousehold_38 rfl (lv_at hl 0 rfl) ?_
        refine r_get (v' := .ref (a 1)) hx hb hts in_X6_refusesHousehold_X6 hown w 0 0 rfl rfl (ci := 10) rfl 0 (by decide) (hts _ (List.mem_of_getElem? (i := 1) rfl)) rfl rfl rfl dX6_refusesHousehold_39 ?_
        refine r_getN (v' := .int (nI n)) hx hb hts in_X6_refusesHousehold_X2 hown w 1 0 rfl rfl (ci := 6) rfl 0 (by decide) (w.2.2.2.2.2 _ (List.mem_of_getElem? (i := 2) rfl)) rfl rfl (congrArg Value.int h0) dX6_refusesHousehold_42 ?_
        refine lv_bipush (v := 8) hx hb dX6_refusesHousehold_45 (by decide) ?_
        refine lv_icmp_lt (tgt := 65) hx hb dX6_refusesHousehold_47 (by decide) (fun c47 => ?_) (fun c47 => ?_)
        · have c47 := (nI_ltI (a := n) (b := 8) (by omega) (by omega)).mp c47
          refine lv_iconst (v := 0) hx hb dX6_refusesHousehold_65 (by decide) ?_
          have hW : wHouse S x y z = (0, 0) := (by rw [wHouse, if_pos (by rw [c7, c17, c27]; rfl), if_neg (by rw [h0]; exact fun z => absurd ((nI_eq (a := n) (b := 8) (by omega) (by omega)).mp z) (by omega))])
          exact e_z (ty := .boolean) hx hb hr rfl hlocks (w.cast (by rw [rfW_0 (r := r) (f0 := f0) (f1 := f1) (f2 := f2) (f3 := f3) hW])) (wB_0 hW) dX6_refusesHousehold_66 (Nat.le_refl _) (Nat.le_refl _)
        · have c47 := mt (nI_ltI (a := n) (b := 8) (by omega) (by omega)).mpr c47
          refine lv_aload hx hb dX6_refusesHousehold_50 (lv_at hl 4 rfl) ?_
          refine lv_iconst (v := 2) hx hb dX6_refusesHousehold_52 (by decide) ?_
          refine lv_bipush (v := 8) hx hb dX6_refusesHousehold_53 (by decide) ?_
          refine k_iVN (As := [.int 2, .int 8]) (rest := []) (Rs := [stB a S, lnB ty a S, quB ty a S, weB a S, miB ty a M]) (Bs' := [stB a S, lnB ty a S, quB ty a S, weB a S, miB ty a M, rfB r 2 8 f3 f3]) ⟨hx, hb, hml, hown, hts⟩ w (c_X5_because l D ty r f0 f1 f2 f3 2 8) ⟨va_cnB 2 hts gX6_refusesHousehold_X5_because_n99 rfl rfl rfl (w.2.2.2.2.2 _ (List.mem_of_getElem? (i := 48) rfl)) (hts _ (List.mem_of_getElem? (i := 6) rfl)) hdN_X5_because ⟨Nat.le_of_ble_eq_true rfl, Nat.le_of_ble_eq_true rfl⟩, (hts _ (List.mem_of_getElem? (i := 5) rfl)), (hts _ (List.mem_of_getElem? (i := 7) rfl))⟩ [5, 0, 1, 2, 3, 4] (nB := 6) (by decide) rfl rfl rfl rfl 5 rfl rfl (ci := 9) rfl rfl rfl hl.1 rfl (Nat.le_of_ble_eq_true rfl) dX6_refusesHousehold_55 ⟨(Nat.zero_le _), (Nat.zero_le _)⟩ (fun H locs w => ?_)
          refine lv_if_eq (tgt := 65) hx hb dX6_refusesHousehold_58 (by decide) (fun c58 => ?_) (fun c58 => ?_)
          · exact absurd c58 (by decide)
          · refine lv_iconst (v := 1) hx hb dX6_refusesHousehold_61 (by decide) ?_
            refine lv_goto (tgt := 66) hx hb dX6_refusesHousehold_62 (by decide) ?_
            have hW : wHouse S x y z = (2, 8) := (by rw [wHouse, if_pos (by rw [c7, c17, c27]; rfl), if_pos (by rw [h0, show n = 8 by omega]; rfl)])
            exact e_z (ty := .boolean) hx hb hr rfl hlocks (w.cast (by rw [rfW_1 (r := r) (f0 := f0) (f1 := f1) (f2 := f2) (f3 := f3) hW (by decide)])) (wB_1 hW (by decide)) dX6_refusesHousehold_66 (Nat.le_refl _) (Nat.le_refl _)
      · have c27 := bI_0.mp c27
        refine lv_aload hx hb dX6_refusesHousehold_30 (lv_at hl 4 rfl) ?_
        refine lv_iconst (v := 1) hx hb dX6_refusesHousehold_32 (by decide) ?_
        refine lv_iconst (v := 0) hx hb dX6_refusesHousehold_33 (by decide) ?_
        refine k_iVN (As := [.int 1, .int 0]) (rest := []) (Rs := [stB a S, lnB ty a S, quB ty a S, weB a S, miB ty a M]) (Bs' := [stB a S, lnB ty a S, quB ty a S, weB a S, miB ty a M, rfB r 1 0 f3 f3]) ⟨hx, hb, hml, hown, hts⟩ w (c_X5_because l D ty r f0 f1 f2 f3 1 0) ⟨va_cnB 2 hts gX6_refusesHousehold_X5_because_n99 rfl rfl rfl (w.2.2.2.2.2 _ (List.mem_of_getElem? (i := 48) rfl)) (hts _ (List.mem_of_getElem? (i := 6) rfl)) hdN_X5_because ⟨Nat.le_of_ble_eq_true rfl, Nat.le_of_ble_eq_true rfl⟩, (hts _ (List.mem_of_getElem? (i := 5) rfl)), (hts _ (List.mem_of_getElem? (i := 7) rfl))⟩ [5, 0, 1, 2, 3, 4] (nB := 6) (by decide) rfl rfl rfl rfl 5 rfl rfl (ci := 9) rfl rfl rfl hl.1 rfl (Nat.le_of_ble_eq_true rfl) dX6_refusesHousehold_34 ⟨(Nat.zero_le _), (Nat.zero_le _)⟩ (fun H locs w => ?_)
        have hW : wHouse S x y z = (1, 0) := (by rw [wHouse, if_neg (by rw [c27]; simp)])
        exact e_z (ty := .boolean) hx hb hr rfl hlocks (w.cast (by rw [rfW_1 (r := r) (f0 := f0) (f1 := f1) (f2 := f2) (f3 := f3) hW (by decide)])) (wB_1 hW (by decide)) dX6_refusesHousehold_37 (Nat.le_refl _) (Nat.le_refl _)

theorem in_X6_refusesJoin_X2 : ∀ w ∈ wsX20, w ∈ wsX6_refusesJoin := by decide +kernel
theorem in_X6_refusesJoin_X6 : ∀ w ∈ wsX60, w ∈ wsX6_refusesJoin := by decide +kernel
theorem hdN_X6_refusesJoin : yX6_refusesJoin.cls ≠ "java/lang/invoke/MethodHandle" ∧ yX6_refusesJoin.cls ≠ "java/lang/invoke/VarHandle" ∧ (parseMethodDescriptor yX6_refusesJoin.desc).map (fun d => d.parameters.length) = some 2 := by decide +kernel
set_option maxRecDepth 100000 in
set_option maxHeartbeats 4000000 in
theorem c_X6_refusesJoin (l : Launch) (D : va_G) (ty : Nat → ClassId) (a : Nat → Nat) (S M : pS) (n q : Nat) (hI : pSh S n q) (r : Nat) (f0 f1 f2 f3 : Int32) (h : Int32)  : Mi l yX6_refusesJoin wsX6_refusesJoin (kR 3 65 0 0) D (kTY ty) [.ref (a 0), .int h, .ref r] [stB a S, lnB ty a S, quB ty a S, weB a S, miB ty a M, rfB r f0 f1 f2 f3] [stB a S, lnB ty a S, quB ty a S, weB a S, miB ty a M, rfW r (wJoin S h) f0 f1 f2 f3] (bI (wB (wJoin S h))) 0 0 := by
  refine m_i (cc := cX6_refusesJoin) (maxL := 4) (ret := (some .boolean)) (by decide +kernel) rfl (Nat.le_of_ble_eq_true rfl) ?_
  intro p e s m below meth c A ls hx hb hml hr hlocks hown hts w hl
  have hown : s.vm.findClass RX6 = some m.cls := hown
  have hl : lv_has ls 4 [(0, .ref (a 0)), (1, .int h), (2, .ref r)] := hl
  obtain ⟨h0, hn, h1, hq, he, hd, hdr, hwr⟩ := id hI
  refine lv_aload_n hx hb dX6_refusesJoin_0 rfl (lv_at hl 0 rfl) ?_
  refine r_get (v' := .ref (a 1)) hx hb hts in_X6_refusesJoin_X6 hown w 0 0 rfl rfl (ci := 10) rfl 0 (by decide) (hts _ (List.mem_of_getElem? (i := 1) rfl)) rfl rfl rfl dX6_refusesJoin_1 ?_
  refine lv_iload_n hx hb dX6_refusesJoin_4 rfl (lv_at hl 1 rfl) ?_
  refine k_iVN (As := [.int h]) (rest := []) (Rs := [stB a S, quB ty a S, weB a S, miB ty a M, rfB r f0 f1 f2 f3]) (Bs' := [stB a S, lnB ty a S, quB ty a S, weB a S, miB ty a M, rfB r f0 f1 f2 f3]) ⟨hx, hb, hml, hown, hts⟩ w (c_X2_has l D ty a S n (hI).1 (hI).2.1 h) ⟨va_cnB 1 hts gX6_refusesJoin_X2_has_n108 rfl rfl rfl (w.2.2.2.2.2 _ (List.mem_of_getElem? (i := 59) rfl)) (hts _ (List.mem_of_getElem? (i := 4) rfl)) hdN_X2_has ⟨Nat.le_of_ble_eq_true rfl, Nat.le_of_ble_eq_true rfl⟩, (hts _ (List.mem_of_getElem? (i := 3) rfl)), (hts _ (List.mem_of_getElem? (i := 5) rfl))⟩ [1, 0, 2, 3, 4, 5] (nB := 6) (by decide) rfl rfl rfl rfl 1 rfl rfl (ci := 6) rfl rfl rfl hl.1 rfl (Nat.le_of_ble_eq_true rfl) dX6_refusesJoin_5 ⟨(Nat.zero_le _), (Nat.zero_le _)⟩ (fun H locs w => ?_)
  refine lv_if_ne (tgt := 18) hx hb dX6_refusesJoin_8 (by decide) (fun c8 => ?_) (fun c8 => ?_)
  · have c8 := bI_1.mp c8
    obtain ⟨i, hi, rfl⟩ := (pHas_iff (by omega)).mp c8
    refine lv_aload_n hx hb dX6_refusesJoin_18 rfl (lv_at hl 0 rfl) ?_
    refine r_get (v' := .ref (a 17)) hx hb hts in_X6_refusesJoin_X6 hown w 0 0 rfl rfl (ci := 10) rfl 1 (by decide) (hts _ (List.mem_of_getElem? (i := 2) rfl)) rfl rfl rfl dX6_refusesJoin_19 ?_
    refine lv_iload_n hx hb dX6_refusesJoin_22 rfl (lv_at hl 1 rfl) ?_
    refine k_iVN (As := [.int (nI i)]) (rest := []) (Rs := [stB a S, lnB ty a S, weB a S, miB ty a M, rfB r f0 f1 f2 f3]) (Bs' := [stB a S, lnB ty a S, quB ty a S, weB a S, miB ty a M, rfB r f0 f1 f2 f3]) ⟨hx, hb, hml, hown, hts⟩ w (c_X4_placeOf l D ty a S q (hI).2.2.1 (hI).2.2.2.1 (hI).2.2.2.2.2.1 (nI i)) ⟨va_cnB 1 hts gX6_refusesJoin_X4_placeOf_n112 rfl rfl rfl (w.2.2.2.2.2 _ (List.mem_of_getElem? (i := 60) rfl)) (hts _ (List.mem_of_getElem? (i := 17) rfl)) hdN_X4_placeOf ⟨Nat.le_of_ble_eq_true rfl, Nat.le_of_ble_eq_true rfl⟩, (hts _ (List.mem_of_getElem? (i := 16) rfl)), (hts _ (List.mem_of_getElem? (i := 18) rfl))⟩ [2, 0, 1, 3, 4, 5] (nB := 6) (by decide) rfl rfl rfl rfl 2 rfl rfl (ci := 8) rfl rfl rfl hl.1 rfl (Nat.le_of_ble_eq_true rfl) dX6_refusesJoin_23 ⟨(Nat.zero_le _), (Nat.zero_le _)⟩ (fun H locs w => ?_)
    refine lv_istore_n (lv' := [(3, .int (pPl S (nI i) q)), (0, .ref (a 0)), (1, .int (nI i)), (2, .ref r)]) hx hb dX6_refusesJoin_26 rfl hl (by decide) rfl (fun ls hl => ?_)
    refine lv_iload_n hx hb dX6_refusesJoin_27 rfl (lv_at hl 0 rfl) ?_
    refine lv_iconst (v := (-1)) hx hb dX6_refusesJoin_28 (by decide) ?_
    refine lv_icmp_eq (tgt := 39) hx hb dX6_refusesJoin_29 (by decide) (fun c29 => ?_) (fun c29 => ?_)
    · refine lv_aload_n hx hb dX6_refusesJoin_39 rfl (lv_at hl 1 rfl) ?_
      refine lv_iload_n hx hb dX6_refusesJoin_40 rfl (lv_at hl 2 rfl) ?_
      refine k_iV (As := [.int (nI i)]) (rest := []) (Rs := [rfB r f0 f1 f2 f3]) (Bs' := [stB a S, lnB ty a S, quB ty a S, weB a S, miB ty a M, rfB r f0 f1 f2 f3]) ⟨hx, hb, hml, hown, hts⟩ w (c_X6_turnsLeft l D ty a S M n q (hI) i (by omega)) (cwV 1 hts gX6_refusesJoin_X6_turnsLeft rfl rfl rfl ⟨rfl, hdN_X6_turnsLeft⟩ ⟨Nat.le_of_ble_eq_true rfl, Nat.le_of_ble_eq_true rfl⟩) [0, 1, 2, 3, 4, 5] (nB := 6) (by decide) rfl rfl rfl rfl 0 rfl rfl (ci := 10) rfl rfl rfl hl.1 rfl (Nat.le_of_ble_eq_true rfl) dX6_refusesJoin_41 ⟨(Nat.zero_le _), (Nat.zero_le _)⟩ (fun H locs w => ?_)
      refine lv_if_ne (tgt := 69) hx hb dX6_refusesJoin_44 (by decide) (fun c44 => ?_) (fun c44 => ?_)
      · refine lv_iconst (v := 0) hx hb dX6_refusesJoin_69 (by decide) ?_
        have hW : wJoin S (nI i) = (0, 0) := (by rw [wJoin_e hI, if_pos c8, if_pos c29, cN_nI (by omega), if_neg c44])
        exact e_z (ty := .boolean) hx hb hr rfl hlocks (w.cast (by rw [rfW_0 (r := r) (f0 := f0) (f1 := f1) (f2 := f2) (f3 := f3) hW])) (wB_0 hW) dX6_refusesJoin_70 (Nat.le_refl _) (Nat.le_refl _)
      · refine lv_aload_n hx hb dX6_refusesJoin_47 rfl (lv_at hl 3 rfl) ?_
        refine lv_bipush (v := 6) hx hb dX6_refusesJoin_48 (by decide) ?_
        refine lv_aload_n hx hb dX6_refusesJoin_50 rfl (lv_at hl 1 rfl) ?_
        refine r_get (v' := .ref (a 1)) hx hb hts in_X6_refusesJoin_X6 hown w 0 0 rfl rfl (ci := 10) rfl 0 (by decide) (hts _ (List.mem_of_getElem? (i := 1) rfl)) rfl rfl rfl dX6_refusesJoin_51 ?_
        refine r_getN (v' := .ref (a 5)) hx hb hts in_X6_refusesJoin_X2 hown w 1 0 rfl rfl (ci := 6) rfl 5 (by decide) (w.2.2.2.2.2 _ (List.mem_of_getElem? (i := 8) rfl)) rfl rfl rfl dX6_refusesJoin_54 ?_
        refine lv_iload_n hx hb dX6_refusesJoin_57 rfl (lv_at hl 2 rfl) ?_
        refine r_iald (v := (S (1 + 6 * i + 3))) hx hb w 1 4 rfl rfl 0 rfl i (by omega) (Nat.le_of_ble_eq_true rfl) rfl (lnA_at (by omega)) dX6_refusesJoin_58 ?_
        refine k_iVN (As := [.int 6, .int (S (1 + 6 * i + 3))]) (rest := []) (Rs := [stB a S, lnB ty a S, quB ty a S, weB a S, miB ty a M]) (Bs' := [stB a S, lnB ty a S, quB ty a S, weB a S, miB ty a M, rfB r 6 (S (1 + 6 * i + 3)) f3 f3]) ⟨hx, hb, hml, hown, hts⟩ w (c_X5_because l D ty r f0 f1 f2 f3 6 (S (1 + 6 * i + 3))) ⟨va_cnB 2 hts gX6_refusesJoin_X5_because_n99 rfl rfl rfl (w.2.2.2.2.2 _ (List.mem_of_getElem? (i := 48) rfl)) (hts _ (List.mem_of_getElem? (i := 9) rfl)) hdN_X5_because ⟨Nat.le_of_ble_eq_true rfl, Nat.le_of_ble_eq_true rfl⟩, (hts _ (List.mem_of_getElem? (i := 8) rfl)), (hts _ (List.mem_of_getElem? (i := 10) rfl))⟩ [5, 0, 1, 2, 3, 4] (nB := 6) (by decide) rfl rfl rfl rfl 5 rfl rfl (ci := 9) rfl rfl rfl hl.1 rfl (Nat.le_of_ble_eq_true rfl) dX6_refusesJoin_59 ⟨(Nat.zero_le _), (Nat.zero_le _)⟩ (fun H locs w => ?_)
        refine lv_if_eq (tgt := 69) hx hb dX6_refusesJoin_62 (by decide) (fun c62 => ?_) (fun c62 => ?_)
        · exact absurd c62 (by decide)
        · refine lv_iconst (v := 1) hx hb dX6_refusesJoin_65 (by decide) ?_
          refine lv_goto (tgt := 70) hx hb dX6_refusesJoin_66 (by decide) ?_
          have hW : wJoin S (nI i) = (6, S (1 + 6 * i + 3)) := (by rw [wJoin_e hI, if_pos c8, if_pos c29, cN_nI (by omega), if_pos c44])
          exact e_z (ty := .boolean) hx hb hr rfl hlocks (w.cast (by rw [rfW_1 (r := r) (f0 := f0) (f1 := f1) (f2 := f2) (f3 := f3) hW (by decide)])) (wB_1 hW (by decide)) dX6_refusesJoin_70 (Nat.le_refl _) (Nat.le_refl _)
    · refine lv_aload_n hx hb dX6_refusesJoin_32 rfl (lv_at hl 3 rfl) ?_
      refine lv_iconst (v := 4) hx hb dX6_refusesJoin_33 (by decide) ?_
      refine lv_iload_n hx hb dX6_refusesJoin_34 rfl (lv_at hl 0 rfl) ?_
      refine k_iVN (As := [.int 4, .int (pPl S (nI i) q)]) (rest := []) (Rs := [stB a S, lnB ty a S, quB ty a S, weB a S, miB ty a M]) (Bs' := [stB a S, lnB ty a S, quB ty a S, weB a S, miB ty a M, rfB r 4 (pPl S (nI i) q) f3 f3]) ⟨hx, hb, hml, hown, hts⟩ w (c_X5_because l D ty r f0 f1 f2 f3 4 (pPl S (nI i) q)) ⟨va_cnB 2 hts gX6_refusesJoin_X5_because_n99 rfl rfl rfl (w.2.2.2.2.2 _ (List.mem_of_getElem? (i := 48) rfl)) (hts _ (List.mem_of_getElem? (i := 9) rfl)) hdN_X5_because ⟨Nat.le_of_ble_eq_true rfl, Nat.le_of_ble_eq_true rfl⟩, (hts _ (List.mem_of_getElem? (i := 8) rfl)), (hts _ (List.mem_of_getElem? (i := 10) rfl))⟩ [5, 0, 1, 2, 3, 4] (nB := 6) (by decide) rfl rfl rfl rfl 5 rfl rfl (ci := 9) rfl rfl rfl hl.1 rfl (Nat.le_of_ble_eq_true rfl) dX6_refusesJoin_35 ⟨(Nat.zero_le _), (Nat.zero_le _)⟩ (fun H locs w => ?_)
      have hW : wJoin S (nI i) = (4, pPl S (nI i) q) := (by rw [wJoin_e hI, if_pos c8, if_neg c29])
      exact e_z (ty := .boolean) hx hb hr rfl hlocks (w.cast (by rw [rfW_1 (r := r) (f0 := f0) (f1 := f1) (f2 := f2) (f3 := f3) hW (by decide)])) (wB_1 hW (by decide)) dX6_refusesJoin_38 (Nat.le_refl _) (Nat.le_refl _)
  · have c8 := bI_0.mp c8
    refine lv_aload_n hx hb dX6_refusesJoin_11 rfl (lv_at hl 2 rfl) ?_
    refine lv_iconst (v := 3) hx hb dX6_refusesJoin_12 (by decide) ?_
    refine lv_iload_n hx hb dX6_refusesJoin_13 rfl (lv_at hl 1 rfl) ?_
    refine k_iVN (As := [.int 3, .int h]) (rest := []) (Rs := [stB a S, lnB ty a S, quB ty a S, weB a S, miB ty a M]) (Bs' := [stB a S, lnB ty a S, quB ty a S, weB a S, miB ty a M, rfB r 3 h f3 f3]) ⟨hx, hb, hml, hown, hts⟩ w (c_X5_because l D ty r f0 f1 f2 f3 3 h) ⟨va_cnB 2 hts gX6_refusesJoin_X5_because_n99 rfl rfl rfl (w.2.2.2.2.2 _ (List.mem_of_getElem? (i := 48) rfl)) (hts _ (List.mem_of_getElem? (i := 9) rfl)) hdN_X5_because ⟨Nat.le_of_ble_eq_true rfl, Nat.le_of_ble_eq_true rfl⟩, (hts _ (List.mem_of_getElem? (i := 8) rfl)), (hts _ (List.mem_of_getElem? (i := 10) rfl))⟩ [5, 0, 1, 2, 3, 4] (nB := 6) (by decide) rfl rfl rfl rfl 5 rfl rfl (ci := 9) rfl rfl rfl hl.1 rfl (Nat.le_of_ble_eq_true rfl) dX6_refusesJoin_14 ⟨(Nat.zero_le _), (Nat.zero_le _)⟩ (fun H locs w => ?_)
    have hW : wJoin S h = (3, h) := (by rw [wJoin_e hI, if_neg (bt_n c8)])
    exact e_z (ty := .boolean) hx hb hr rfl hlocks (w.cast (by rw [rfW_1 (r := r) (f0 := f0) (f1 := f1) (f2 := f2) (f3 := f3) hW (by decide)])) (wB_1 hW (by decide)) dX6_refusesJoin_17 (Nat.le_refl _) (Nat.le_refl _)

theorem in_X6_refusesLeave_X6 : ∀ w ∈ wsX60, w ∈ wsX6_refusesLeave := by decide +kernel
theorem hdN_X6_refusesLeave : yX6_refusesLeave.cls ≠ "java/lang/invoke/MethodHandle" ∧ yX6_refusesLeave.cls ≠ "java/lang/invoke/VarHandle" ∧ (parseMethodDescriptor yX6_refusesLeave.desc).map (fun d => d.parameters.length) = some 2 := by decide +kernel
set_option maxRecDepth 100000 in
set_option maxHeartbeats 4000000 in
theorem c_X6_refusesLeave (l : Launch) (D : va_G) (ty : Nat → ClassId) (a : Nat → Nat) (S M : pS) (n q : Nat) (hI : pSh S n q) (r : Nat) (f0 f1 f2 f3 : Int32) (h : Int32)  : Mi l yX6_refusesLeave wsX6_refusesLeave (kR 1 22 0 0) D (kTY ty) [.ref (a 0), .int h, .ref r] [stB a S, lnB ty a S, quB ty a S, weB a S, miB ty a M, rfB r f0 f1 f2 f3] [stB a S, lnB ty a S, quB ty a S, weB a S, miB ty a M, rfW r (wLeave S h) f0 f1 f2 f3] (bI (wB (wLeave S h))) 0 0 := by
  refine m_i (cc := cX6_refusesLeave) (maxL := 3) (ret := (some .boolean)) (by decide +kernel) rfl (Nat.le_of_ble_eq_true rfl) ?_
  intro p e s m below meth c A ls hx hb hml hr hlocks hown hts w hl
  have hown : s.vm.findClass RX6 = some m.cls := hown
  have hl : lv_has ls 3 [(0, .ref (a 0)), (1, .int h), (2, .ref r)] := hl
  obtain ⟨h0, hn, h1, hq, he, hd, hdr, hwr⟩ := id hI
  refine lv_aload_n hx hb dX6_refusesLeave_0 rfl (lv_at hl 0 rfl) ?_
  refine r_get (v' := .ref (a 1)) hx hb hts in_X6_refusesLeave_X6 hown w 0 0 rfl rfl (ci := 10) rfl 0 (by decide) (hts _ (List.mem_of_getElem? (i := 1) rfl)) rfl rfl rfl dX6_refusesLeave_1 ?_
  refine lv_iload_n hx hb dX6_refusesLeave_4 rfl (lv_at hl 1 rfl) ?_
  refine k_iVN (As := [.int h]) (rest := []) (Rs := [stB a S, quB ty a S, weB a S, miB ty a M, rfB r f0 f1 f2 f3]) (Bs' := [stB a S, lnB ty a S, quB ty a S, weB a S, miB ty a M, rfB r f0 f1 f2 f3]) ⟨hx, hb, hml, hown, hts⟩ w (c_X2_has l D ty a S n (hI).1 (hI).2.1 h) ⟨va_cnB 1 hts gX6_refusesLeave_X2_has_n108 rfl rfl rfl (w.2.2.2.2.2 _ (List.mem_of_getElem? (i := 59) rfl)) (hts _ (List.mem_of_getElem? (i := 4) rfl)) hdN_X2_has ⟨Nat.le_of_ble_eq_true rfl, Nat.le_of_ble_eq_true rfl⟩, (hts _ (List.mem_of_getElem? (i := 3) rfl)), (hts _ (List.mem_of_getElem? (i := 5) rfl))⟩ [1, 0, 2, 3, 4, 5] (nB := 6) (by decide) rfl rfl rfl rfl 1 rfl rfl (ci := 6) rfl rfl rfl hl.1 rfl (Nat.le_of_ble_eq_true rfl) dX6_refusesLeave_5 ⟨(Nat.zero_le _), (Nat.zero_le _)⟩ (fun H locs w => ?_)
  refine lv_if_ne (tgt := 18) hx hb dX6_refusesLeave_8 (by decide) (fun c8 => ?_) (fun c8 => ?_)
  · have c8 := bI_1.mp c8
    obtain ⟨i, hi, rfl⟩ := (pHas_iff (by omega)).mp c8
    refine lv_aload_n hx hb dX6_refusesLeave_18 rfl (lv_at hl 0 rfl) ?_
    refine r_get (v' := .ref (a 17)) hx hb hts in_X6_refusesLeave_X6 hown w 0 0 rfl rfl (ci := 10) rfl 1 (by decide) (hts _ (List.mem_of_getElem? (i := 2) rfl)) rfl rfl rfl dX6_refusesLeave_19 ?_
    refine lv_iload_n hx hb dX6_refusesLeave_22 rfl (lv_at hl 1 rfl) ?_
    refine k_iVN (As := [.int (nI i)]) (rest := []) (Rs := [stB a S, lnB ty a S, weB a S, miB ty a M, rfB r f0 f1 f2 f3]) (Bs' := [stB a S, lnB ty a S, quB ty a S, weB a S, miB ty a M, rfB r f0 f1 f2 f3]) ⟨hx, hb, hml, hown, hts⟩ w (c_X4_placeOf l D ty a S q (hI).2.2.1 (hI).2.2.2.1 (hI).2.2.2.2.2.1 (nI i)) ⟨va_cnB 1 hts gX6_refusesLeave_X4_placeOf_n112 rfl rfl rfl (w.2.2.2.2.2 _ (List.mem_of_getElem? (i := 60) rfl)) (hts _ (List.mem_of_getElem? (i := 17) rfl)) hdN_X4_placeOf ⟨Nat.le_of_ble_eq_true rfl, Nat.le_of_ble_eq_true rfl⟩, (hts _ (List.mem_of_getElem? (i := 16) rfl)), (hts _ (List.mem_of_getElem? (i := 18) rfl))⟩ [2, 0, 1, 3, 4, 5] (nB := 6) (by decide) rfl rfl rfl rfl 2 rfl rfl (ci := 8) rfl rfl rfl hl.1 rfl (Nat.le_of_ble_eq_true rfl) dX6_refusesLeave_23 ⟨(Nat.zero_le _), (Nat.zero_le _)⟩ (fun H locs w => ?_)
    refine lv_iconst (v := (-1)) hx hb dX6_refusesLeave_26 (by decide) ?_
    refine lv_icmp_ne (tgt := 43) hx hb dX6_refusesLeave_27 (by decide) (fun c27 => ?_) (fun c27 => ?_)
    · refine lv_iconst (v := 0) hx hb dX6_refusesLeave_43 (by decide) ?_
      have hW : wLeave S (nI i) = (0, 0) := (by rw [wLeave_e hI, if_pos c8, if_neg c27])
      exact e_z (ty := .boolean) hx hb hr rfl hlocks (w.cast (by rw [rfW_0 (r := r) (f0 := f0) (f1 := f1) (f2 := f2) (f3 := f3) hW])) (wB_0 hW) dX6_refusesLeave_44 (Nat.le_refl _) (Nat.le_refl _)
    · refine lv_aload_n hx hb dX6_refusesLeave_30 rfl (lv_at hl 2 rfl) ?_
      refine lv_iconst (v := 5) hx hb dX6_refusesLeave_31 (by decide) ?_
      refine lv_iconst (v := 0) hx hb dX6_refusesLeave_32 (by decide) ?_
      refine k_iVN (As := [.int 5, .int 0]) (rest := []) (Rs := [stB a S, lnB ty a S, quB ty a S, weB a S, miB ty a M]) (Bs' := [stB a S, lnB ty a S, quB ty a S, weB a S, miB ty a M, rfB r 5 0 f3 f3]) ⟨hx, hb, hml, hown, hts⟩ w (c_X5_because l D ty r f0 f1 f2 f3 5 0) ⟨va_cnB 2 hts gX6_refusesLeave_X5_because_n99 rfl rfl rfl (w.2.2.2.2.2 _ (List.mem_of_getElem? (i := 48) rfl)) (hts _ (List.mem_of_getElem? (i := 9) rfl)) hdN_X5_because ⟨Nat.le_of_ble_eq_true rfl, Nat.le_of_ble_eq_true rfl⟩, (hts _ (List.mem_of_getElem? (i := 8) rfl)), (hts _ (List.mem_of_getElem? (i := 10) rfl))⟩ [5, 0, 1, 2, 3, 4] (nB := 6) (by decide) rfl rfl rfl rfl 5 rfl rfl (ci := 9) rfl rfl rfl hl.1 rfl (Nat.le_of_ble_eq_true rfl) dX6_refusesLeave_33 ⟨(Nat.zero_le _), (Nat.zero_le _)⟩ (fun H locs w => ?_)
      refine lv_if_eq (tgt := 43) hx hb dX6_refusesLeave_36 (by decide) (fun c36 => ?_) (fun c36 => ?_)
      · exact absurd c36 (by decide)
      · refine lv_iconst (v := 1) hx hb dX6_refusesLeave_39 (by decide) ?_
        refine lv_goto (tgt := 44) hx hb dX6_refusesLeave_40 (by decide) ?_
        have hW : wLeave S (nI i) = (5, 0) := (by rw [wLeave_e hI, if_pos c8, if_pos c27])
        exact e_z (ty := .boolean) hx hb hr rfl hlocks (w.cast (by rw [rfW_1 (r := r) (f0 := f0) (f1 := f1) (f2 := f2) (f3 := f3) hW (by decide)])) (wB_1 hW (by decide)) dX6_refusesLeave_44 (Nat.le_refl _) (Nat.le_refl _)
  · have c8 := bI_0.mp c8
    refine lv_aload_n hx hb dX6_refusesLeave_11 rfl (lv_at hl 2 rfl) ?_
    refine lv_iconst (v := 3) hx hb dX6_refusesLeave_12 (by decide) ?_
    refine lv_iload_n hx hb dX6_refusesLeave_13 rfl (lv_at hl 1 rfl) ?_
    refine k_iVN (As := [.int 3, .int h]) (rest := []) (Rs := [stB a S, lnB ty a S, quB ty a S, weB a S, miB ty a M]) (Bs' := [stB a S, lnB ty a S, quB ty a S, weB a S, miB ty a M, rfB r 3 h f3 f3]) ⟨hx, hb, hml, hown, hts⟩ w (c_X5_because l D ty r f0 f1 f2 f3 3 h) ⟨va_cnB 2 hts gX6_refusesLeave_X5_because_n99 rfl rfl rfl (w.2.2.2.2.2 _ (List.mem_of_getElem? (i := 48) rfl)) (hts _ (List.mem_of_getElem? (i := 9) rfl)) hdN_X5_because ⟨Nat.le_of_ble_eq_true rfl, Nat.le_of_ble_eq_true rfl⟩, (hts _ (List.mem_of_getElem? (i := 8) rfl)), (hts _ (List.mem_of_getElem? (i := 10) rfl))⟩ [5, 0, 1, 2, 3, 4] (nB := 6) (by decide) rfl rfl rfl rfl 5 rfl rfl (ci := 9) rfl rfl rfl hl.1 rfl (Nat.le_of_ble_eq_true rfl) dX6_refusesLeave_14 ⟨(Nat.zero_le _), (Nat.zero_le _)⟩ (fun H locs w => ?_)
    have hW : wLeave S h = (3, h) := (by rw [wLeave_e hI, if_neg (bt_n c8)])
    exact e_z (ty := .boolean) hx hb hr rfl hlocks (w.cast (by rw [rfW_1 (r := r) (f0 := f0) (f1 := f1) (f2 := f2) (f3 := f3) hW (by decide)])) (wB_1 hW (by decide)) dX6_refusesLeave_17 (Nat.le_refl _) (Nat.le_refl _)

theorem in_X6_refusesDraws_X6 : ∀ w ∈ wsX60, w ∈ wsX6_refusesDraws := by decide +kernel
theorem in_X6_refusesDraws_X7 : ∀ w ∈ wsX70, w ∈ wsX6_refusesDraws := by decide +kernel
theorem hdN_X6_refusesDraws : yX6_refusesDraws.cls ≠ "java/lang/invoke/MethodHandle" ∧ yX6_refusesDraws.cls ≠ "java/lang/invoke/VarHandle" ∧ (parseMethodDescriptor yX6_refusesDraws.desc).map (fun d => d.parameters.length) = some 2 := by decide +kernel
set_option maxRecDepth 100000 in
set_option maxHeartbeats 4000000 in
theorem c_X6_refusesDraws (l : Launch) (D : va_G) (ty : Nat → ClassId) (a : Nat → Nat) (S M : pS) (n q : Nat) (hI : pSh S n q) (r : Nat) (f0 f1 f2 f3 : Int32) (v : Int32)  : Mi l yX6_refusesDraws wsX6_refusesDraws (kR 4 87 0 0) D (kTY ty) [.ref (a 0), .int v, .ref r] [stB a S, lnB ty a S, quB ty a S, weB a S, miB ty a M, rfB r f0 f1 f2 f3] [stB a S, lnB ty a S, quB ty a S, weB a S, miB ty a M, rfW r (wDraw S v) f0 f1 f2 f3] (bI (wB (wDraw S v))) 0 0 := by
  refine m_i (cc := cX6_refusesDraws) (maxL := 4) (ret := (some .boolean)) (by decide +kernel) rfl (Nat.le_of_ble_eq_true rfl) ?_
  intro p e s m below meth c A ls hx hb hml hr hlocks hown hts w hl
  have hown : s.vm.findClass RX6 = some m.cls := hown
  have hl : lv_has ls 4 [(0, .ref (a 0)), (1, .int v), (2, .ref r)] := hl
  obtain ⟨h0, hn, h1, hq, he, hd, hdr, hwr⟩ := id hI
  refine lv_iload_n hx hb dX6_refusesDraws_0 rfl (lv_at hl 1 rfl) ?_
  refine lv_iconst (v := 1) hx hb dX6_refusesDraws_1 (by decide) ?_
  refine lv_bipush (v := 50) hx hb dX6_refusesDraws_2 (by decide) ?_
  refine k_iSN (As := [.int v, .int 1, .int 50]) (rest := []) (Rs := [stB a S, lnB ty a S, quB ty a S, weB a S, miB ty a M, rfB r f0 f1 f2 f3]) (Bs' := [stB a S, lnB ty a S, quB ty a S, weB a S, miB ty a M, rfB r f0 f1 f2 f3]) ⟨hx, hb, hml, hown, hts⟩ w (c_X8_isWithin l D ty v 1 50) ⟨va_cnB 3 hts gX6_refusesDraws_X8_isWithin_n95 rfl rfl rfl (w.2.2.2.2.2 _ (List.mem_of_getElem? (i := 47) rfl)) (hts _ (List.mem_of_getElem? (i := 3) rfl)) hdN_X8_isWithin ⟨Nat.le_of_ble_eq_true rfl, Nat.le_of_ble_eq_true rfl⟩, (hts _ (List.mem_of_getElem? (i := 2) rfl)), trivial⟩ [0, 1, 2, 3, 4, 5] (nB := 6) (by decide) rfl rfl rfl rfl rfl hl.1 rfl (Nat.le_of_ble_eq_true rfl) dX6_refusesDraws_4 ⟨(Nat.zero_le _), (Nat.zero_le _)⟩ (fun H locs w => ?_)
  refine lv_if_ne (tgt := 17) hx hb dX6_refusesDraws_7 (by decide) (fun c7 => ?_) (fun c7 => ?_)
  · have c7 := bI_1.mp c7
    obtain ⟨j, hj1, hj, rfl⟩ := pIn_nat (k := 50) (by omega) c7
    refine lv_aload_n hx hb dX6_refusesDraws_17 rfl (lv_at hl 0 rfl) ?_
    refine k_iV (As := []) (rest := []) (Rs := [rfB r f0 f1 f2 f3]) (Bs' := [stB a S, lnB ty a S, quB ty a S, weB a S, miB ty a M, rfB r f0 f1 f2 f3]) ⟨hx, hb, hml, hown, hts⟩ w (c_X6_drawsInQueue l D ty a S M n q (hI)) (cwV 0 hts gX6_refusesDraws_X6_drawsInQueue rfl rfl rfl ⟨rfl, hdN_X6_drawsInQueue⟩ ⟨Nat.le_of_ble_eq_true rfl, Nat.le_of_ble_eq_true rfl⟩) [0, 1, 2, 3, 4, 5] (nB := 6) (by decide) rfl rfl rfl rfl 0 rfl rfl (ci := 10) rfl rfl rfl hl.1 rfl (Nat.le_of_ble_eq_true rfl) dX6_refusesDraws_18 ⟨(Nat.zero_le _), (Nat.zero_le _)⟩ (fun H locs w => ?_)
    refine lv_istore_n (lv' := [(3, .int (pAll S q)), (0, .ref (a 0)), (1, .int (nI j)), (2, .ref r)]) hx hb dX6_refusesDraws_21 rfl hl (by decide) rfl (fun ls hl => ?_)
    refine lv_iload_n hx hb dX6_refusesDraws_22 rfl (lv_at hl 2 rfl) ?_
    refine lv_iload_n hx hb dX6_refusesDraws_23 rfl (lv_at hl 0 rfl) ?_
    refine lv_icmp_le (tgt := 35) hx hb dX6_refusesDraws_24 (by decide) (fun c24 => ?_) (fun c24 => ?_)
    · refine lv_aload_n hx hb dX6_refusesDraws_35 rfl (lv_at hl 1 rfl) ?_
      refine r_get (v' := .ref (a 19)) hx hb hts in_X6_refusesDraws_X6 hown w 0 0 rfl rfl (ci := 10) rfl 2 (by decide) (hts _ (List.mem_of_getElem? (i := 1) rfl)) rfl rfl rfl dX6_refusesDraws_36 ?_
      refine lv_iload_n hx hb dX6_refusesDraws_39 rfl (lv_at hl 2 rfl) ?_
      refine k_iVN (As := [.int (nI j)]) (rest := []) (Rs := [stB a S, lnB ty a S, quB ty a S, miB ty a M, rfB r f0 f1 f2 f3]) (Bs' := [stB a S, lnB ty a S, quB ty a S, weB a S, miB ty a M, rfB r f0 f1 f2 f3]) ⟨hx, hb, hml, hown, hts⟩ w (c_X7_waterOf l D ty a S j (by omega)) ⟨va_cnB 1 hts gX6_refusesDraws_X7_waterOf_n143 rfl rfl rfl (w.2.2.2.2.2 _ (List.mem_of_getElem? (i := 72) rfl)) (hts _ (List.mem_of_getElem? (i := 40) rfl)) hdN_X7_waterOf ⟨Nat.le_of_ble_eq_true rfl, Nat.le_of_ble_eq_true rfl⟩, (hts _ (List.mem_of_getElem? (i := 39) rfl)), (hts _ (List.mem_of_getElem? (i := 41) rfl))⟩ [3, 0, 1, 2, 4, 5] (nB := 6) (by decide) rfl rfl rfl rfl 3 rfl rfl (ci := 11) rfl rfl rfl hl.1 rfl (Nat.le_of_ble_eq_true rfl) dX6_refusesDraws_40 ⟨(Nat.zero_le _), (Nat.zero_le _)⟩ (fun H locs w => ?_)
      refine lv_aload_n hx hb dX6_refusesDraws_43 rfl (lv_at hl 1 rfl) ?_
      refine r_get (v' := .ref (a 19)) hx hb hts in_X6_refusesDraws_X6 hown w 0 0 rfl rfl (ci := 10) rfl 2 (by decide) (hts _ (List.mem_of_getElem? (i := 1) rfl)) rfl rfl rfl dX6_refusesDraws_44 ?_
      refine r_getN (v' := .int (S 204)) hx hb hts in_X6_refusesDraws_X7 hown w 3 0 rfl rfl (ci := 11) rfl 0 (by decide) (w.2.2.2.2.2 _ (List.mem_of_getElem? (i := 21) rfl)) rfl rfl rfl dX6_refusesDraws_47 ?_
      refine lv_icmp_le (tgt := 73) hx hb dX6_refusesDraws_50 (by decide) (fun c50 => ?_) (fun c50 => ?_)
      · refine lv_iconst (v := 0) hx hb dX6_refusesDraws_73 (by decide) ?_
        have hW : wDraw S (nI j) = (0, 0) := (by rw [wDraw_e hI, if_pos c7, if_neg (Int32.not_lt.mpr c24), cN_nI (by omega), if_neg (Int32.not_lt.mpr c50)])
        exact e_z (ty := .boolean) hx hb hr rfl hlocks (w.cast (by rw [rfW_0 (r := r) (f0 := f0) (f1 := f1) (f2 := f2) (f3 := f3) hW])) (wB_0 hW) dX6_refusesDraws_74 (Nat.le_refl _) (Nat.le_refl _)
      · refine lv_aload_n hx hb dX6_refusesDraws_53 rfl (lv_at hl 3 rfl) ?_
        refine lv_bipush (v := 8) hx hb dX6_refusesDraws_54 (by decide) ?_
        refine lv_aload_n hx hb dX6_refusesDraws_56 rfl (lv_at hl 1 rfl) ?_
        refine r_get (v' := .ref (a 19)) hx hb hts in_X6_refusesDraws_X6 hown w 0 0 rfl rfl (ci := 10) rfl 2 (by decide) (hts _ (List.mem_of_getElem? (i := 1) rfl)) rfl rfl rfl dX6_refusesDraws_57 ?_
        refine r_getN (v' := .int (S 204)) hx hb hts in_X6_refusesDraws_X7 hown w 3 0 rfl rfl (ci := 11) rfl 0 (by decide) (w.2.2.2.2.2 _ (List.mem_of_getElem? (i := 21) rfl)) rfl rfl rfl dX6_refusesDraws_60 ?_
        refine k_iVN (As := [.int 8, .int (S 204)]) (rest := []) (Rs := [stB a S, lnB ty a S, quB ty a S, weB a S, miB ty a M]) (Bs' := [stB a S, lnB ty a S, quB ty a S, weB a S, miB ty a M, rfB r 8 (S 204) f3 f3]) ⟨hx, hb, hml, hown, hts⟩ w (c_X5_because l D ty r f0 f1 f2 f3 8 (S 204)) ⟨va_cnB 2 hts gX6_refusesDraws_X5_because_n99 rfl rfl rfl (w.2.2.2.2.2 _ (List.mem_of_getElem? (i := 48) rfl)) (hts _ (List.mem_of_getElem? (i := 6) rfl)) hdN_X5_because ⟨Nat.le_of_ble_eq_true rfl, Nat.le_of_ble_eq_true rfl⟩, (hts _ (List.mem_of_getElem? (i := 5) rfl)), (hts _ (List.mem_of_getElem? (i := 7) rfl))⟩ [5, 0, 1, 2, 3, 4] (nB := 6) (by decide) rfl rfl rfl rfl 5 rfl rfl (ci := 9) rfl rfl rfl hl.1 rfl (Nat.le_of_ble_eq_true rfl) dX6_refusesDraws_63 ⟨(Nat.zero_le _), (Nat.zero_le _)⟩ (fun H locs w => ?_)
        refine lv_if_eq (tgt := 73) hx hb dX6_refusesDraws_66 (by decide) (fun c66 => ?_) (fun c66 => ?_)
        · exact absurd c66 (by decide)
        · refine lv_iconst (v := 1) hx hb dX6_refusesDraws_69 (by decide) ?_
          refine lv_goto (tgt := 74) hx hb dX6_refusesDraws_70 (by decide) ?_
          have hW : wDraw S (nI j) = (8, S 204) := (by rw [wDraw_e hI, if_pos c7, if_neg (Int32.not_lt.mpr c24), cN_nI (by omega), if_pos (Int32.not_le.mp c50)])
          exact e_z (ty := .boolean) hx hb hr rfl hlocks (w.cast (by rw [rfW_1 (r := r) (f0 := f0) (f1 := f1) (f2 := f2) (f3 := f3) hW (by decide)])) (wB_1 hW (by decide)) dX6_refusesDraws_74 (Nat.le_refl _) (Nat.le_refl _)
    · refine lv_aload_n hx hb dX6_refusesDraws_27 rfl (lv_at hl 3 rfl) ?_
      refine lv_bipush (v := 7) hx hb dX6_refusesDraws_28 (by decide) ?_
      refine lv_iload_n hx hb dX6_refusesDraws_30 rfl (lv_at hl 0 rfl) ?_
      refine k_iVN (As := [.int 7, .int (pAll S q)]) (rest := []) (Rs := [stB a S, lnB ty a S, quB ty a S, weB a S, miB ty a M]) (Bs' := [stB a S, lnB ty a S, quB ty a S, weB a S, miB ty a M, rfB r 7 (pAll S q) f3 f3]) ⟨hx, hb, hml, hown, hts⟩ w (c_X5_because l D ty r f0 f1 f2 f3 7 (pAll S q)) ⟨va_cnB 2 hts gX6_refusesDraws_X5_because_n99 rfl rfl rfl (w.2.2.2.2.2 _ (List.mem_of_getElem? (i := 48) rfl)) (hts _ (List.mem_of_getElem? (i := 6) rfl)) hdN_X5_because ⟨Nat.le_of_ble_eq_true rfl, Nat.le_of_ble_eq_true rfl⟩, (hts _ (List.mem_of_getElem? (i := 5) rfl)), (hts _ (List.mem_of_getElem? (i := 7) rfl))⟩ [5, 0, 1, 2, 3, 4] (nB := 6) (by decide) rfl rfl rfl rfl 5 rfl rfl (ci := 9) rfl rfl rfl hl.1 rfl (Nat.le_of_ble_eq_true rfl) dX6_refusesDraws_31 ⟨(Nat.zero_le _), (Nat.zero_le _)⟩ (fun H locs w => ?_)
      have hW : wDraw S (nI j) = (7, pAll S q) := (by rw [wDraw_e hI, if_pos c7, if_pos (Int32.not_le.mp c24)])
      exact e_z (ty := .boolean) hx hb hr rfl hlocks (w.cast (by rw [rfW_1 (r := r) (f0 := f0) (f1 := f1) (f2 := f2) (f3 := f3) hW (by decide)])) (wB_1 hW (by decide)) dX6_refusesDraws_34 (Nat.le_refl _) (Nat.le_refl _)
  · have c7 := bI_0.mp c7
    refine lv_aload_n hx hb dX6_refusesDraws_10 rfl (lv_at hl 2 rfl) ?_
    refine lv_iconst (v := 1) hx hb dX6_refusesDraws_11 (by decide) ?_
    refine lv_iconst (v := 0) hx hb dX6_refusesDraws_12 (by decide) ?_
    refine k_iVN (As := [.int 1, .int 0]) (rest := []) (Rs := [stB a S, lnB ty a S, quB ty a S, weB a S, miB ty a M]) (Bs' := [stB a S, lnB ty a S, quB ty a S, weB a S, miB ty a M, rfB r 1 0 f3 f3]) ⟨hx, hb, hml, hown, hts⟩ w (c_X5_because l D ty r f0 f1 f2 f3 1 0) ⟨va_cnB 2 hts gX6_refusesDraws_X5_because_n99 rfl rfl rfl (w.2.2.2.2.2 _ (List.mem_of_getElem? (i := 48) rfl)) (hts _ (List.mem_of_getElem? (i := 6) rfl)) hdN_X5_because ⟨Nat.le_of_ble_eq_true rfl, Nat.le_of_ble_eq_true rfl⟩, (hts _ (List.mem_of_getElem? (i := 5) rfl)), (hts _ (List.mem_of_getElem? (i := 7) rfl))⟩ [5, 0, 1, 2, 3, 4] (nB := 6) (by decide) rfl rfl rfl rfl 5 rfl rfl (ci := 9) rfl rfl rfl hl.1 rfl (Nat.le_of_ble_eq_true rfl) dX6_refusesDraws_13 ⟨(Nat.zero_le _), (Nat.zero_le _)⟩ (fun H locs w => ?_)
    have hW : wDraw S v = (1, 0) := (by rw [wDraw_e hI, if_neg (bt_n c7)])
    exact e_z (ty := .boolean) hx hb hr rfl hlocks (w.cast (by rw [rfW_1 (r := r) (f0 := f0) (f1 := f1) (f2 := f2) (f3 := f3) hW (by decide)])) (wB_1 hW (by decide)) dX6_refusesDraws_16 (Nat.le_refl _) (Nat.le_refl _)

theorem in_X6_refusesVote_X2 : ∀ w ∈ wsX20, w ∈ wsX6_refusesVote := by decide +kernel
theorem in_X6_refusesVote_X6 : ∀ w ∈ wsX60, w ∈ wsX6_refusesVote := by decide +kernel
theorem hdN_X6_refusesVote : yX6_refusesVote.cls ≠ "java/lang/invoke/MethodHandle" ∧ yX6_refusesVote.cls ≠ "java/lang/invoke/VarHandle" ∧ (parseMethodDescriptor yX6_refusesVote.desc).map (fun d => d.parameters.length) = some 1 := by decide +kernel
set_option maxRecDepth 100000 in
set_option maxHeartbeats 4000000 in
theorem c_X6_refusesVote (l : Launch) (D : va_G) (ty : Nat → ClassId) (a : Nat → Nat) (S M : pS) (n q : Nat) (hI : pSh S n q) (r : Nat) (f0 f1 f2 f3 : Int32)  : Mi l yX6_refusesVote wsX6_refusesVote (kR 1 22 0 0) D (kTY ty) [.ref (a 0), .ref r] [stB a S, lnB ty a S, quB ty a S, weB a S, miB ty a M, rfB r f0 f1 f2 f3] [stB a S, lnB ty a S, quB ty a S, weB a S, miB ty a M, rfW r (wVote S) f0 f1 f2 f3] (bI (wB (wVote S))) 0 0 := by
  refine m_i (cc := cX6_refusesVote) (maxL := 2) (ret := (some .boolean)) (by decide +kernel) rfl (Nat.le_of_ble_eq_true rfl) ?_
  intro p e s m below meth c A ls hx hb hml hr hlocks hown hts w hl
  have hown : s.vm.findClass RX6 = some m.cls := hown
  have hl : lv_has ls 2 [(0, .ref (a 0)), (1, .ref r)] := hl
  obtain ⟨h0, hn, h1, hq, he, hd, hdr, hwr⟩ := id hI
  refine lv_aload_n hx hb dX6_refusesVote_0 rfl (lv_at hl 0 rfl) ?_
  refine r_get (v' := .ref (a 1)) hx hb hts in_X6_refusesVote_X6 hown w 0 0 rfl rfl (ci := 10) rfl 0 (by decide) (hts _ (List.mem_of_getElem? (i := 1) rfl)) rfl rfl rfl dX6_refusesVote_1 ?_
  refine r_getN (v' := .int (S 0)) hx hb hts in_X6_refusesVote_X2 hown w 1 0 rfl rfl (ci := 6) rfl 0 (by decide) (w.2.2.2.2.2 _ (List.mem_of_getElem? (i := 2) rfl)) rfl rfl rfl dX6_refusesVote_4 ?_
  refine lv_if_ne (tgt := 23) hx hb dX6_refusesVote_7 (by decide) (fun c7 => ?_) (fun c7 => ?_)
  · refine lv_iconst (v := 0) hx hb dX6_refusesVote_23 (by decide) ?_
    have hW : wVote S = (0, 0) := (by rw [wVote, if_neg c7])
    exact e_z (ty := .boolean) hx hb hr rfl hlocks (w.cast (by rw [rfW_0 (r := r) (f0 := f0) (f1 := f1) (f2 := f2) (f3 := f3) hW])) (wB_0 hW) dX6_refusesVote_24 (Nat.le_refl _) (Nat.le_refl _)
  · refine lv_aload_n hx hb dX6_refusesVote_10 rfl (lv_at hl 1 rfl) ?_
    refine lv_iconst (v := 3) hx hb dX6_refusesVote_11 (by decide) ?_
    refine lv_iconst (v := 0) hx hb dX6_refusesVote_12 (by decide) ?_
    refine k_iVN (As := [.int 3, .int 0]) (rest := []) (Rs := [stB a S, lnB ty a S, quB ty a S, weB a S, miB ty a M]) (Bs' := [stB a S, lnB ty a S, quB ty a S, weB a S, miB ty a M, rfB r 3 0 f3 f3]) ⟨hx, hb, hml, hown, hts⟩ w (c_X5_because l D ty r f0 f1 f2 f3 3 0) ⟨va_cnB 2 hts gX6_refusesVote_X5_because_n99 rfl rfl rfl (w.2.2.2.2.2 _ (List.mem_of_getElem? (i := 48) rfl)) (hts _ (List.mem_of_getElem? (i := 3) rfl)) hdN_X5_because ⟨Nat.le_of_ble_eq_true rfl, Nat.le_of_ble_eq_true rfl⟩, (hts _ (List.mem_of_getElem? (i := 2) rfl)), (hts _ (List.mem_of_getElem? (i := 4) rfl))⟩ [5, 0, 1, 2, 3, 4] (nB := 6) (by decide) rfl rfl rfl rfl 5 rfl rfl (ci := 9) rfl rfl rfl hl.1 rfl (Nat.le_of_ble_eq_true rfl) dX6_refusesVote_13 ⟨(Nat.zero_le _), (Nat.zero_le _)⟩ (fun H locs w => ?_)
    refine lv_if_eq (tgt := 23) hx hb dX6_refusesVote_16 (by decide) (fun c16 => ?_) (fun c16 => ?_)
    · exact absurd c16 (by decide)
    · refine lv_iconst (v := 1) hx hb dX6_refusesVote_19 (by decide) ?_
      refine lv_goto (tgt := 24) hx hb dX6_refusesVote_20 (by decide) ?_
      have hW : wVote S = (3, 0) := (by rw [wVote, if_pos c7])
      exact e_z (ty := .boolean) hx hb hr rfl hlocks (w.cast (by rw [rfW_1 (r := r) (f0 := f0) (f1 := f1) (f2 := f2) (f3 := f3) hW (by decide)])) (wB_1 hW (by decide)) dX6_refusesVote_24 (Nat.le_refl _) (Nat.le_refl _)

theorem hdN_X6_refusesRain : yX6_refusesRain.cls ≠ "java/lang/invoke/MethodHandle" ∧ yX6_refusesRain.cls ≠ "java/lang/invoke/VarHandle" ∧ (parseMethodDescriptor yX6_refusesRain.desc).map (fun d => d.parameters.length) = some 2 := by decide +kernel
set_option maxRecDepth 100000 in
set_option maxHeartbeats 4000000 in
theorem c_X6_refusesRain (l : Launch) (D : va_G) (ty : Nat → ClassId) (a : Nat → Nat) (S M : pS) (n q : Nat) (hI : pSh S n q) (r : Nat) (f0 f1 f2 f3 : Int32) (v : Int32)  : Mi l yX6_refusesRain wsX6_refusesRain (kR 1 22 0 0) D (kTY ty) [.ref (a 0), .int v, .ref r] [stB a S, lnB ty a S, quB ty a S, weB a S, miB ty a M, rfB r f0 f1 f2 f3] [stB a S, lnB ty a S, quB ty a S, weB a S, miB ty a M, rfW r (wRain v) f0 f1 f2 f3] (bI (wB (wRain v))) 0 0 := by
  refine m_i (cc := cX6_refusesRain) (maxL := 3) (ret := (some .boolean)) (by decide +kernel) rfl (Nat.le_of_ble_eq_true rfl) ?_
  intro p e s m below meth c A ls hx hb hml hr hlocks hown hts w hl
  have hown : s.vm.findClass RX6 = some m.cls := hown
  have hl : lv_has ls 3 [(0, .ref (a 0)), (1, .int v), (2, .ref r)] := hl
  obtain ⟨h0, hn, h1, hq, he, hd, hdr, hwr⟩ := id hI
  refine lv_iload_n hx hb dX6_refusesRain_0 rfl (lv_at hl 1 rfl) ?_
  refine lv_iconst (v := 0) hx hb dX6_refusesRain_1 (by decide) ?_
  refine lv_bipush (v := 9) hx hb dX6_refusesRain_2 (by decide) ?_
  refine k_iSN (As := [.int v, .int 0, .int 9]) (rest := []) (Rs := [stB a S, lnB ty a S, quB ty a S, weB a S, miB ty a M, rfB r f0 f1 f2 f3]) (Bs' := [stB a S, lnB ty a S, quB ty a S, weB a S, miB ty a M, rfB r f0 f1 f2 f3]) ⟨hx, hb, hml, hown, hts⟩ w (c_X8_isWithin l D ty v 0 9) ⟨va_cnB 3 hts gX6_refusesRain_X8_isWithin_n95 rfl rfl rfl (w.2.2.2.2.2 _ (List.mem_of_getElem? (i := 47) rfl)) (hts _ (List.mem_of_getElem? (i := 2) rfl)) hdN_X8_isWithin ⟨Nat.le_of_ble_eq_true rfl, Nat.le_of_ble_eq_true rfl⟩, (hts _ (List.mem_of_getElem? (i := 1) rfl)), trivial⟩ [0, 1, 2, 3, 4, 5] (nB := 6) (by decide) rfl rfl rfl rfl rfl hl.1 rfl (Nat.le_of_ble_eq_true rfl) dX6_refusesRain_4 ⟨(Nat.zero_le _), (Nat.zero_le _)⟩ (fun H locs w => ?_)
  refine lv_if_ne (tgt := 23) hx hb dX6_refusesRain_7 (by decide) (fun c7 => ?_) (fun c7 => ?_)
  · have c7 := bI_1.mp c7
    refine lv_iconst (v := 0) hx hb dX6_refusesRain_23 (by decide) ?_
    have hW : wRain v = (0, 0) := (by rw [wRain, if_pos c7])
    exact e_z (ty := .boolean) hx hb hr rfl hlocks (w.cast (by rw [rfW_0 (r := r) (f0 := f0) (f1 := f1) (f2 := f2) (f3 := f3) hW])) (wB_0 hW) dX6_refusesRain_24 (Nat.le_refl _) (Nat.le_refl _)
  · have c7 := bI_0.mp c7
    refine lv_aload_n hx hb dX6_refusesRain_10 rfl (lv_at hl 2 rfl) ?_
    refine lv_iconst (v := 1) hx hb dX6_refusesRain_11 (by decide) ?_
    refine lv_iconst (v := 0) hx hb dX6_refusesRain_12 (by decide) ?_
    refine k_iVN (As := [.int 1, .int 0]) (rest := []) (Rs := [stB a S, lnB ty a S, quB ty a S, weB a S, miB ty a M]) (Bs' := [stB a S, lnB ty a S, quB ty a S, weB a S, miB ty a M, rfB r 1 0 f3 f3]) ⟨hx, hb, hml, hown, hts⟩ w (c_X5_because l D ty r f0 f1 f2 f3 1 0) ⟨va_cnB 2 hts gX6_refusesRain_X5_because_n99 rfl rfl rfl (w.2.2.2.2.2 _ (List.mem_of_getElem? (i := 48) rfl)) (hts _ (List.mem_of_getElem? (i := 5) rfl)) hdN_X5_because ⟨Nat.le_of_ble_eq_true rfl, Nat.le_of_ble_eq_true rfl⟩, (hts _ (List.mem_of_getElem? (i := 4) rfl)), (hts _ (List.mem_of_getElem? (i := 6) rfl))⟩ [5, 0, 1, 2, 3, 4] (nB := 6) (by decide) rfl rfl rfl rfl 5 rfl rfl (ci := 9) rfl rfl rfl hl.1 rfl (Nat.le_of_ble_eq_true rfl) dX6_refusesRain_13 ⟨(Nat.zero_le _), (Nat.zero_le _)⟩ (fun H locs w => ?_)
    refine lv_if_eq (tgt := 23) hx hb dX6_refusesRain_16 (by decide) (fun c16 => ?_) (fun c16 => ?_)
    · exact absurd c16 (by decide)
    · refine lv_iconst (v := 1) hx hb dX6_refusesRain_19 (by decide) ?_
      refine lv_goto (tgt := 24) hx hb dX6_refusesRain_20 (by decide) ?_
      have hW : wRain v = (1, 0) := (by rw [wRain, if_neg (bt_n c7)])
      exact e_z (ty := .boolean) hx hb hr rfl hlocks (w.cast (by rw [rfW_1 (r := r) (f0 := f0) (f1 := f1) (f2 := f2) (f3 := f3) hW (by decide)])) (wB_1 hW (by decide)) dX6_refusesRain_24 (Nat.le_refl _) (Nat.le_refl _)

theorem hdN_X6_refusesNights : yX6_refusesNights.cls ≠ "java/lang/invoke/MethodHandle" ∧ yX6_refusesNights.cls ≠ "java/lang/invoke/VarHandle" ∧ (parseMethodDescriptor yX6_refusesNights.desc).map (fun d => d.parameters.length) = some 2 := by decide +kernel
set_option maxRecDepth 100000 in
set_option maxHeartbeats 4000000 in
theorem c_X6_refusesNights (l : Launch) (D : va_G) (ty : Nat → ClassId) (a : Nat → Nat) (S M : pS) (n q : Nat) (hI : pSh S n q) (r : Nat) (f0 f1 f2 f3 : Int32) (v : Int32)  : Mi l yX6_refusesNights wsX6_refusesNights (kR 1 22 0 0) D (kTY ty) [.ref (a 0), .int v, .ref r] [stB a S, lnB ty a S, quB ty a S, weB a S, miB ty a M, rfB r f0 f1 f2 f3] [stB a S, lnB ty a S, quB ty a S, weB a S, miB ty a M, rfW r (wNight v) f0 f1 f2 f3] (bI (wB (wNight v))) 0 0 := by
  refine m_i (cc := cX6_refusesNights) (maxL := 3) (ret := (some .boolean)) (by decide +kernel) rfl (Nat.le_of_ble_eq_true rfl) ?_
  intro p e s m below meth c A ls hx hb hml hr hlocks hown hts w hl
  have hown : s.vm.findClass RX6 = some m.cls := hown
  have hl : lv_has ls 3 [(0, .ref (a 0)), (1, .int v), (2, .ref r)] := hl
  obtain ⟨h0, hn, h1, hq, he, hd, hdr, hwr⟩ := id hI
  refine lv_iload_n hx hb dX6_refusesNights_0 rfl (lv_at hl 1 rfl) ?_
  refine lv_iconst (v := 1) hx hb dX6_refusesNights_1 (by decide) ?_
  refine lv_bipush (v := 50) hx hb dX6_refusesNights_2 (by decide) ?_
  refine k_iSN (As := [.int v, .int 1, .int 50]) (rest := []) (Rs := [stB a S, lnB ty a S, quB ty a S, weB a S, miB ty a M, rfB r f0 f1 f2 f3]) (Bs' := [stB a S, lnB ty a S, quB ty a S, weB a S, miB ty a M, rfB r f0 f1 f2 f3]) ⟨hx, hb, hml, hown, hts⟩ w (c_X8_isWithin l D ty v 1 50) ⟨va_cnB 3 hts gX6_refusesNights_X8_isWithin_n95 rfl rfl rfl (w.2.2.2.2.2 _ (List.mem_of_getElem? (i := 47) rfl)) (hts _ (List.mem_of_getElem? (i := 2) rfl)) hdN_X8_isWithin ⟨Nat.le_of_ble_eq_true rfl, Nat.le_of_ble_eq_true rfl⟩, (hts _ (List.mem_of_getElem? (i := 1) rfl)), trivial⟩ [0, 1, 2, 3, 4, 5] (nB := 6) (by decide) rfl rfl rfl rfl rfl hl.1 rfl (Nat.le_of_ble_eq_true rfl) dX6_refusesNights_4 ⟨(Nat.zero_le _), (Nat.zero_le _)⟩ (fun H locs w => ?_)
  refine lv_if_ne (tgt := 23) hx hb dX6_refusesNights_7 (by decide) (fun c7 => ?_) (fun c7 => ?_)
  · have c7 := bI_1.mp c7
    refine lv_iconst (v := 0) hx hb dX6_refusesNights_23 (by decide) ?_
    have hW : wNight v = (0, 0) := (by rw [wNight, if_pos c7])
    exact e_z (ty := .boolean) hx hb hr rfl hlocks (w.cast (by rw [rfW_0 (r := r) (f0 := f0) (f1 := f1) (f2 := f2) (f3 := f3) hW])) (wB_0 hW) dX6_refusesNights_24 (Nat.le_refl _) (Nat.le_refl _)
  · have c7 := bI_0.mp c7
    refine lv_aload_n hx hb dX6_refusesNights_10 rfl (lv_at hl 2 rfl) ?_
    refine lv_iconst (v := 1) hx hb dX6_refusesNights_11 (by decide) ?_
    refine lv_iconst (v := 0) hx hb dX6_refusesNights_12 (by decide) ?_
    refine k_iVN (As := [.int 1, .int 0]) (rest := []) (Rs := [stB a S, lnB ty a S, quB ty a S, weB a S, miB ty a M]) (Bs' := [stB a S, lnB ty a S, quB ty a S, weB a S, miB ty a M, rfB r 1 0 f3 f3]) ⟨hx, hb, hml, hown, hts⟩ w (c_X5_because l D ty r f0 f1 f2 f3 1 0) ⟨va_cnB 2 hts gX6_refusesNights_X5_because_n99 rfl rfl rfl (w.2.2.2.2.2 _ (List.mem_of_getElem? (i := 48) rfl)) (hts _ (List.mem_of_getElem? (i := 5) rfl)) hdN_X5_because ⟨Nat.le_of_ble_eq_true rfl, Nat.le_of_ble_eq_true rfl⟩, (hts _ (List.mem_of_getElem? (i := 4) rfl)), (hts _ (List.mem_of_getElem? (i := 6) rfl))⟩ [5, 0, 1, 2, 3, 4] (nB := 6) (by decide) rfl rfl rfl rfl 5 rfl rfl (ci := 9) rfl rfl rfl hl.1 rfl (Nat.le_of_ble_eq_true rfl) dX6_refusesNights_13 ⟨(Nat.zero_le _), (Nat.zero_le _)⟩ (fun H locs w => ?_)
    refine lv_if_eq (tgt := 23) hx hb dX6_refusesNights_16 (by decide) (fun c16 => ?_) (fun c16 => ?_)
    · exact absurd c16 (by decide)
    · refine lv_iconst (v := 1) hx hb dX6_refusesNights_19 (by decide) ?_
      refine lv_goto (tgt := 24) hx hb dX6_refusesNights_20 (by decide) ?_
      have hW : wNight v = (1, 0) := (by rw [wNight, if_neg (bt_n c7)])
      exact e_z (ty := .boolean) hx hb hr rfl hlocks (w.cast (by rw [rfW_1 (r := r) (f0 := f0) (f1 := f1) (f2 := f2) (f3 := f3) hW (by decide)])) (wB_1 hW (by decide)) dX6_refusesNights_24 (Nat.le_refl _) (Nat.le_refl _)

theorem in_X6_refusesCoins_X6 : ∀ w ∈ wsX60, w ∈ wsX6_refusesCoins := by decide +kernel
theorem hdN_X6_refusesCoins : yX6_refusesCoins.cls ≠ "java/lang/invoke/MethodHandle" ∧ yX6_refusesCoins.cls ≠ "java/lang/invoke/VarHandle" ∧ (parseMethodDescriptor yX6_refusesCoins.desc).map (fun d => d.parameters.length) = some 2 := by decide +kernel
set_option maxRecDepth 100000 in
set_option maxHeartbeats 4000000 in
theorem c_X6_refusesCoins (l : Launch) (D : va_G) (ty : Nat → ClassId) (a : Nat → Nat) (S M : pS) (n q : Nat) (hI : pSh S n q) (r : Nat) (f0 f1 f2 f3 : Int32) (v : Int32)  : Mi l yX6_refusesCoins wsX6_refusesCoins (kR 1 22 0 0) D (kTY ty) [.ref (a 0), .int v, .ref r] [stB a S, lnB ty a S, quB ty a S, weB a S, miB ty a M, rfB r f0 f1 f2 f3] [stB a S, lnB ty a S, quB ty a S, weB a S, miB ty a M, rfW r (wCoins S v) f0 f1 f2 f3] (bI (wB (wCoins S v))) 0 0 := by
  refine m_i (cc := cX6_refusesCoins) (maxL := 3) (ret := (some .boolean)) (by decide +kernel) rfl (Nat.le_of_ble_eq_true rfl) ?_
  intro p e s m below meth c A ls hx hb hml hr hlocks hown hts w hl
  have hown : s.vm.findClass RX6 = some m.cls := hown
  have hl : lv_has ls 3 [(0, .ref (a 0)), (1, .int v), (2, .ref r)] := hl
  obtain ⟨h0, hn, h1, hq, he, hd, hdr, hwr⟩ := id hI
  refine lv_iload_n hx hb dX6_refusesCoins_0 rfl (lv_at hl 1 rfl) ?_
  refine lv_iconst (v := 1) hx hb dX6_refusesCoins_1 (by decide) ?_
  refine lv_bipush (v := 100) hx hb dX6_refusesCoins_2 (by decide) ?_
  refine k_iSN (As := [.int v, .int 1, .int 100]) (rest := []) (Rs := [stB a S, lnB ty a S, quB ty a S, weB a S, miB ty a M, rfB r f0 f1 f2 f3]) (Bs' := [stB a S, lnB ty a S, quB ty a S, weB a S, miB ty a M, rfB r f0 f1 f2 f3]) ⟨hx, hb, hml, hown, hts⟩ w (c_X8_isWithin l D ty v 1 100) ⟨va_cnB 3 hts gX6_refusesCoins_X8_isWithin_n95 rfl rfl rfl (w.2.2.2.2.2 _ (List.mem_of_getElem? (i := 47) rfl)) (hts _ (List.mem_of_getElem? (i := 3) rfl)) hdN_X8_isWithin ⟨Nat.le_of_ble_eq_true rfl, Nat.le_of_ble_eq_true rfl⟩, (hts _ (List.mem_of_getElem? (i := 2) rfl)), trivial⟩ [0, 1, 2, 3, 4, 5] (nB := 6) (by decide) rfl rfl rfl rfl rfl hl.1 rfl (Nat.le_of_ble_eq_true rfl) dX6_refusesCoins_4 ⟨(Nat.zero_le _), (Nat.zero_le _)⟩ (fun H locs w => ?_)
  refine lv_if_ne (tgt := 17) hx hb dX6_refusesCoins_7 (by decide) (fun c7 => ?_) (fun c7 => ?_)
  · have c7 := bI_1.mp c7
    refine lv_aload_n hx hb dX6_refusesCoins_17 rfl (lv_at hl 0 rfl) ?_
    refine r_get (v' := .int (S 209)) hx hb hts in_X6_refusesCoins_X6 hown w 0 0 rfl rfl (ci := 10) rfl 6 (by decide) (hts _ (List.mem_of_getElem? (i := 1) rfl)) rfl rfl rfl dX6_refusesCoins_18 ?_
    refine lv_iload_n hx hb dX6_refusesCoins_21 rfl (lv_at hl 1 rfl) ?_
    refine lv_iadd hx hb dX6_refusesCoins_22 ?_
    refine lv_sipush (v := 500) hx hb dX6_refusesCoins_23 (by decide) ?_
    refine lv_icmp_le (tgt := 44) hx hb dX6_refusesCoins_26 (by decide) (fun c26 => ?_) (fun c26 => ?_)
    · refine lv_iconst (v := 0) hx hb dX6_refusesCoins_44 (by decide) ?_
      have hW : wCoins S v = (0, 0) := (by rw [wCoins, if_pos c7, if_neg (Int32.not_lt.mpr c26)])
      exact e_z (ty := .boolean) hx hb hr rfl hlocks (w.cast (by rw [rfW_0 (r := r) (f0 := f0) (f1 := f1) (f2 := f2) (f3 := f3) hW])) (wB_0 hW) dX6_refusesCoins_45 (Nat.le_refl _) (Nat.le_refl _)
    · refine lv_aload_n hx hb dX6_refusesCoins_29 rfl (lv_at hl 2 rfl) ?_
      refine lv_iconst (v := 2) hx hb dX6_refusesCoins_30 (by decide) ?_
      refine lv_sipush (v := 500) hx hb dX6_refusesCoins_31 (by decide) ?_
      refine k_iVN (As := [.int 2, .int 500]) (rest := []) (Rs := [stB a S, lnB ty a S, quB ty a S, weB a S, miB ty a M]) (Bs' := [stB a S, lnB ty a S, quB ty a S, weB a S, miB ty a M, rfB r 2 500 f3 f3]) ⟨hx, hb, hml, hown, hts⟩ w (c_X5_because l D ty r f0 f1 f2 f3 2 500) ⟨va_cnB 2 hts gX6_refusesCoins_X5_because_n99 rfl rfl rfl (w.2.2.2.2.2 _ (List.mem_of_getElem? (i := 48) rfl)) (hts _ (List.mem_of_getElem? (i := 6) rfl)) hdN_X5_because ⟨Nat.le_of_ble_eq_true rfl, Nat.le_of_ble_eq_true rfl⟩, (hts _ (List.mem_of_getElem? (i := 5) rfl)), (hts _ (List.mem_of_getElem? (i := 7) rfl))⟩ [5, 0, 1, 2, 3, 4] (nB := 6) (by decide) rfl rfl rfl rfl 5 rfl rfl (ci := 9) rfl rfl rfl hl.1 rfl (Nat.le_of_ble_eq_true rfl) dX6_refusesCoins_34 ⟨(Nat.zero_le _), (Nat.zero_le _)⟩ (fun H locs w => ?_)
      refine lv_if_eq (tgt := 44) hx hb dX6_refusesCoins_37 (by decide) (fun c37 => ?_) (fun c37 => ?_)
      · exact absurd c37 (by decide)
      · refine lv_iconst (v := 1) hx hb dX6_refusesCoins_40 (by decide) ?_
        refine lv_goto (tgt := 45) hx hb dX6_refusesCoins_41 (by decide) ?_
        have hW : wCoins S v = (2, 500) := (by rw [wCoins, if_pos c7, if_pos (Int32.not_le.mp c26)])
        exact e_z (ty := .boolean) hx hb hr rfl hlocks (w.cast (by rw [rfW_1 (r := r) (f0 := f0) (f1 := f1) (f2 := f2) (f3 := f3) hW (by decide)])) (wB_1 hW (by decide)) dX6_refusesCoins_45 (Nat.le_refl _) (Nat.le_refl _)
  · have c7 := bI_0.mp c7
    refine lv_aload_n hx hb dX6_refusesCoins_10 rfl (lv_at hl 2 rfl) ?_
    refine lv_iconst (v := 1) hx hb dX6_refusesCoins_11 (by decide) ?_
    refine lv_iconst (v := 0) hx hb dX6_refusesCoins_12 (by decide) ?_
    refine k_iVN (As := [.int 1, .int 0]) (rest := []) (Rs := [stB a S, lnB ty a S, quB ty a S, weB a S, miB ty a M]) (Bs' := [stB a S, lnB ty a S, quB ty a S, weB a S, miB ty a M, rfB r 1 0 f3 f3]) ⟨hx, hb, hml, hown, hts⟩ w (c_X5_because l D ty r f0 f1 f2 f3 1 0) ⟨va_cnB 2 hts gX6_refusesCoins_X5_because_n99 rfl rfl rfl (w.2.2.2.2.2 _ (List.mem_of_getElem? (i := 48) rfl)) (hts _ (List.mem_of_getElem? (i := 6) rfl)) hdN_X5_because ⟨Nat.le_of_ble_eq_true rfl, Nat.le_of_ble_eq_true rfl⟩, (hts _ (List.mem_of_getElem? (i := 5) rfl)), (hts _ (List.mem_of_getElem? (i := 7) rfl))⟩ [5, 0, 1, 2, 3, 4] (nB := 6) (by decide) rfl rfl rfl rfl 5 rfl rfl (ci := 9) rfl rfl rfl hl.1 rfl (Nat.le_of_ble_eq_true rfl) dX6_refusesCoins_13 ⟨(Nat.zero_le _), (Nat.zero_le _)⟩ (fun H locs w => ?_)
    have hW : wCoins S v = (1, 0) := (by rw [wCoins, if_neg (bt_n c7)])
    exact e_z (ty := .boolean) hx hb hr rfl hlocks (w.cast (by rw [rfW_1 (r := r) (f0 := f0) (f1 := f1) (f2 := f2) (f3 := f3) hW (by decide)])) (wB_1 hW (by decide)) dX6_refusesCoins_16 (Nat.le_refl _) (Nat.le_refl _)

theorem in_X6_refusesLeather_X6 : ∀ w ∈ wsX60, w ∈ wsX6_refusesLeather := by decide +kernel
theorem hdN_X6_refusesLeather : yX6_refusesLeather.cls ≠ "java/lang/invoke/MethodHandle" ∧ yX6_refusesLeather.cls ≠ "java/lang/invoke/VarHandle" ∧ (parseMethodDescriptor yX6_refusesLeather.desc).map (fun d => d.parameters.length) = some 1 := by decide +kernel
set_option maxRecDepth 100000 in
set_option maxHeartbeats 4000000 in
theorem c_X6_refusesLeather (l : Launch) (D : va_G) (ty : Nat → ClassId) (a : Nat → Nat) (S M : pS) (n q : Nat) (hI : pSh S n q) (r : Nat) (f0 f1 f2 f3 : Int32)  : Mi l yX6_refusesLeather wsX6_refusesLeather (kR 1 22 0 0) D (kTY ty) [.ref (a 0), .ref r] [stB a S, lnB ty a S, quB ty a S, weB a S, miB ty a M, rfB r f0 f1 f2 f3] [stB a S, lnB ty a S, quB ty a S, weB a S, miB ty a M, rfW r (wLeather S) f0 f1 f2 f3] (bI (wB (wLeather S))) 0 0 := by
  refine m_i (cc := cX6_refusesLeather) (maxL := 2) (ret := (some .boolean)) (by decide +kernel) rfl (Nat.le_of_ble_eq_true rfl) ?_
  intro p e s m below meth c A ls hx hb hml hr hlocks hown hts w hl
  have hown : s.vm.findClass RX6 = some m.cls := hown
  have hl : lv_has ls 2 [(0, .ref (a 0)), (1, .ref r)] := hl
  obtain ⟨h0, hn, h1, hq, he, hd, hdr, hwr⟩ := id hI
  refine lv_aload_n hx hb dX6_refusesLeather_0 rfl (lv_at hl 0 rfl) ?_
  refine r_get (v' := .int (S 209)) hx hb hts in_X6_refusesLeather_X6 hown w 0 0 rfl rfl (ci := 10) rfl 6 (by decide) (hts _ (List.mem_of_getElem? (i := 1) rfl)) rfl rfl rfl dX6_refusesLeather_1 ?_
  refine lv_bipush (v := 20) hx hb dX6_refusesLeather_4 (by decide) ?_
  refine lv_icmp_ge (tgt := 29) hx hb dX6_refusesLeather_6 (by decide) (fun c6 => ?_) (fun c6 => ?_)
  · refine lv_iconst (v := 0) hx hb dX6_refusesLeather_29 (by decide) ?_
    have hW : wLeather S = (0, 0) := (by rw [wLeather, if_neg (Int32.not_lt.mpr c6)])
    exact e_z (ty := .boolean) hx hb hr rfl hlocks (w.cast (by rw [rfW_0 (r := r) (f0 := f0) (f1 := f1) (f2 := f2) (f3 := f3) hW])) (wB_0 hW) dX6_refusesLeather_30 (Nat.le_refl _) (Nat.le_refl _)
  · refine lv_aload_n hx hb dX6_refusesLeather_9 rfl (lv_at hl 1 rfl) ?_
    refine lv_bipush (v := 9) hx hb dX6_refusesLeather_10 (by decide) ?_
    refine lv_bipush (v := 20) hx hb dX6_refusesLeather_12 (by decide) ?_
    refine lv_aload_n hx hb dX6_refusesLeather_14 rfl (lv_at hl 0 rfl) ?_
    refine r_get (v' := .int (S 209)) hx hb hts in_X6_refusesLeather_X6 hown w 0 0 rfl rfl (ci := 10) rfl 6 (by decide) (hts _ (List.mem_of_getElem? (i := 1) rfl)) rfl rfl rfl dX6_refusesLeather_15 ?_
    refine lv_isub hx hb dX6_refusesLeather_18 ?_
    refine k_iVN (As := [.int 9, .int (20 - (S 209))]) (rest := []) (Rs := [stB a S, lnB ty a S, quB ty a S, weB a S, miB ty a M]) (Bs' := [stB a S, lnB ty a S, quB ty a S, weB a S, miB ty a M, rfB r 9 (20 - (S 209)) f3 f3]) ⟨hx, hb, hml, hown, hts⟩ w (c_X5_because l D ty r f0 f1 f2 f3 9 (20 - (S 209))) ⟨va_cnB 2 hts gX6_refusesLeather_X5_because_n99 rfl rfl rfl (w.2.2.2.2.2 _ (List.mem_of_getElem? (i := 48) rfl)) (hts _ (List.mem_of_getElem? (i := 3) rfl)) hdN_X5_because ⟨Nat.le_of_ble_eq_true rfl, Nat.le_of_ble_eq_true rfl⟩, (hts _ (List.mem_of_getElem? (i := 2) rfl)), (hts _ (List.mem_of_getElem? (i := 4) rfl))⟩ [5, 0, 1, 2, 3, 4] (nB := 6) (by decide) rfl rfl rfl rfl 5 rfl rfl (ci := 9) rfl rfl rfl hl.1 rfl (Nat.le_of_ble_eq_true rfl) dX6_refusesLeather_19 ⟨(Nat.zero_le _), (Nat.zero_le _)⟩ (fun H locs w => ?_)
    refine lv_if_eq (tgt := 29) hx hb dX6_refusesLeather_22 (by decide) (fun c22 => ?_) (fun c22 => ?_)
    · exact absurd c22 (by decide)
    · refine lv_iconst (v := 1) hx hb dX6_refusesLeather_25 (by decide) ?_
      refine lv_goto (tgt := 30) hx hb dX6_refusesLeather_26 (by decide) ?_
      have hW : wLeather S = (9, 20 - S 209) := (by rw [wLeather, if_pos (Int32.not_le.mp c6)])
      exact e_z (ty := .boolean) hx hb hr rfl hlocks (w.cast (by rw [rfW_1 (r := r) (f0 := f0) (f1 := f1) (f2 := f2) (f3 := f3) hW (by decide)])) (wB_1 hW (by decide)) dX6_refusesLeather_30 (Nat.le_refl _) (Nat.le_refl _)

theorem in_X6_quarrel_X6 : ∀ w ∈ wsX60, w ∈ wsX6_quarrel := by decide +kernel
theorem hdN_X6_quarrel : yX6_quarrel.cls ≠ "java/lang/invoke/MethodHandle" ∧ yX6_quarrel.cls ≠ "java/lang/invoke/VarHandle" ∧ (parseMethodDescriptor yX6_quarrel.desc).map (fun d => d.parameters.length) = some 2 := by decide +kernel
set_option maxRecDepth 100000 in
set_option maxHeartbeats 4000000 in
theorem c_X6_quarrel (l : Launch) (D : va_G) (ty : Nat → ClassId) (a : Nat → Nat) (S M : pS) (n q : Nat) (hI : pSh S n q) (ht : cN (S 122) ≤ 20) (x : Nat) (hM : mOK M x) (i j : Nat) (hi : i < 8) (hj : j < 8)  : Mv l yX6_quarrel wsX6_quarrel (kR 2 38 0 0) D (kTY ty) [.ref (a 0), .int (nI i), .int (nI j)] [stB a S, lnB ty a S, quB ty a S, weB a S, miB ty a M] [stB a ((oQuarrel (S, M) i j).1), lnB ty a ((oQuarrel (S, M) i j).1), quB ty a ((oQuarrel (S, M) i j).1), weB a ((oQuarrel (S, M) i j).1), miB ty a ((oQuarrel (S, M) i j).2)] 0 0 := by
  refine m_v (cc := cX6_quarrel) (maxL := 3) (ret := none) (by decide +kernel) rfl (Nat.le_of_ble_eq_true rfl) ?_
  intro p e s m below meth c A ls hx hb hml hr hlocks hown hts w hl
  have hown : s.vm.findClass RX6 = some m.cls := hown
  have hl : lv_has ls 3 [(0, .ref (a 0)), (1, .int (nI i)), (2, .int (nI j))] := hl
  obtain ⟨h0, hn, h1, hq, he, hd, hdr, hwr⟩ := id hI
  refine lv_aload_n hx hb dX6_quarrel_0 rfl (lv_at hl 0 rfl) ?_
  refine r_get (v' := .ref (a 1)) hx hb hts in_X6_quarrel_X6 hown w 0 0 rfl rfl (ci := 10) rfl 0 (by decide) (hts _ (List.mem_of_getElem? (i := 1) rfl)) rfl rfl rfl dX6_quarrel_1 ?_
  refine lv_iload_n hx hb dX6_quarrel_4 rfl (lv_at hl 1 rfl) ?_
  refine lv_iload_n hx hb dX6_quarrel_5 rfl (lv_at hl 2 rfl) ?_
  refine k_vVN (As := [.int (nI i), .int (nI j)]) (rest := []) (Rs := [stB a S, quB ty a S, weB a S, miB ty a M]) (Bs' := [stB a S, lnB ty a (sSq S i j), quB ty a S, weB a S, miB ty a M]) ⟨hx, hb, hml, hown, hts⟩ w (c_X2_settleQuarrel l D ty a S i j (by omega) (by omega)) ⟨va_cnB 2 hts gX6_quarrel_X2_settleQuarrel_n132 rfl rfl rfl (w.2.2.2.2.2 _ (List.mem_of_getElem? (i := 65) rfl)) (hts _ (List.mem_of_getElem? (i := 5) rfl)) hdN_X2_settleQuarrel ⟨Nat.le_of_ble_eq_true rfl, Nat.le_of_ble_eq_true rfl⟩, (hts _ (List.mem_of_getElem? (i := 4) rfl)), (hts _ (List.mem_of_getElem? (i := 6) rfl))⟩ [1, 0, 2, 3, 4] (nB := 5) (by decide) rfl rfl rfl rfl 1 rfl rfl (ci := 6) rfl rfl rfl hl.1 rfl (Nat.le_of_ble_eq_true rfl) dX6_quarrel_6 ⟨(Nat.zero_le _), (Nat.zero_le _)⟩ (fun H locs w => ?_)
  refine lv_aload_n hx hb dX6_quarrel_9 rfl (lv_at hl 0 rfl) ?_
  refine r_get (v' := .ref (a 20)) hx hb hts in_X6_quarrel_X6 hown w 0 0 rfl rfl (ci := 10) rfl 3 (by decide) (hts _ (List.mem_of_getElem? (i := 2) rfl)) rfl rfl rfl dX6_quarrel_10 ?_
  refine lv_iconst (v := 1) hx hb dX6_quarrel_13 (by decide) ?_
  refine lv_aload_n hx hb dX6_quarrel_14 rfl (lv_at hl 0 rfl) ?_
  refine r_get (v' := .int (S 206)) hx hb hts in_X6_quarrel_X6 hown w 0 0 rfl rfl (ci := 10) rfl 4 (by decide) (hts _ (List.mem_of_getElem? (i := 3) rfl)) rfl rfl rfl dX6_quarrel_15 ?_
  refine lv_iload_n hx hb dX6_quarrel_18 rfl (lv_at hl 1 rfl) ?_
  refine lv_iload_n hx hb dX6_quarrel_19 rfl (lv_at hl 2 rfl) ?_
  refine k_vVN (As := [.int 1, .int (S 206), .int (nI i), .int (nI j)]) (rest := []) (Rs := [stB a S, lnB ty a (sSq S i j), quB ty a S, weB a S]) (Bs' := [stB a S, lnB ty a (sSq S i j), quB ty a S, weB a S, miB ty a (mNote M 1 (S 206) (nI i) (nI j))]) ⟨hx, hb, hml, hown, hts⟩ w (c_X3_note l D ty a M x (hM).1 (hM).2 1 (S 206) (nI i) (nI j)) ⟨va_cnB 4 hts gX6_quarrel_X3_note_n135 rfl rfl rfl (w.2.2.2.2.2 _ (List.mem_of_getElem? (i := 66) rfl)) (hts _ (List.mem_of_getElem? (i := 20) rfl)) hdN_X3_note ⟨Nat.le_of_ble_eq_true rfl, Nat.le_of_ble_eq_true rfl⟩, (hts _ (List.mem_of_getElem? (i := 19) rfl)), (hts _ (List.mem_of_getElem? (i := 21) rfl))⟩ [4, 0, 1, 2, 3] (nB := 5) (by decide) rfl rfl rfl rfl 4 rfl rfl (ci := 7) rfl rfl rfl hl.1 rfl (Nat.le_of_ble_eq_true rfl) dX6_quarrel_20 ⟨(Nat.zero_le _), (Nat.zero_le _)⟩ (fun H locs w => ?_)
  exact e_v hx hb hr hlocks (w.cast (quarrel_w5 ht hi hj)) dX6_quarrel_23 (Nat.le_refl _) (Nat.le_refl _)

theorem in_X6_letLeave_X6 : ∀ w ∈ wsX60, w ∈ wsX6_letLeave := by decide +kernel
theorem hdN_X6_letLeave : yX6_letLeave.cls ≠ "java/lang/invoke/MethodHandle" ∧ yX6_letLeave.cls ≠ "java/lang/invoke/VarHandle" ∧ (parseMethodDescriptor yX6_letLeave.desc).map (fun d => d.parameters.length) = some 1 := by decide +kernel
set_option maxRecDepth 100000 in
set_option maxHeartbeats 4000000 in
theorem c_X6_letLeave (l : Launch) (D : va_G) (ty : Nat → ClassId) (a : Nat → Nat) (S M : pS) (n q : Nat) (hI : pSh S n q) (i pp : Nat) (hp : pp < q) (hpe : S (50 + pp) = nI i)  : Mi l yX6_letLeave wsX6_letLeave (kR 2 43 0 0) D (kTY ty) [.ref (a 0), .int (nI i)] [stB a S, lnB ty a S, quB ty a S, weB a S, miB ty a M] [stB a (sGo S q pp), lnB ty a (sGo S q pp), quB ty a (sGo S q pp), weB a (sGo S q pp), miB ty a M] (nI pp) 0 0 := by
  refine m_i (cc := cX6_letLeave) (maxL := 3) (ret := (some .int)) (by decide +kernel) rfl (Nat.le_of_ble_eq_true rfl) ?_
  intro p e s m below meth c A ls hx hb hml hr hlocks hown hts w hl
  have hown : s.vm.findClass RX6 = some m.cls := hown
  have hl : lv_has ls 3 [(0, .ref (a 0)), (1, .int (nI i))] := hl
  obtain ⟨h0, hn, h1, hq, he, hd, hdr, hwr⟩ := id hI
  refine lv_aload_n hx hb dX6_letLeave_0 rfl (lv_at hl 0 rfl) ?_
  refine r_get (v' := .ref (a 17)) hx hb hts in_X6_letLeave_X6 hown w 0 0 rfl rfl (ci := 10) rfl 1 (by decide) (hts _ (List.mem_of_getElem? (i := 1) rfl)) rfl rfl rfl dX6_letLeave_1 ?_
  refine lv_iload_n hx hb dX6_letLeave_4 rfl (lv_at hl 1 rfl) ?_
  refine k_iVN (As := [.int (nI i)]) (rest := []) (Rs := [stB a S, lnB ty a S, weB a S, miB ty a M]) (Bs' := [stB a S, lnB ty a S, quB ty a S, weB a S, miB ty a M]) ⟨hx, hb, hml, hown, hts⟩ w (c_X4_placeOf l D ty a S q (hI).2.2.1 (hI).2.2.2.1 (hI).2.2.2.2.2.1 (nI i)) ⟨va_cnB 1 hts gX6_letLeave_X4_placeOf_n112 rfl rfl rfl (w.2.2.2.2.2 _ (List.mem_of_getElem? (i := 60) rfl)) (hts _ (List.mem_of_getElem? (i := 3) rfl)) hdN_X4_placeOf ⟨Nat.le_of_ble_eq_true rfl, Nat.le_of_ble_eq_true rfl⟩, (hts _ (List.mem_of_getElem? (i := 2) rfl)), (hts _ (List.mem_of_getElem? (i := 4) rfl))⟩ [2, 0, 1, 3, 4] (nB := 5) (by decide) rfl rfl rfl rfl 2 rfl rfl (ci := 8) rfl rfl rfl hl.1 rfl (Nat.le_of_ble_eq_true rfl) dX6_letLeave_5 ⟨(Nat.zero_le _), (Nat.zero_le _)⟩ (fun H locs w => ?_)
  refine r_eq (y := (nI pp)) (pPl_found hpe hd hp) ?_
  refine lv_istore_n (lv' := [(2, .int (nI pp)), (0, .ref (a 0)), (1, .int (nI i))]) hx hb dX6_letLeave_8 rfl hl (by decide) rfl (fun ls hl => ?_)
  refine lv_aload_n hx hb dX6_letLeave_9 rfl (lv_at hl 1 rfl) ?_
  refine r_get (v' := .ref (a 17)) hx hb hts in_X6_letLeave_X6 hown w 0 0 rfl rfl (ci := 10) rfl 1 (by decide) (hts _ (List.mem_of_getElem? (i := 1) rfl)) rfl rfl rfl dX6_letLeave_10 ?_
  refine lv_iload_n hx hb dX6_letLeave_13 rfl (lv_at hl 0 rfl) ?_
  refine k_vVN (As := [.int (nI pp)]) (rest := []) (Rs := [stB a S, lnB ty a S, weB a S, miB ty a M]) (Bs' := [stB a S, lnB ty a S, quB ty a (sGo S q pp), weB a S, miB ty a M]) ⟨hx, hb, hml, hown, hts⟩ w (c_X4_removePlace l D ty a S q (hI).2.2.1 (hI).2.2.2.1 pp (by omega)) ⟨va_cnB 1 hts gX6_letLeave_X4_removePlace_n125 rfl rfl rfl (w.2.2.2.2.2 _ (List.mem_of_getElem? (i := 67) rfl)) (hts _ (List.mem_of_getElem? (i := 3) rfl)) hdN_X4_removePlace ⟨Nat.le_of_ble_eq_true rfl, Nat.le_of_ble_eq_true rfl⟩, (hts _ (List.mem_of_getElem? (i := 8) rfl)), (hts _ (List.mem_of_getElem? (i := 9) rfl))⟩ [2, 0, 1, 3, 4] (nB := 5) (by decide) rfl rfl rfl rfl 2 rfl rfl (ci := 8) rfl rfl rfl hl.1 rfl (Nat.le_of_ble_eq_true rfl) dX6_letLeave_14 ⟨(Nat.zero_le _), (Nat.zero_le _)⟩ (fun H locs w => ?_)
  refine lv_iload_n hx hb dX6_letLeave_17 rfl (lv_at hl 0 rfl) ?_
  exact e_i hx hb hr hlocks (w.cast (go_w5 hq)) rfl dX6_letLeave_18 (Nat.le_refl _) (Nat.le_refl _)

theorem in_X6_letNightsPass_X4 : ∀ w ∈ wsX40, w ∈ wsX6_letNightsPass := by decide +kernel
theorem in_X6_letNightsPass_X6 : ∀ w ∈ wsX60, w ∈ wsX6_letNightsPass := by decide +kernel
theorem in_X6_letNightsPass_X7 : ∀ w ∈ wsX70, w ∈ wsX6_letNightsPass := by decide +kernel
theorem hdN_X6_letNightsPass : yX6_letNightsPass.cls ≠ "java/lang/invoke/MethodHandle" ∧ yX6_letNightsPass.cls ≠ "java/lang/invoke/VarHandle" ∧ (parseMethodDescriptor yX6_letNightsPass.desc).map (fun d => d.parameters.length) = some 1 := by decide +kernel
set_option maxRecDepth 100000 in
set_option maxHeartbeats 4000000 in
theorem c_X6_letNightsPass (l : Launch) (D : va_G) (ty : Nat → ClassId) (a : Nat → Nat) (S M : pS) (n q : Nat) (hI : pSh S n q) (j : Nat) (hj1 : 1 ≤ j) (hj : j ≤ 50)  : Mi l yX6_letNightsPass wsX6_letNightsPass (kR 1 21 0 0) D (kTY ty) [.ref (a 0), .int (nI j)] [stB a S, lnB ty a S, quB ty a S, weB a S, miB ty a M] [stB a (sNightN n j S), lnB ty a (sNightN n j S), quB ty a (sNightN n j S), weB a (sNightN n j S), miB ty a M] (sNightN n j S 204) 0 0 := by
  refine m_i (cc := cX6_letNightsPass) (maxL := 3) (ret := (some .int)) (by decide +kernel) rfl (Nat.le_of_ble_eq_true rfl) ?_
  intro p e s m below meth c A ls hx hb hml hr hlocks hown hts w hl
  have hown : s.vm.findClass RX6 = some m.cls := hown
  have hl : lv_has ls 3 [(0, .ref (a 0)), (1, .int (nI j))] := hl
  obtain ⟨h0, hn, h1, hq, he, hd, hdr, hwr⟩ := id hI
  refine lv_aload_n hx hb dX6_letNightsPass_0 rfl (lv_at hl 0 rfl) ?_
  refine r_get (v' := .ref (a 17)) hx hb hts in_X6_letNightsPass_X6 hown w 0 0 rfl rfl (ci := 10) rfl 1 (by decide) (hts _ (List.mem_of_getElem? (i := 1) rfl)) rfl rfl rfl dX6_letNightsPass_1 ?_
  refine lv_iconst (v := 0) hx hb dX6_letNightsPass_4 (by decide) ?_
  refine r_putN hx hb hts in_X6_letNightsPass_X4 tyX4 tyX4_ok nmX4 hown w 2 0 rfl rfl (ci := 8) rfl 0 (by decide) (w.2.2.2.2.2 _ (List.mem_of_getElem? (i := 16) rfl)) rfl rfl (ty := .int) (by decide +kernel) rfl rfl (Nat.le_of_ble_eq_true rfl) (quB ty a (upd S 49 0)) quB_len [stB a S, lnB ty a S, quB ty a (upd S 49 0), weB a S, miB ty a M] rfl dX6_letNightsPass_5 (fun H locs w => ?_)
  refine lv_aload_n hx hb dX6_letNightsPass_8 rfl (lv_at hl 0 rfl) ?_
  refine r_get (v' := .ref (a 1)) hx hb hts in_X6_letNightsPass_X6 hown w 0 0 rfl rfl (ci := 10) rfl 0 (by decide) (hts _ (List.mem_of_getElem? (i := 2) rfl)) rfl rfl rfl dX6_letNightsPass_9 ?_
  refine k_vVN (As := []) (rest := []) (Rs := [stB a S, quB ty a (upd S 49 0), weB a S, miB ty a M]) (Bs' := [stB a S, lnB ty a (sClear n S), quB ty a (upd S 49 0), weB a S, miB ty a M]) ⟨hx, hb, hml, hown, hts⟩ w (c_X2_forgetDay l D ty a S n (hI).1 (hI).2.1) ⟨va_cnB 0 hts gX6_letNightsPass_X2_forgetDay_n161 rfl rfl rfl (w.2.2.2.2.2 _ (List.mem_of_getElem? (i := 84) rfl)) (hts _ (List.mem_of_getElem? (i := 6) rfl)) hdN_X2_forgetDay ⟨Nat.le_of_ble_eq_true rfl, Nat.le_of_ble_eq_true rfl⟩, (hts _ (List.mem_of_getElem? (i := 5) rfl)), (hts _ (List.mem_of_getElem? (i := 7) rfl))⟩ [1, 0, 2, 3, 4] (nB := 5) (by decide) rfl rfl rfl rfl 1 rfl rfl (ci := 6) rfl rfl rfl hl.1 rfl (Nat.le_of_ble_eq_true rfl) dX6_letNightsPass_12 ⟨(Nat.zero_le _), (Nat.zero_le _)⟩ (fun H locs w => ?_)
  refine lv_iconst (v := 0) hx hb dX6_letNightsPass_15 (by decide) ?_
  refine lv_istore_n (lv' := [(2, .int 0), (0, .ref (a 0)), (1, .int (nI j))]) hx hb dX6_letNightsPass_16 rfl hl (by decide) rfl (fun ls hl => ?_)
  refine k_loop (fun k H locs ls => kW D (kTY ty) A s.heap s H locs [stB a S, lnB ty a (sClear n S), quB ty a (upd S 49 0), weB a (sNightN n k S), miB ty a M] ∧ lv_has ls 3 [(0, .ref (a 0)), (1, .int (nI j)), (2, .int (nI k))]) j 0 (by omega) ⟨w, lv_sub hl [1, 2, 0] rfl⟩ ?_
  intro k hk0 hk ihk H locs ls hI
  obtain ⟨w, hl⟩ := hI
  refine lv_iload_n hx hb dX6_letNightsPass_17 rfl (lv_at hl 2 rfl) ?_
  refine lv_iload_n hx hb dX6_letNightsPass_18 rfl (lv_at hl 1 rfl) ?_
  refine lv_icmp_ge (tgt := 35) hx hb dX6_letNightsPass_19 (by decide) (fun c19 => ?_) (fun c19 => ?_)
  · have c19 := (nI_leI (a := j) (b := k) (by omega) (by omega)).mp c19
    obtain rfl : j = k := by omega
    refine lv_aload_n hx hb dX6_letNightsPass_35 rfl (lv_at hl 0 rfl) ?_
    refine lv_dup hx hb dX6_letNightsPass_36 rfl ?_
    refine r_get (v' := .int (S 206)) hx hb hts in_X6_letNightsPass_X6 hown w 0 0 rfl rfl (ci := 10) rfl 4 (by decide) (hts _ (List.mem_of_getElem? (i := 4) rfl)) rfl rfl rfl dX6_letNightsPass_37 ?_
    refine lv_iload_n hx hb dX6_letNightsPass_40 rfl (lv_at hl 1 rfl) ?_
    refine lv_iadd hx hb dX6_letNightsPass_41 ?_
    refine r_put hx hb hts in_X6_letNightsPass_X6 tyX6 tyX6_ok nmX6 hown w 0 0 rfl rfl (ci := 10) rfl 4 (by decide) (hts _ (List.mem_of_getElem? (i := 4) rfl)) rfl rfl (ty := .int) (by decide +kernel) rfl rfl (Nat.le_of_ble_eq_true rfl) (stB a (upd S 206 ((S 206) + (nI j)))) rfl [stB a (upd S 206 ((S 206) + (nI j))), lnB ty a (sClear n S), quB ty a (upd S 49 0), weB a (sNightN n j S), miB ty a M] rfl dX6_letNightsPass_42 (fun H locs w => ?_)
    refine lv_aload_n hx hb dX6_letNightsPass_45 rfl (lv_at hl 0 rfl) ?_
    refine r_get (v' := .ref (a 19)) hx hb hts in_X6_letNightsPass_X6 hown w 0 0 rfl rfl (ci := 10) rfl 2 (by decide) (hts _ (List.mem_of_getElem? (i := 3) rfl)) rfl rfl rfl dX6_letNightsPass_46 ?_
    refine r_getN (v' := .int ((sNightN n j S) 204)) hx hb hts in_X6_letNightsPass_X7 hown w 3 0 rfl rfl (ci := 11) rfl 0 (by decide) (w.2.2.2.2.2 _ (List.mem_of_getElem? (i := 21) rfl)) rfl rfl rfl dX6_letNightsPass_49 ?_
    exact e_i hx hb hr hlocks (w.cast (night_w5 hn hj1)) rfl dX6_letNightsPass_52 (Nat.le_refl _) (Nat.le_refl _)
  · have c19 := mt (nI_leI (a := j) (b := k) (by omega) (by omega)).mpr c19
    refine lv_aload_n hx hb dX6_letNightsPass_22 rfl (lv_at hl 0 rfl) ?_
    refine r_get (v' := .ref (a 19)) hx hb hts in_X6_letNightsPass_X6 hown w 0 0 rfl rfl (ci := 10) rfl 2 (by decide) (hts _ (List.mem_of_getElem? (i := 3) rfl)) rfl rfl rfl dX6_letNightsPass_23 ?_
    refine k_vVN (As := []) (rest := []) (Rs := [stB a S, lnB ty a (sClear n S), quB ty a (upd S 49 0), miB ty a M]) (Bs' := [stB a S, lnB ty a (sClear n S), quB ty a (upd S 49 0), weB a (sRain (sNightN n k S)), miB ty a M]) ⟨hx, hb, hml, hown, hts⟩ w (c_X7_passNight l D ty a (sNightN n k S)) ⟨va_cnB 0 hts gX6_letNightsPass_X7_passNight_n164 rfl rfl rfl (w.2.2.2.2.2 _ (List.mem_of_getElem? (i := 85) rfl)) (hts _ (List.mem_of_getElem? (i := 13) rfl)) hdN_X7_passNight ⟨Nat.le_of_ble_eq_true rfl, Nat.le_of_ble_eq_true rfl⟩, (hts _ (List.mem_of_getElem? (i := 12) rfl)), (hts _ (List.mem_of_getElem? (i := 14) rfl))⟩ [3, 0, 1, 2, 4] (nB := 5) (by decide) rfl rfl rfl rfl 3 rfl rfl (ci := 11) rfl rfl rfl hl.1 rfl (Nat.le_of_ble_eq_true rfl) dX6_letNightsPass_26 ⟨(Nat.zero_le _), (Nat.zero_le _)⟩ (fun H locs w => ?_)
    have w := w.cast (Bs' := [stB a S, lnB ty a (sClear n S), quB ty a (upd S 49 0), weB a (sNightN n (k + 1) S), miB ty a M]) (by rw [night_we hn])
    refine lv_iinc (v := (nI (k + 1))) (lv' := [(2, .int (nI (k + 1))), (0, .ref (a 0)), (1, .int (nI j))]) hx hb dX6_letNightsPass_29 hl (k := 2) rfl (inc1 k) (by decide) rfl (fun ls hl => ?_)
    refine lv_goto (tgt := 17) hx hb dX6_letNightsPass_32 (by decide) ?_
    exact ihk _ _ _ ⟨w, lv_sub hl [1, 2, 0] rfl⟩ (by omega)

theorem in_X6_changeLeather_X6 : ∀ w ∈ wsX60, w ∈ wsX6_changeLeather := by decide +kernel
theorem hdN_X6_changeLeather : yX6_changeLeather.cls ≠ "java/lang/invoke/MethodHandle" ∧ yX6_changeLeather.cls ≠ "java/lang/invoke/VarHandle" ∧ (parseMethodDescriptor yX6_changeLeather.desc).map (fun d => d.parameters.length) = some 0 := by decide +kernel
set_option maxRecDepth 100000 in
set_option maxHeartbeats 4000000 in
theorem c_X6_changeLeather (l : Launch) (D : va_G) (ty : Nat → ClassId) (a : Nat → Nat) (S M : pS) (n q : Nat) (hI : pSh S n q) (ht : cN (S 122) ≤ 20) (x : Nat) (hM : mOK M x)  : Mi l yX6_changeLeather wsX6_changeLeather (kR 2 38 0 0) D (kTY ty) [.ref (a 0)] [stB a S, lnB ty a S, quB ty a S, weB a S, miB ty a M] [stB a (((oRenew (S, M)).2).1), lnB ty a (((oRenew (S, M)).2).1), quB ty a (((oRenew (S, M)).2).1), weB a (((oRenew (S, M)).2).1), miB ty a (((oRenew (S, M)).2).2)] (S 205) 0 0 := by
  refine m_i (cc := cX6_changeLeather) (maxL := 1) (ret := (some .int)) (by decide +kernel) rfl (Nat.le_of_ble_eq_true rfl) ?_
  intro p e s m below meth c A ls hx hb hml hr hlocks hown hts w hl
  have hown : s.vm.findClass RX6 = some m.cls := hown
  have hl : lv_has ls 1 [(0, .ref (a 0))] := hl
  obtain ⟨h0, hn, h1, hq, he, hd, hdr, hwr⟩ := id hI
  refine lv_aload_n hx hb dX6_changeLeather_0 rfl (lv_at hl 0 rfl) ?_
  refine lv_dup hx hb dX6_changeLeather_1 rfl ?_
  refine r_get (v' := .int (S 209)) hx hb hts in_X6_changeLeather_X6 hown w 0 0 rfl rfl (ci := 10) rfl 6 (by decide) (hts _ (List.mem_of_getElem? (i := 1) rfl)) rfl rfl rfl dX6_changeLeather_2 ?_
  refine lv_bipush (v := 20) hx hb dX6_changeLeather_5 (by decide) ?_
  refine lv_isub hx hb dX6_changeLeather_7 ?_
  refine r_put hx hb hts in_X6_changeLeather_X6 tyX6 tyX6_ok nmX6 hown w 0 0 rfl rfl (ci := 10) rfl 6 (by decide) (hts _ (List.mem_of_getElem? (i := 1) rfl)) rfl rfl (ty := .int) (by decide +kernel) rfl rfl (Nat.le_of_ble_eq_true rfl) (stB a (upd S 209 ((S 209) - 20))) rfl [stB a (upd S 209 ((S 209) - 20)), lnB ty a S, quB ty a S, weB a S, miB ty a M] rfl dX6_changeLeather_8 (fun H locs w => ?_)
  refine lv_aload_n hx hb dX6_changeLeather_11 rfl (lv_at hl 0 rfl) ?_
  refine r_get (v' := .ref (a 20)) hx hb hts in_X6_changeLeather_X6 hown w 0 0 rfl rfl (ci := 10) rfl 3 (by decide) (hts _ (List.mem_of_getElem? (i := 2) rfl)) rfl rfl rfl dX6_changeLeather_12 ?_
  refine lv_iconst (v := 3) hx hb dX6_changeLeather_15 (by decide) ?_
  refine lv_aload_n hx hb dX6_changeLeather_16 rfl (lv_at hl 0 rfl) ?_
  refine r_get (v' := .int ((upd S 209 ((S 209) - 20)) 206)) hx hb hts in_X6_changeLeather_X6 hown w 0 0 rfl rfl (ci := 10) rfl 4 (by decide) (hts _ (List.mem_of_getElem? (i := 3) rfl)) rfl rfl rfl dX6_changeLeather_17 ?_
  refine r_eq (y := (S 206)) rfl ?_
  refine lv_iconst (v := 0) hx hb dX6_changeLeather_20 (by decide) ?_
  refine lv_iconst (v := 0) hx hb dX6_changeLeather_21 (by decide) ?_
  refine k_vVN (As := [.int 3, .int (S 206), .int 0, .int 0]) (rest := []) (Rs := [stB a (upd S 209 ((S 209) - 20)), lnB ty a S, quB ty a S, weB a S]) (Bs' := [stB a (upd S 209 ((S 209) - 20)), lnB ty a S, quB ty a S, weB a S, miB ty a (mNote M 3 (S 206) 0 0)]) ⟨hx, hb, hml, hown, hts⟩ w (c_X3_note l D ty a M x (hM).1 (hM).2 3 (S 206) 0 0) ⟨va_cnB 4 hts gX6_changeLeather_X3_note_n135 rfl rfl rfl (w.2.2.2.2.2 _ (List.mem_of_getElem? (i := 66) rfl)) (hts _ (List.mem_of_getElem? (i := 6) rfl)) hdN_X3_note ⟨Nat.le_of_ble_eq_true rfl, Nat.le_of_ble_eq_true rfl⟩, (hts _ (List.mem_of_getElem? (i := 5) rfl)), (hts _ (List.mem_of_getElem? (i := 7) rfl))⟩ [4, 0, 1, 2, 3] (nB := 5) (by decide) rfl rfl rfl rfl 4 rfl rfl (ci := 7) rfl rfl rfl hl.1 rfl (Nat.le_of_ble_eq_true rfl) dX6_changeLeather_22 ⟨(Nat.zero_le _), (Nat.zero_le _)⟩ (fun H locs w => ?_)
  refine lv_aload_n hx hb dX6_changeLeather_25 rfl (lv_at hl 0 rfl) ?_
  refine r_get (v' := .ref (a 19)) hx hb hts in_X6_changeLeather_X6 hown w 0 0 rfl rfl (ci := 10) rfl 2 (by decide) (hts _ (List.mem_of_getElem? (i := 4) rfl)) rfl rfl rfl dX6_changeLeather_26 ?_
  refine k_iVN (As := []) (rest := []) (Rs := [stB a (upd S 209 ((S 209) - 20)), lnB ty a S, quB ty a S, miB ty a (mNote M 3 (S 206) 0 0)]) (Bs' := [stB a (upd S 209 ((S 209) - 20)), lnB ty a S, quB ty a S, weB a (upd S 205 0), miB ty a (mNote M 3 (S 206) 0 0)]) ⟨hx, hb, hml, hown, hts⟩ w (c_X7_renewLeather l D ty a S) ⟨va_cnB 0 hts gX6_changeLeather_X7_renewLeather_n167 rfl rfl rfl (w.2.2.2.2.2 _ (List.mem_of_getElem? (i := 81) rfl)) (hts _ (List.mem_of_getElem? (i := 20) rfl)) hdN_X7_renewLeather ⟨Nat.le_of_ble_eq_true rfl, Nat.le_of_ble_eq_true rfl⟩, (hts _ (List.mem_of_getElem? (i := 19) rfl)), (hts _ (List.mem_of_getElem? (i := 21) rfl))⟩ [3, 0, 1, 2, 4] (nB := 5) (by decide) rfl rfl rfl rfl 3 rfl rfl (ci := 11) rfl rfl rfl hl.1 rfl (Nat.le_of_ble_eq_true rfl) dX6_changeLeather_29 ⟨(Nat.zero_le _), (Nat.zero_le _)⟩ (fun H locs w => ?_)
  exact e_i hx hb hr hlocks (w.cast (renew_w5 ht)) rfl dX6_changeLeather_32 (Nat.le_refl _) (Nat.le_refl _)
