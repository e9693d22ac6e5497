theorem hdN_X9_wants : yX9_wants.cls ≠ "java/lang/invoke/MethodHandle" ∧ yX9_wants.cls ≠ "java/lang/invoke/VarHandle" ∧ (parseMethodDescriptor yX9_wants.desc).map (fun d => d.parameters.length) = some 1 := by decide +kernel
set_option maxRecDepth 100000 in
set_option maxHeartbeats 4000000 in
theorem c_X9_wants (l : Launch) (D : va_G) (ty : Nat → ClassId) (r : Nat → Nat) (F S : pS) (i : Nat) (hi : i < 8)  : Mi l yX9_wants wsX9_wants (kR 2 44 0 0) D (kTY ty) [.ref (r 0), .int (nI i)] [moB r F, arB ty (r 1) 215 (sqA 215 S)] [moB r F, arB ty (r 1) 215 (sqA 215 S)] (nI (pWant S i 3)) 0 0 := by
  refine m_i (cc := cX9_wants) (maxL := 4) (ret := (some .int)) (by decide +kernel) rfl (Nat.le_of_ble_eq_true rfl) ?_
  intro p e s m below meth c A ls hx hb hml hr hlocks hown hts w hl
  have hown : s.vm.findClass RX9 = some m.cls := hown
  have hl : lv_has ls 4 [(0, .ref (r 0)), (1, .int (nI i))] := hl
  refine lv_iconst (v := 0) hx hb dX9_wants_0 (by decide) ?_
  refine lv_istore_n (lv' := [(2, .int 0), (0, .ref (r 0)), (1, .int (nI i))]) hx hb dX9_wants_1 rfl hl (by decide) rfl (fun ls hl => ?_)
  refine lv_iconst (v := 1) hx hb dX9_wants_2 (by decide) ?_
  refine lv_istore_n (lv' := [(3, .int 1), (2, .int 0), (0, .ref (r 0)), (1, .int (nI i))]) hx hb dX9_wants_3 rfl hl (by decide) rfl (fun ls hl => ?_)
  refine k_loop (fun k H locs ls => kW D (kTY ty) A s.heap s H locs [moB r F, arB ty (r 1) 215 (sqA 215 S)] ∧ lv_has ls 4 [(0, .ref (r 0)), (1, .int (nI i)), (2, .int (nI (pWant S i k))), (3, .int (nI (k + 1)))]) 3 0 (by omega) ⟨w, lv_sub hl [2, 3, 1, 0] rfl⟩ ?_
  intro k hk0 hk ihk H locs ls hI
  obtain ⟨w, hl⟩ := hI
  refine lv_iload_n hx hb dX9_wants_4 rfl (lv_at hl 3 rfl) ?_
  refine lv_iconst (v := 4) hx hb dX9_wants_5 (by decide) ?_
  refine lv_icmp_ge (tgt := 36) hx hb dX9_wants_6 (by decide) (fun c6 => ?_) (fun c6 => ?_)
  · have c6 := (nI_leI (a := 4) (b := (k + 1)) (by omega) (by omega)).mp c6
    obtain rfl : 3 = k := by omega
    refine lv_iload_n hx hb dX9_wants_36 rfl (lv_at hl 2 rfl) ?_
    exact e_i hx hb hr hlocks w rfl dX9_wants_37 (Nat.le_refl _) (Nat.le_refl _)
  · have c6 := mt (nI_leI (a := 4) (b := (k + 1)) (by omega) (by omega)).mpr c6
    refine lv_aload_n hx hb dX9_wants_9 rfl (lv_at hl 0 rfl) ?_
    refine lv_iload_n hx hb dX9_wants_10 rfl (lv_at hl 1 rfl) ?_
    refine lv_iload_n hx hb dX9_wants_11 rfl (lv_at hl 3 rfl) ?_
    refine k_iV (As := [.int (nI i), .int (nI (k + 1))]) (rest := []) (Rs := []) (Bs' := [moB r F, arB ty (r 1) 215 (sqA 215 S)]) ⟨hx, hb, hml, hown, hts⟩ w (c_X9_turnsByLaw l D ty r F S i (by omega) (nI (k + 1))) (cwV 2 hts gX9_wants_X9_turnsByLaw rfl rfl rfl ⟨rfl, hdN_X9_turnsByLaw⟩ ⟨Nat.le_of_ble_eq_true rfl, Nat.le_of_ble_eq_true rfl⟩) [0, 1] (nB := 2) (by decide) rfl rfl rfl rfl 0 rfl rfl (ci := 13) rfl rfl rfl hl.1 rfl (Nat.le_of_ble_eq_true rfl) dX9_wants_12 ⟨(Nat.zero_le _), (Nat.zero_le _)⟩ (fun H locs w => ?_)
    refine lv_aload_n hx hb dX9_wants_15 rfl (lv_at hl 0 rfl) ?_
    refine lv_iload_n hx hb dX9_wants_16 rfl (lv_at hl 1 rfl) ?_
    refine lv_iload_n hx hb dX9_wants_17 rfl (lv_at hl 2 rfl) ?_
    refine k_iV (As := [.int (nI i), .int (nI (pWant S i k))]) (rest := [.int (pTbl S i (nI (k + 1)))]) (Rs := []) (Bs' := [moB r F, arB ty (r 1) 215 (sqA 215 S)]) ⟨hx, hb, hml, hown, hts⟩ w (c_X9_turnsByLaw l D ty r F S i (by omega) (nI (pWant S i k))) (cwV 2 hts gX9_wants_X9_turnsByLaw rfl rfl rfl ⟨rfl, hdN_X9_turnsByLaw⟩ ⟨Nat.le_of_ble_eq_true rfl, Nat.le_of_ble_eq_true rfl⟩) [0, 1] (nB := 2) (by decide) rfl rfl rfl rfl 0 rfl rfl (ci := 13) rfl rfl rfl hl.1 rfl (Nat.le_of_ble_eq_true rfl) dX9_wants_18 ⟨(Nat.zero_le _), (Nat.zero_le _)⟩ (fun H locs w => ?_)
    refine lv_icmp_le (tgt := 28) hx hb dX9_wants_21 (by decide) (fun c21 => ?_) (fun c21 => ?_)
    · have ey := pWant_no (S := S) (h := i) c21
      refine lv_iload_n hx hb dX9_wants_28 rfl (lv_at hl 2 rfl) ?_
      refine lv_istore_n (lv' := [(2, .int (nI (pWant S i k))), (0, .ref (r 0)), (1, .int (nI i)), (3, .int (nI (k + 1)))]) hx hb dX9_wants_29 rfl hl (by decide) rfl (fun ls hl => ?_)
      refine lv_iinc (v := (nI ((k + 1) + 1))) (lv' := [(3, .int (nI ((k + 1) + 1))), (2, .int (nI (pWant S i k))), (0, .ref (r 0)), (1, .int (nI i))]) hx hb dX9_wants_30 hl (k := 3) rfl (inc1 (k + 1)) (by decide) rfl (fun ls hl => ?_)
      refine lv_goto (tgt := 4) hx hb dX9_wants_33 (by decide) ?_
      exact ihk _ _ _ ⟨w, (by rw [← ey]; exact lv_sub hl [2, 3, 1, 0] rfl)⟩ (by omega)
    · have ey := pWant_yes (S := S) (h := i) c21
      refine lv_iload_n hx hb dX9_wants_24 rfl (lv_at hl 3 rfl) ?_
      refine lv_goto (tgt := 29) hx hb dX9_wants_25 (by decide) ?_
      refine lv_istore_n (lv' := [(2, .int (nI (k + 1))), (0, .ref (r 0)), (1, .int (nI i)), (3, .int (nI (k + 1)))]) hx hb dX9_wants_29 rfl hl (by decide) rfl (fun ls hl => ?_)
      refine lv_iinc (v := (nI ((k + 1) + 1))) (lv' := [(3, .int (nI ((k + 1) + 1))), (2, .int (nI (k + 1))), (0, .ref (r 0)), (1, .int (nI i))]) hx hb dX9_wants_30 hl (k := 3) rfl (inc1 (k + 1)) (by decide) rfl (fun ls hl => ?_)
      refine lv_goto (tgt := 4) hx hb dX9_wants_33 (by decide) ?_
      exact ihk _ _ _ ⟨w, (by rw [← ey]; exact lv_sub hl [2, 3, 1, 0] rfl)⟩ (by omega)

theorem in_X9_membersWanting_X9 : ∀ w ∈ wsX90, w ∈ wsX9_membersWanting := by decide +kernel
theorem hdN_X9_membersWanting : yX9_membersWanting.cls ≠ "java/lang/invoke/MethodHandle" ∧ yX9_membersWanting.cls ≠ "java/lang/invoke/VarHandle" ∧ (parseMethodDescriptor yX9_membersWanting.desc).map (fun d => d.parameters.length) = some 1 := by decide +kernel
set_option maxRecDepth 100000 in
set_option maxHeartbeats 4000000 in
theorem c_X9_membersWanting (l : Launch) (D : va_G) (ty : Nat → ClassId) (r : Nat → Nat) (F S : pS) (n : Nat) (h0 : S 0 = nI n) (hn : n ≤ 8) (v : Int32)  : Mi l yX9_membersWanting wsX9_membersWanting (kR 3 67 0 0) D (kTY ty) [.ref (r 0), .int v] [moB r F, arB ty (r 1) 215 (sqA 215 S)] [moB r F, arB ty (r 1) 215 (sqA 215 S)] (pMem S v n) 0 0 := by
  refine m_i (cc := cX9_membersWanting) (maxL := 4) (ret := (some .int)) (by decide +kernel) rfl (Nat.le_of_ble_eq_true rfl) ?_
  intro p e s m below meth c A ls hx hb hml hr hlocks hown hts w hl
  have hown : s.vm.findClass RX9 = some m.cls := hown
  have hl : lv_has ls 4 [(0, .ref (r 0)), (1, .int v)] := hl
  refine lv_iconst (v := 0) hx hb dX9_membersWanting_0 (by decide) ?_
  refine lv_istore_n (lv' := [(2, .int 0), (0, .ref (r 0)), (1, .int v)]) hx hb dX9_membersWanting_1 rfl hl (by decide) rfl (fun ls hl => ?_)
  refine lv_iconst (v := 0) hx hb dX9_membersWanting_2 (by decide) ?_
  refine lv_istore_n (lv' := [(3, .int 0), (2, .int 0), (0, .ref (r 0)), (1, .int v)]) hx hb dX9_membersWanting_3 rfl hl (by decide) rfl (fun ls hl => ?_)
  refine k_loop (fun k H locs ls => kW D (kTY ty) A s.heap s H locs [moB r F, arB ty (r 1) 215 (sqA 215 S)] ∧ lv_has ls 4 [(0, .ref (r 0)), (1, .int v), (2, .int (pMem S v k)), (3, .int (nI k))]) n 0 (by omega) ⟨w, lv_sub hl [2, 3, 1, 0] rfl⟩ ?_
  intro k hk0 hk ihk H locs ls hI
  obtain ⟨w, hl⟩ := hI
  refine lv_iload_n hx hb dX9_membersWanting_4 rfl (lv_at hl 3 rfl) ?_
  refine lv_aload_n hx hb dX9_membersWanting_5 rfl (lv_at hl 0 rfl) ?_
  refine r_get (v' := .ref (r 1)) hx hb hts in_X9_membersWanting_X9 hown w 0 0 rfl rfl (ci := 13) rfl 0 (by decide) (hts _ (List.mem_of_getElem? (i := 1) rfl)) rfl rfl rfl dX9_membersWanting_6 ?_
  refine lv_iconst (v := 0) hx hb dX9_membersWanting_9 (by decide) ?_
  refine r_iald (v := (S 0)) hx hb w 1 0 rfl rfl 0 rfl 0 (by omega) (Nat.le_of_ble_eq_true rfl) rfl (sqA_at (by omega)) dX9_membersWanting_10 ?_
  refine r_eq (y := (nI n)) h0 ?_
  refine lv_icmp_ge (tgt := 42) hx hb dX9_membersWanting_11 (by decide) (fun c11 => ?_) (fun c11 => ?_)
  · have c11 := (nI_leI (a := n) (b := k) (by omega) (by omega)).mp c11
    obtain rfl : n = k := by omega
    refine lv_iload_n hx hb dX9_membersWanting_42 rfl (lv_at hl 2 rfl) ?_
    exact e_i hx hb hr hlocks w rfl dX9_membersWanting_43 (Nat.le_refl _) (Nat.le_refl _)
  · have c11 := mt (nI_leI (a := n) (b := k) (by omega) (by omega)).mpr c11
    refine lv_iload_n hx hb dX9_membersWanting_14 rfl (lv_at hl 2 rfl) ?_
    refine lv_aload_n hx hb dX9_membersWanting_15 rfl (lv_at hl 0 rfl) ?_
    refine lv_iload_n hx hb dX9_membersWanting_16 rfl (lv_at hl 3 rfl) ?_
    refine k_iV (As := [.int (nI k)]) (rest := [.int (pMem S v k)]) (Rs := []) (Bs' := [moB r F, arB ty (r 1) 215 (sqA 215 S)]) ⟨hx, hb, hml, hown, hts⟩ w (c_X9_wants l D ty r F S k (by omega)) (cwV 1 hts gX9_membersWanting_X9_wants rfl rfl rfl ⟨rfl, hdN_X9_wants⟩ ⟨Nat.le_of_ble_eq_true rfl, Nat.le_of_ble_eq_true rfl⟩) [0, 1] (nB := 2) (by decide) rfl rfl rfl rfl 0 rfl rfl (ci := 13) rfl rfl rfl hl.1 rfl (Nat.le_of_ble_eq_true rfl) dX9_membersWanting_17 ⟨(Nat.zero_le _), (Nat.zero_le _)⟩ (fun H locs w => ?_)
    refine lv_iload_n hx hb dX9_membersWanting_20 rfl (lv_at hl 1 rfl) ?_
    refine lv_icmp_ne (tgt := 33) hx hb dX9_membersWanting_21 (by decide) (fun c21 => ?_) (fun c21 => ?_)
    · refine lv_iconst (v := 0) hx hb dX9_membersWanting_33 (by decide) ?_
      refine lv_iadd hx hb dX9_membersWanting_34 ?_
      refine r_eq (y := (pMem S v (k + 1))) ((Int32.add_zero _).trans (pMem_no c21)) ?_
      refine lv_istore_n (lv' := [(2, .int (pMem S v (k + 1))), (0, .ref (r 0)), (1, .int v), (3, .int (nI k))]) hx hb dX9_membersWanting_35 rfl hl (by decide) rfl (fun ls hl => ?_)
      refine lv_iinc (v := (nI (k + 1))) (lv' := [(3, .int (nI (k + 1))), (2, .int (pMem S v (k + 1))), (0, .ref (r 0)), (1, .int v)]) hx hb dX9_membersWanting_36 hl (k := 3) rfl (inc1 k) (by decide) rfl (fun ls hl => ?_)
      refine lv_goto (tgt := 4) hx hb dX9_membersWanting_39 (by decide) ?_
      exact ihk _ _ _ ⟨w, lv_sub hl [2, 3, 1, 0] rfl⟩ (by omega)
    · refine lv_aload_n hx hb dX9_membersWanting_24 rfl (lv_at hl 0 rfl) ?_
      refine lv_iload_n hx hb dX9_membersWanting_25 rfl (lv_at hl 3 rfl) ?_
      refine lv_iconst (v := 0) hx hb dX9_membersWanting_26 (by decide) ?_
      refine k_iV (As := [.int (nI k), .int 0]) (rest := [.int (pMem S v k)]) (Rs := []) (Bs' := [moB r F, arB ty (r 1) 215 (sqA 215 S)]) ⟨hx, hb, hml, hown, hts⟩ w (c_X9_of l D ty r F S k 0 (by omega)) (cwV 2 hts gX9_membersWanting_X9_of rfl rfl rfl ⟨rfl, hdN_X9_of⟩ ⟨Nat.le_of_ble_eq_true rfl, Nat.le_of_ble_eq_true rfl⟩) [0, 1] (nB := 2) (by decide) rfl rfl rfl rfl 0 rfl rfl (ci := 13) rfl rfl rfl hl.1 rfl (Nat.le_of_ble_eq_true rfl) dX9_membersWanting_27 ⟨(Nat.zero_le _), (Nat.zero_le _)⟩ (fun H locs w => ?_)
      refine lv_goto (tgt := 34) hx hb dX9_membersWanting_30 (by decide) ?_
      refine lv_iadd hx hb dX9_membersWanting_34 ?_
      refine r_eq (y := (pMem S v (k + 1))) (pMem_yes c21) ?_
      refine lv_istore_n (lv' := [(2, .int (pMem S v (k + 1))), (0, .ref (r 0)), (1, .int v), (3, .int (nI k))]) hx hb dX9_membersWanting_35 rfl hl (by decide) rfl (fun ls hl => ?_)
      refine lv_iinc (v := (nI (k + 1))) (lv' := [(3, .int (nI (k + 1))), (2, .int (pMem S v (k + 1))), (0, .ref (r 0)), (1, .int v)]) hx hb dX9_membersWanting_36 hl (k := 3) rfl (inc1 k) (by decide) rfl (fun ls hl => ?_)
      refine lv_goto (tgt := 4) hx hb dX9_membersWanting_39 (by decide) ?_
      exact ihk _ _ _ ⟨w, lv_sub hl [2, 3, 1, 0] rfl⟩ (by omega)

theorem in_X9_votes_X9 : ∀ w ∈ wsX90, w ∈ wsX9_votes := by decide +kernel
theorem hdN_X9_votes : yX9_votes.cls ≠ "java/lang/invoke/MethodHandle" ∧ yX9_votes.cls ≠ "java/lang/invoke/VarHandle" ∧ (parseMethodDescriptor yX9_votes.desc).map (fun d => d.parameters.length) = some 0 := by decide +kernel
set_option maxRecDepth 100000 in
set_option maxHeartbeats 4000000 in
theorem c_X9_votes (l : Launch) (D : va_G) (ty : Nat → ClassId) (r : Nat → Nat) (F S : pS) (hF : F 16 = 0) (n q : Nat) (hI : pSh S n q) (ht : nOK S) (M : pS)  : Mi l yX9_votes wsX9_votes (kR 4 90 0 0) D (kTY ty) [.ref (r 0)] [moB r F, arB ty (r 1) 215 (sqA 215 S)] [moB r (hnd (wVote S) F), arB ty (r 1) 215 (sqA 215 (gR (wVote S) (oVote (S, M)).2.1 S))] (gR (wVote S) (oVote (S, M)).1 0) 0 0 := by
  refine m_i (cc := cX9_votes) (maxL := 3) (ret := (some .int)) (by decide +kernel) rfl (Nat.le_of_ble_eq_true rfl) ?_
  intro p e s m below meth c A ls hx hb hml hr hlocks hown hts w hl
  have hown : s.vm.findClass RX9 = some m.cls := hown
  have hl : lv_has ls 3 [(0, .ref (r 0))] := hl
  obtain ⟨h0, hn, h1, hq, he, hd, hdr, hwr⟩ := id hI
  refine lv_aload_n hx hb dX9_votes_0 rfl (lv_at hl 0 rfl) ?_
  refine k_cut (fun H locs ls => kW D (kTY ty) A s.heap s H locs [moB r F, arB ty (r 1) 215 (sqA 215 S)] ∧ lv_has ls 3 [(0, .ref (r 0))]) (pc' := 15) (st' := [.int (bI (decide (S 0 = 0))), .ref (r 0)]) ?_ ?_
  · intro H locs ls hI
    obtain ⟨w, hl⟩ := hI
    refine lv_iconst (v := 3) hx hb dX9_votes_15 (by decide) ?_
    refine lv_iconst (v := 0) hx hb dX9_votes_16 (by decide) ?_
    refine k_vV (As := [.int (bI (decide (S 0 = 0))), .int 3, .int 0]) (rest := []) (Rs := [arB ty (r 1) 215 (sqA 215 S)]) (Bs' := [moB r (hin (decide (S 0 = 0)) 3 0 F), arB ty (r 1) 215 (sqA 215 S)]) ⟨hx, hb, hml, hown, hts⟩ w (c_X9_hinders l D ty r F (decide (S 0 = 0)) 3 0) (cwV 3 hts gX9_votes_X9_hinders rfl rfl rfl ⟨rfl, hdN_X9_hinders⟩ ⟨Nat.le_of_ble_eq_true rfl, Nat.le_of_ble_eq_true rfl⟩) [0, 1] (nB := 2) (by decide) rfl rfl rfl rfl 0 rfl rfl (ci := 13) rfl rfl rfl hl.1 rfl (Nat.le_of_ble_eq_true rfl) dX9_votes_17 ⟨(Nat.zero_le _), (Nat.zero_le _)⟩ (fun H locs w => ?_)
    have w := w.cast (Bs' := [moB r (hnd (wVote S) F), arB ty (r 1) 215 (sqA 215 S)]) (by rw [vo_W hF])
    refine lv_aload_n hx hb dX9_votes_20 rfl (lv_at hl 0 rfl) ?_
    refine r_get (v' := .int ((hnd (wVote S) F) 16)) hx hb hts in_X9_votes_X9 hown w 0 0 rfl rfl (ci := 13) rfl 16 (by decide) (hts _ (List.mem_of_getElem? (i := 2) rfl)) rfl rfl rfl dX9_votes_21 ?_
    refine lv_if_eq (tgt := 29) hx hb dX9_votes_24 (by decide) (fun c24 => ?_) (fun c24 => ?_)
    · have hW : (wVote S).1 = 0 := (hnd_z hF).mp c24
      have w := w.cast (Bs' := [moB r F, arB ty (r 1) 215 (sqA 215 S)]) (by rw [hnd_0 hW])
      refine lv_iconst (v := 0) hx hb dX9_votes_29 (by decide) ?_
      refine lv_istore_n (lv' := [(1, .int 0), (0, .ref (r 0))]) hx hb dX9_votes_30 rfl hl (by decide) rfl (fun ls hl => ?_)
      refine lv_iconst (v := 1) hx hb dX9_votes_31 (by decide) ?_
      refine lv_istore_n (lv' := [(2, .int 1), (1, .int 0), (0, .ref (r 0))]) hx hb dX9_votes_32 rfl hl (by decide) rfl (fun ls hl => ?_)
      refine k_loop (fun k H locs ls => kW D (kTY ty) A s.heap s H locs [moB r F, arB ty (r 1) 215 (sqA 215 S)] ∧ lv_has ls 3 [(0, .ref (r 0)), (1, .int (nI (pMost S n k))), (2, .int (nI (k + 1)))]) 3 0 (by omega) ⟨w, lv_sub hl [2, 1, 0] rfl⟩ ?_
      intro k hk0 hk ihk H locs ls hI
      obtain ⟨w, hl⟩ := hI
      refine lv_iload_n hx hb dX9_votes_33 rfl (lv_at hl 2 rfl) ?_
      refine lv_iconst (v := 4) hx hb dX9_votes_34 (by decide) ?_
      refine lv_icmp_ge (tgt := 63) hx hb dX9_votes_35 (by decide) (fun c35 => ?_) (fun c35 => ?_)
      · have c35 := (nI_leI (a := 4) (b := (k + 1)) (by omega) (by omega)).mp c35
        obtain rfl : 3 = k := by omega
        refine lv_aload_n hx hb dX9_votes_63 rfl (lv_at hl 0 rfl) ?_
        refine r_get (v' := .ref (r 1)) hx hb hts in_X9_votes_X9 hown w 0 0 rfl rfl (ci := 13) rfl 0 (by decide) (hts _ (List.mem_of_getElem? (i := 1) rfl)) rfl rfl rfl dX9_votes_64 ?_
        refine lv_sipush (v := 203) hx hb dX9_votes_67 (by decide) ?_
        refine lv_iload_n hx hb dX9_votes_70 rfl (lv_at hl 1 rfl) ?_
        refine r_iast hx hb w 1 0 rfl rfl 0 rfl 203 (by omega) (Nat.le_of_ble_eq_true rfl) rfl (arB ty (r 1) 215 (sqA 215 (upd S 203 (nI (pMost S n 3))))) (arB_st (by omega)) [moB r F, arB ty (r 1) 215 (sqA 215 (upd S 203 (nI (pMost S n 3))))] rfl dX9_votes_71 (fun H locs w => ?_)
        refine lv_aload_n hx hb dX9_votes_72 rfl (lv_at hl 0 rfl) ?_
        refine lv_iconst (v := 2) hx hb dX9_votes_73 (by decide) ?_
        refine lv_iload_n hx hb dX9_votes_74 rfl (lv_at hl 1 rfl) ?_
        refine lv_iconst (v := 0) hx hb dX9_votes_75 (by decide) ?_
        refine k_vV (As := [.int 2, .int (nI (pMost S n 3)), .int 0]) (rest := []) (Rs := []) (Bs' := [moB r F, arB ty (r 1) 215 (sqA 215 (sNote (upd S 203 (nI (pMost S n 3))) 2 (nI (pMost S n 3)) 0))]) ⟨hx, hb, hml, hown, hts⟩ w (c_X9_notes l D ty r F (upd S 203 (nI (pMost S n 3))) (cN (S 122)) (by rw [updn (by omega)]; exact ht.1) ht.2 2 (nI (pMost S n 3)) 0) (cwV 3 hts gX9_votes_X9_notes rfl rfl rfl ⟨rfl, hdN_X9_notes⟩ ⟨Nat.le_of_ble_eq_true rfl, Nat.le_of_ble_eq_true rfl⟩) [0, 1] (nB := 2) (by decide) rfl rfl rfl rfl 0 rfl rfl (ci := 13) rfl rfl rfl hl.1 rfl (Nat.le_of_ble_eq_true rfl) dX9_votes_76 ⟨(Nat.zero_le _), (Nat.zero_le _)⟩ (fun H locs w => ?_)
        refine lv_aload_n hx hb dX9_votes_79 rfl (lv_at hl 0 rfl) ?_
        refine r_get (v' := .ref (r 1)) hx hb hts in_X9_votes_X9 hown w 0 0 rfl rfl (ci := 13) rfl 0 (by decide) (hts _ (List.mem_of_getElem? (i := 1) rfl)) rfl rfl rfl dX9_votes_80 ?_
        refine lv_bipush (v := 49) hx hb dX9_votes_83 (by decide) ?_
        refine r_iald (v := ((sNote (upd S 203 (nI (pMost S n 3))) 2 (nI (pMost S n 3)) 0) 49)) hx hb w 1 0 rfl rfl 0 rfl 49 (by omega) (Nat.le_of_ble_eq_true rfl) rfl (sqA_at (by omega)) dX9_votes_85 ?_
        refine r_eq (y := (nI q)) ((sNote_off (by rw [updn (by omega)]; exact ht.2) (by omega)).trans ((updn (by omega)).trans h1)) ?_
        refine lv_iconst (v := 1) hx hb dX9_votes_86 (by decide) ?_
        refine lv_isub hx hb dX9_votes_87 ?_
        refine r_eq (y := (nI (q - 0) - 1)) rfl ?_
        refine lv_istore_n (lv' := [(2, .int (nI (q - 0) - 1)), (0, .ref (r 0)), (1, .int (nI (pMost S n 3)))]) hx hb dX9_votes_88 rfl hl (by decide) rfl (fun ls hl => ?_)
        refine k_loop (fun k H locs ls => ∃ (T : pS) (q1 : Nat), kW D (kTY ty) A s.heap s H locs [moB r F, arB ty (r 1) 215 (sqA 215 T)] ∧ lv_has ls 3 [(0, .ref (r 0)), (1, .int (nI (pMost S n 3))), (2, .int (nI (q - k) - 1))] ∧ (pSh T n q1) ∧ (q - k ≤ q1) ∧ (sSweep q (sNote (upd S 203 (nI (pMost S n 3))) 2 (nI (pMost S n 3)) 0) = sSweep (q - k) T)) q 0 (by omega) ⟨sNote (upd S 203 (nI (pMost S n 3))) 2 (nI (pMost S n 3)) 0, q, w, lv_sub hl [1, 2, 0] rfl, (pSh_ext (pSh_ext hI fun i hi => updn (k := 203) (x := nI (pMost S n 3)) (by omega)) fun i hi => sNote_off (by rw [updn (by omega)]; exact ht.2) (by omega)), (by omega), rfl⟩ ?_
        intro k hk0 hk ihk H locs ls hI
        obtain ⟨T, q1, w, hl, hT, hq1, hsw⟩ := hI
        refine lv_iload_n hx hb dX9_votes_89 rfl (lv_at hl 2 rfl) ?_
        refine lv_if_lt (tgt := 120) hx hb dX9_votes_90 (by decide) (fun c90 => ?_) (fun c90 => ?_)
        · have e0 := jl_0 (q := q - k) (by omega) c90
          rw [e0] at hsw
          refine lv_iload_n hx hb dX9_votes_120 rfl (lv_at hl 1 rfl) ?_
          exact e_i hx hb hr hlocks (w.cast (by rw [gR_0 hW, hnd_0 hW, vote_ref hI hsw]; rfl)) (by rw [gR_0 hW, vote_v hI]) dX9_votes_121 (Nat.le_refl _) (Nat.le_refl _)
        · have hp := jl_1 (q := q - k) (by omega) c90
          rw [show nI (q - k) - 1 = nI (q - k - 1) from pk_sub (a := q - k) (b := 1) (by omega)] at hl
          obtain ⟨z, hz, ez⟩ := hT.2.2.2.2.1 (q - k - 1) (by omega)
          have hq18 := hT.2.2.2.1
          refine lv_aload_n hx hb dX9_votes_93 rfl (lv_at hl 0 rfl) ?_
          refine lv_aload_n hx hb dX9_votes_94 rfl (lv_at hl 0 rfl) ?_
          refine r_get (v' := .ref (r 1)) hx hb hts in_X9_votes_X9 hown w 0 0 rfl rfl (ci := 13) rfl 0 (by decide) (hts _ (List.mem_of_getElem? (i := 1) rfl)) rfl rfl rfl dX9_votes_95 ?_
          refine lv_bipush (v := 50) hx hb dX9_votes_98 (by decide) ?_
          refine lv_iload_n hx hb dX9_votes_100 rfl (lv_at hl 2 rfl) ?_
          refine lv_iadd hx hb dX9_votes_101 ?_
          refine r_eq (y := (nI (50 + (q - k - 1)))) (nI_add 50 (q - k - 1)) ?_
          refine r_iald (v := (T (50 + (q - k - 1)))) hx hb w 1 0 rfl rfl 0 rfl (50 + (q - k - 1)) (by omega) (Nat.le_of_ble_eq_true rfl) rfl (sqA_at (by omega)) dX9_votes_102 ?_
          refine r_eq (y := (nI z)) ez ?_
          refine k_iV (As := [.int (nI z)]) (rest := []) (Rs := []) (Bs' := [moB r F, arB ty (r 1) 215 (sqA 215 T)]) ⟨hx, hb, hml, hown, hts⟩ w (c_X9_left l D ty r F T z (by omega)) (cwV 1 hts gX9_votes_X9_left rfl rfl rfl ⟨rfl, hdN_X9_left⟩ ⟨Nat.le_of_ble_eq_true rfl, Nat.le_of_ble_eq_true rfl⟩) [0, 1] (nB := 2) (by decide) rfl rfl rfl rfl 0 rfl rfl (ci := 13) rfl rfl rfl hl.1 rfl (Nat.le_of_ble_eq_true rfl) dX9_votes_103 ⟨(Nat.zero_le _), (Nat.zero_le _)⟩ (fun H locs w => ?_)
          refine lv_if_ne (tgt := 114) hx hb dX9_votes_106 (by decide) (fun c106 => ?_) (fun c106 => ?_)
          · refine lv_iinc (v := (nI (q - (k + 1)) - 1)) (lv' := [(2, .int (nI (q - (k + 1)) - 1)), (0, .ref (r 0)), (1, .int (nI (pMost S n 3)))]) hx hb dX9_votes_114 hl (k := 2) rfl (jl_dec2 (by omega)) (by decide) rfl (fun ls hl => ?_)
            refine lv_goto (tgt := 89) hx hb dX9_votes_117 (by decide) ?_
            exact ihk _ _ _ ⟨T, q1, w, lv_sub hl [1, 2, 0] rfl, hT, (by omega), (by rw [show q - (k + 1) = q - k - 1 by omega, hsw, sweep_s hp hT.2.2.1 (by omega) ez (by omega), if_neg c106])⟩ (by omega)
          · refine lv_aload_n hx hb dX9_votes_109 rfl (lv_at hl 0 rfl) ?_
            refine lv_iload_n hx hb dX9_votes_110 rfl (lv_at hl 2 rfl) ?_
            refine k_vV (As := [.int (nI (q - k - 1))]) (rest := []) (Rs := []) (Bs' := [moB r F, arB ty (r 1) 215 (sqA 215 (sGo T q1 (q - k - 1)))]) ⟨hx, hb, hml, hown, hts⟩ w (c_X9_goesFrom l D ty r F T q1 (hT).2.2.1 (hT).2.2.2.1 (q - k - 1) (by omega)) (cwV 1 hts gX9_votes_X9_goesFrom rfl rfl rfl ⟨rfl, hdN_X9_goesFrom⟩ ⟨Nat.le_of_ble_eq_true rfl, Nat.le_of_ble_eq_true rfl⟩) [0, 1] (nB := 2) (by decide) rfl rfl rfl rfl 0 rfl rfl (ci := 13) rfl rfl rfl hl.1 rfl (Nat.le_of_ble_eq_true rfl) dX9_votes_111 ⟨(Nat.zero_le _), (Nat.zero_le _)⟩ (fun H locs w => ?_)
            refine lv_iinc (v := (nI (q - (k + 1)) - 1)) (lv' := [(2, .int (nI (q - (k + 1)) - 1)), (0, .ref (r 0)), (1, .int (nI (pMost S n 3)))]) hx hb dX9_votes_114 hl (k := 2) rfl (jl_dec2 (by omega)) (by decide) rfl (fun ls hl => ?_)
            refine lv_goto (tgt := 89) hx hb dX9_votes_117 (by decide) ?_
            exact ihk _ _ _ ⟨sGo T q1 (q - k - 1), q1 - 1, w, lv_sub hl [1, 2, 0] rfl, (pSh_go hT (by omega)), (by omega), (by rw [show q - (k + 1) = q - k - 1 by omega, hsw, sweep_s hp hT.2.2.1 (by omega) ez (by omega), if_pos c106])⟩ (by omega)
      · have c35 := mt (nI_leI (a := 4) (b := (k + 1)) (by omega) (by omega)).mpr c35
        refine lv_aload_n hx hb dX9_votes_38 rfl (lv_at hl 0 rfl) ?_
        refine lv_iload_n hx hb dX9_votes_39 rfl (lv_at hl 2 rfl) ?_
        refine k_iV (As := [.int (nI (k + 1))]) (rest := []) (Rs := []) (Bs' := [moB r F, arB ty (r 1) 215 (sqA 215 S)]) ⟨hx, hb, hml, hown, hts⟩ w (c_X9_membersWanting l D ty r F S n (hI).1 (hI).2.1 (nI (k + 1))) (cwV 1 hts gX9_votes_X9_membersWanting rfl rfl rfl ⟨rfl, hdN_X9_membersWanting⟩ ⟨Nat.le_of_ble_eq_true rfl, Nat.le_of_ble_eq_true rfl⟩) [0, 1] (nB := 2) (by decide) rfl rfl rfl rfl 0 rfl rfl (ci := 13) rfl rfl rfl hl.1 rfl (Nat.le_of_ble_eq_true rfl) dX9_votes_40 ⟨(Nat.zero_le _), (Nat.zero_le _)⟩ (fun H locs w => ?_)
        refine lv_aload_n hx hb dX9_votes_43 rfl (lv_at hl 0 rfl) ?_
        refine lv_iload_n hx hb dX9_votes_44 rfl (lv_at hl 1 rfl) ?_
        refine k_iV (As := [.int (nI (pMost S n k))]) (rest := [.int (pMem S (nI (k + 1)) n)]) (Rs := []) (Bs' := [moB r F, arB ty (r 1) 215 (sqA 215 S)]) ⟨hx, hb, hml, hown, hts⟩ w (c_X9_membersWanting l D ty r F S n (hI).1 (hI).2.1 (nI (pMost S n k))) (cwV 1 hts gX9_votes_X9_membersWanting rfl rfl rfl ⟨rfl, hdN_X9_membersWanting⟩ ⟨Nat.le_of_ble_eq_true rfl, Nat.le_of_ble_eq_true rfl⟩) [0, 1] (nB := 2) (by decide) rfl rfl rfl rfl 0 rfl rfl (ci := 13) rfl rfl rfl hl.1 rfl (Nat.le_of_ble_eq_true rfl) dX9_votes_45 ⟨(Nat.zero_le _), (Nat.zero_le _)⟩ (fun H locs w => ?_)
        refine lv_icmp_le (tgt := 55) hx hb dX9_votes_48 (by decide) (fun c48 => ?_) (fun c48 => ?_)
        · have ey := pMost_no (S := S) (n := n) c48
          refine lv_iload_n hx hb dX9_votes_55 rfl (lv_at hl 1 rfl) ?_
          refine lv_istore_n (lv' := [(1, .int (nI (pMost S n k))), (0, .ref (r 0)), (2, .int (nI (k + 1)))]) hx hb dX9_votes_56 rfl hl (by decide) rfl (fun ls hl => ?_)
          refine lv_iinc (v := (nI ((k + 1) + 1))) (lv' := [(2, .int (nI ((k + 1) + 1))), (1, .int (nI (pMost S n k))), (0, .ref (r 0))]) hx hb dX9_votes_57 hl (k := 2) rfl (inc1 (k + 1)) (by decide) rfl (fun ls hl => ?_)
          refine lv_goto (tgt := 33) hx hb dX9_votes_60 (by decide) ?_
          exact ihk _ _ _ ⟨w, (by rw [← ey]; exact lv_sub hl [2, 1, 0] rfl)⟩ (by omega)
        · have ey := pMost_yes (S := S) (n := n) c48
          refine lv_iload_n hx hb dX9_votes_51 rfl (lv_at hl 2 rfl) ?_
          refine lv_goto (tgt := 56) hx hb dX9_votes_52 (by decide) ?_
          refine lv_istore_n (lv' := [(1, .int (nI (k + 1))), (0, .ref (r 0)), (2, .int (nI (k + 1)))]) hx hb dX9_votes_56 rfl hl (by decide) rfl (fun ls hl => ?_)
          refine lv_iinc (v := (nI ((k + 1) + 1))) (lv' := [(2, .int (nI ((k + 1) + 1))), (1, .int (nI (k + 1))), (0, .ref (r 0))]) hx hb dX9_votes_57 hl (k := 2) rfl (inc1 (k + 1)) (by decide) rfl (fun ls hl => ?_)
          refine lv_goto (tgt := 33) hx hb dX9_votes_60 (by decide) ?_
          exact ihk _ _ _ ⟨w, (by rw [← ey]; exact lv_sub hl [2, 1, 0] rfl)⟩ (by omega)
    · have hW : ¬ (wVote S).1 = 0 := mt (hnd_z hF).mpr c24
      refine lv_iconst (v := 0) hx hb dX9_votes_27 (by decide) ?_
      exact e_i hx hb hr hlocks (w.cast (by rw [gR_1 hW])) (by rw [gR_1 hW]) dX9_votes_28 (Nat.le_refl _) (Nat.le_refl _)
  · intro cont15
    refine lv_aload_n hx hb dX9_votes_1 rfl (lv_at hl 0 rfl) ?_
    refine r_get (v' := .ref (r 1)) hx hb hts in_X9_votes_X9 hown w 0 0 rfl rfl (ci := 13) rfl 0 (by decide) (hts _ (List.mem_of_getElem? (i := 1) rfl)) rfl rfl rfl dX9_votes_2 ?_
    refine lv_iconst (v := 0) hx hb dX9_votes_5 (by decide) ?_
    refine r_iald (v := (S 0)) hx hb w 1 0 rfl rfl 0 rfl 0 (by omega) (Nat.le_of_ble_eq_true rfl) rfl (sqA_at (by omega)) dX9_votes_6 ?_
    refine lv_if_ne (tgt := 14) hx hb dX9_votes_7 (by decide) (fun c7 => ?_) (fun c7 => ?_)
    · refine lv_iconst (v := 0) hx hb dX9_votes_14 (by decide) ?_
      refine r_eq (y := (bI (decide (S 0 = 0)))) (bI_d0 c7) ?_
      exact cont15 _ _ _ ⟨w, hl⟩
    · refine lv_iconst (v := 1) hx hb dX9_votes_10 (by decide) ?_
      refine lv_goto (tgt := 15) hx hb dX9_votes_11 (by decide) ?_
      refine r_eq (y := (bI (decide (S 0 = 0)))) (bI_d1 c7) ?_
      exact cont15 _ _ _ ⟨w, hl⟩

theorem in_X9_rains_X9 : ∀ w ∈ wsX90, w ∈ wsX9_rains := by decide +kernel
theorem hdN_X9_rains : yX9_rains.cls ≠ "java/lang/invoke/MethodHandle" ∧ yX9_rains.cls ≠ "java/lang/invoke/VarHandle" ∧ (parseMethodDescriptor yX9_rains.desc).map (fun d => d.parameters.length) = some 1 := by decide +kernel
set_option maxRecDepth 100000 in
set_option maxHeartbeats 4000000 in
theorem c_X9_rains (l : Launch) (D : va_G) (ty : Nat → ClassId) (r : Nat → Nat) (F S : pS) (hF : F 16 = 0) (v : Int32)  : Mi l yX9_rains wsX9_rains (kR 1 23 0 0) D (kTY ty) [.ref (r 0), .int v] [moB r F, arB ty (r 1) 215 (sqA 215 S)] [moB r (hnd (wRain v) F), arB ty (r 1) 215 (sqA 215 (upd S 208 v))] (S 208) 0 0 := by
  refine m_i (cc := cX9_rains) (maxL := 3) (ret := (some .int)) (by decide +kernel) rfl (Nat.le_of_ble_eq_true rfl) ?_
  intro p e s m below meth c A ls hx hb hml hr hlocks hown hts w hl
  have hown : s.vm.findClass RX9 = some m.cls := hown
  have hl : lv_has ls 3 [(0, .ref (r 0)), (1, .int v)] := hl
  refine lv_aload_n hx hb dX9_rains_0 rfl (lv_at hl 0 rfl) ?_
  refine k_cut (fun H locs ls => kW D (kTY ty) A s.heap s H locs [moB r F, arB ty (r 1) 215 (sqA 215 S)] ∧ lv_has ls 3 [(0, .ref (r 0)), (1, .int v)]) (pc' := 16) (st' := [.int (bI (!(pIn v 0 9))), .ref (r 0)]) ?_ ?_
  · intro H locs ls hI
    obtain ⟨w, hl⟩ := hI
    refine lv_iconst (v := 1) hx hb dX9_rains_16 (by decide) ?_
    refine lv_iconst (v := 0) hx hb dX9_rains_17 (by decide) ?_
    refine k_vV (As := [.int (bI (!(pIn v 0 9))), .int 1, .int 0]) (rest := []) (Rs := [arB ty (r 1) 215 (sqA 215 S)]) (Bs' := [moB r (hin (!(pIn v 0 9)) 1 0 F), arB ty (r 1) 215 (sqA 215 S)]) ⟨hx, hb, hml, hown, hts⟩ w (c_X9_hinders l D ty r F (!(pIn v 0 9)) 1 0) (cwV 3 hts gX9_rains_X9_hinders rfl rfl rfl ⟨rfl, hdN_X9_hinders⟩ ⟨Nat.le_of_ble_eq_true rfl, Nat.le_of_ble_eq_true rfl⟩) [0, 1] (nB := 2) (by decide) rfl rfl rfl rfl 0 rfl rfl (ci := 13) rfl rfl rfl hl.1 rfl (Nat.le_of_ble_eq_true rfl) dX9_rains_18 ⟨(Nat.zero_le _), (Nat.zero_le _)⟩ (fun H locs w => ?_)
    have w := w.cast (Bs' := [moB r (hnd (wRain v) F), arB ty (r 1) 215 (sqA 215 S)]) (by rw [ra_W hF])
    refine lv_aload_n hx hb dX9_rains_21 rfl (lv_at hl 0 rfl) ?_
    refine r_get (v' := .ref (r 1)) hx hb hts in_X9_rains_X9 hown w 0 0 rfl rfl (ci := 13) rfl 0 (by decide) (hts _ (List.mem_of_getElem? (i := 1) rfl)) rfl rfl rfl dX9_rains_22 ?_
    refine lv_sipush (v := 208) hx hb dX9_rains_25 (by decide) ?_
    refine r_iald (v := (S 208)) hx hb w 1 0 rfl rfl 0 rfl 208 (by omega) (Nat.le_of_ble_eq_true rfl) rfl (sqA_at (by omega)) dX9_rains_28 ?_
    refine lv_istore_n (lv' := [(2, .int (S 208)), (0, .ref (r 0)), (1, .int v)]) hx hb dX9_rains_29 rfl hl (by decide) rfl (fun ls hl => ?_)
    refine lv_aload_n hx hb dX9_rains_30 rfl (lv_at hl 1 rfl) ?_
    refine r_get (v' := .ref (r 1)) hx hb hts in_X9_rains_X9 hown w 0 0 rfl rfl (ci := 13) rfl 0 (by decide) (hts _ (List.mem_of_getElem? (i := 1) rfl)) rfl rfl rfl dX9_rains_31 ?_
    refine lv_sipush (v := 208) hx hb dX9_rains_34 (by decide) ?_
    refine lv_iload_n hx hb dX9_rains_37 rfl (lv_at hl 2 rfl) ?_
    refine r_iast hx hb w 1 0 rfl rfl 0 rfl 208 (by omega) (Nat.le_of_ble_eq_true rfl) rfl (arB ty (r 1) 215 (sqA 215 (upd S 208 v))) (arB_st (by omega)) [moB r (hnd (wRain v) F), arB ty (r 1) 215 (sqA 215 (upd S 208 v))] rfl dX9_rains_38 (fun H locs w => ?_)
    refine lv_iload_n hx hb dX9_rains_39 rfl (lv_at hl 0 rfl) ?_
    exact e_i hx hb hr hlocks w rfl dX9_rains_40 (Nat.le_refl _) (Nat.le_refl _)
  · intro cont16
    refine lv_iload_n hx hb dX9_rains_1 rfl (lv_at hl 1 rfl) ?_
    refine lv_iconst (v := 0) hx hb dX9_rains_2 (by decide) ?_
    refine lv_bipush (v := 9) hx hb dX9_rains_3 (by decide) ?_
    refine k_iS (As := [.int v, .int 0, .int 9]) (rest := [.ref (r 0)]) (Rs := [moB r F, arB ty (r 1) 215 (sqA 215 S)]) (Bs' := [moB r F, arB ty (r 1) 215 (sqA 215 S)]) ⟨hx, hb, hml, hown, hts⟩ w (c_X9_isIn l D ty v 0 9) (va_cwS 3 hts gX9_rains_X9_isIn rfl rfl rfl hdN_X9_isIn ⟨Nat.le_of_ble_eq_true rfl, Nat.le_of_ble_eq_true rfl⟩) [0, 1] (nB := 2) (by decide) rfl rfl rfl rfl rfl hl.1 rfl (Nat.le_of_ble_eq_true rfl) dX9_rains_5 ⟨(Nat.zero_le _), (Nat.zero_le _)⟩ (fun H locs w => ?_)
    refine lv_if_ne (tgt := 15) hx hb dX9_rains_8 (by decide) (fun c8 => ?_) (fun c8 => ?_)
    · have c8 := bI_1.mp c8
      refine lv_iconst (v := 0) hx hb dX9_rains_15 (by decide) ?_
      refine r_eq (y := (bI (!(pIn v 0 9)))) (nb_0 c8) ?_
      exact cont16 _ _ _ ⟨w, hl⟩
    · have c8 := bI_0.mp c8
      refine lv_iconst (v := 1) hx hb dX9_rains_11 (by decide) ?_
      refine lv_goto (tgt := 16) hx hb dX9_rains_12 (by decide) ?_
      refine r_eq (y := (bI (!(pIn v 0 9)))) (nb_1 c8) ?_
      exact cont16 _ _ _ ⟨w, hl⟩

theorem in_X9_goesNight_X9 : ∀ w ∈ wsX90, w ∈ wsX9_goesNight := by decide +kernel
theorem hdN_X9_goesNight : yX9_goesNight.cls ≠ "java/lang/invoke/MethodHandle" ∧ yX9_goesNight.cls ≠ "java/lang/invoke/VarHandle" ∧ (parseMethodDescriptor yX9_goesNight.desc).map (fun d => d.parameters.length) = some 0 := by decide +kernel
set_option maxRecDepth 100000 in
set_option maxHeartbeats 4000000 in
theorem c_X9_goesNight (l : Launch) (D : va_G) (ty : Nat → ClassId) (r : Nat → Nat) (F S : pS) (n : Nat) (h0 : S 0 = nI n) (hn : n ≤ 8)  : Mv l yX9_goesNight wsX9_goesNight (kR 1 23 0 0) D (kTY ty) [.ref (r 0)] [moB r F, arB ty (r 1) 215 (sqA 215 S)] [moB r F, arB ty (r 1) 215 (sqA 215 (sNight1 n S))] 0 0 := by
  refine m_v (cc := cX9_goesNight) (maxL := 2) (ret := none) (by decide +kernel) rfl (Nat.le_of_ble_eq_true rfl) ?_
  intro p e s m below meth c A ls hx hb hml hr hlocks hown hts w hl
  have hown : s.vm.findClass RX9 = some m.cls := hown
  have hl : lv_has ls 2 [(0, .ref (r 0))] := hl
  refine lv_aload_n hx hb dX9_goesNight_0 rfl (lv_at hl 0 rfl) ?_
  refine r_get (v' := .ref (r 1)) hx hb hts in_X9_goesNight_X9 hown w 0 0 rfl rfl (ci := 13) rfl 0 (by decide) (hts _ (List.mem_of_getElem? (i := 1) rfl)) rfl rfl rfl dX9_goesNight_1 ?_
  refine lv_bipush (v := 49) hx hb dX9_goesNight_4 (by decide) ?_
  refine lv_iconst (v := 0) hx hb dX9_goesNight_6 (by decide) ?_
  refine r_iast hx hb w 1 0 rfl rfl 0 rfl 49 (by omega) (Nat.le_of_ble_eq_true rfl) rfl (arB ty (r 1) 215 (sqA 215 (upd S 49 0))) (arB_st (by omega)) [moB r F, arB ty (r 1) 215 (sqA 215 (upd S 49 0))] rfl dX9_goesNight_7 (fun H locs w => ?_)
  refine lv_iconst (v := 0) hx hb dX9_goesNight_8 (by decide) ?_
  refine lv_istore_n (lv' := [(1, .int 0), (0, .ref (r 0))]) hx hb dX9_goesNight_9 rfl hl (by decide) rfl (fun ls hl => ?_)
  refine k_loop (fun k H locs ls => kW D (kTY ty) A s.heap s H locs [moB r F, arB ty (r 1) 215 (sqA 215 (sClear k (upd S 49 0)))] ∧ lv_has ls 2 [(0, .ref (r 0)), (1, .int (nI k))]) n 0 (by omega) ⟨(w.cast (by rw [sClear_0])), lv_sub hl [1, 0] rfl⟩ ?_
  intro k hk0 hk ihk H locs ls hI
  obtain ⟨w, hl⟩ := hI
  refine lv_iload_n hx hb dX9_goesNight_10 rfl (lv_at hl 1 rfl) ?_
  refine lv_aload_n hx hb dX9_goesNight_11 rfl (lv_at hl 0 rfl) ?_
  refine r_get (v' := .ref (r 1)) hx hb hts in_X9_goesNight_X9 hown w 0 0 rfl rfl (ci := 13) rfl 0 (by decide) (hts _ (List.mem_of_getElem? (i := 1) rfl)) rfl rfl rfl dX9_goesNight_12 ?_
  refine lv_iconst (v := 0) hx hb dX9_goesNight_15 (by decide) ?_
  refine r_iald (v := ((sClear k (upd S 49 0)) 0)) hx hb w 1 0 rfl rfl 0 rfl 0 (by omega) (Nat.le_of_ble_eq_true rfl) rfl (sqA_at (by omega)) dX9_goesNight_16 ?_
  refine r_eq (y := (nI n)) ((sClear_off (by omega) (by omega)).trans ((updn (by omega)).trans h0)) ?_
  refine lv_icmp_ge (tgt := 40) hx hb dX9_goesNight_17 (by decide) (fun c17 => ?_) (fun c17 => ?_)
  · have c17 := (nI_leI (a := n) (b := k) (by omega) (by omega)).mp c17
    obtain rfl : n = k := by omega
    refine lv_aload_n hx hb dX9_goesNight_40 rfl (lv_at hl 0 rfl) ?_
    refine r_get (v' := .ref (r 1)) hx hb hts in_X9_goesNight_X9 hown w 0 0 rfl rfl (ci := 13) rfl 0 (by decide) (hts _ (List.mem_of_getElem? (i := 1) rfl)) rfl rfl rfl dX9_goesNight_41 ?_
    refine lv_sipush (v := 204) hx hb dX9_goesNight_44 (by decide) ?_
    refine r_iald (v := ((sClear n (upd S 49 0)) 204)) hx hb w 1 0 rfl rfl 0 rfl 204 (by omega) (Nat.le_of_ble_eq_true rfl) rfl (sqA_at (by omega)) dX9_goesNight_47 ?_
    refine lv_bipush (v := 10) hx hb dX9_goesNight_48 (by decide) ?_
    refine lv_aload_n hx hb dX9_goesNight_50 rfl (lv_at hl 0 rfl) ?_
    refine r_get (v' := .ref (r 1)) hx hb hts in_X9_goesNight_X9 hown w 0 0 rfl rfl (ci := 13) rfl 0 (by decide) (hts _ (List.mem_of_getElem? (i := 1) rfl)) rfl rfl rfl dX9_goesNight_51 ?_
    refine lv_sipush (v := 208) hx hb dX9_goesNight_54 (by decide) ?_
    refine r_iald (v := ((sClear n (upd S 49 0)) 208)) hx hb w 1 0 rfl rfl 0 rfl 208 (by omega) (Nat.le_of_ble_eq_true rfl) rfl (sqA_at (by omega)) dX9_goesNight_57 ?_
    refine lv_imul hx hb dX9_goesNight_58 ?_
    refine lv_iadd hx hb dX9_goesNight_59 ?_
    refine r_eq (y := (pRain (sClear n (upd S 49 0)))) rfl ?_
    refine lv_istore_n (lv' := [(1, .int (pRain (sClear n (upd S 49 0)))), (0, .ref (r 0))]) hx hb dX9_goesNight_60 rfl hl (by decide) rfl (fun ls hl => ?_)
    refine lv_aload_n hx hb dX9_goesNight_61 rfl (lv_at hl 1 rfl) ?_
    refine r_get (v' := .ref (r 1)) hx hb hts in_X9_goesNight_X9 hown w 0 0 rfl rfl (ci := 13) rfl 0 (by decide) (hts _ (List.mem_of_getElem? (i := 1) rfl)) rfl rfl rfl dX9_goesNight_62 ?_
    refine lv_sipush (v := 214) hx hb dX9_goesNight_65 (by decide) ?_
    refine lv_dup2_11 hx hb dX9_goesNight_68 rfl rfl ?_
    refine r_iald (v := ((sClear n (upd S 49 0)) 214)) hx hb w 1 0 rfl rfl 0 rfl 214 (by omega) (Nat.le_of_ble_eq_true rfl) rfl (sqA_at (by omega)) dX9_goesNight_69 ?_
    refine lv_bipush (v := 10) hx hb dX9_goesNight_70 (by decide) ?_
    refine lv_aload_n hx hb dX9_goesNight_72 rfl (lv_at hl 1 rfl) ?_
    refine r_get (v' := .ref (r 1)) hx hb hts in_X9_goesNight_X9 hown w 0 0 rfl rfl (ci := 13) rfl 0 (by decide) (hts _ (List.mem_of_getElem? (i := 1) rfl)) rfl rfl rfl dX9_goesNight_73 ?_
    refine lv_sipush (v := 208) hx hb dX9_goesNight_76 (by decide) ?_
    refine r_iald (v := ((sClear n (upd S 49 0)) 208)) hx hb w 1 0 rfl rfl 0 rfl 208 (by omega) (Nat.le_of_ble_eq_true rfl) rfl (sqA_at (by omega)) dX9_goesNight_79 ?_
    refine lv_imul hx hb dX9_goesNight_80 ?_
    refine lv_iadd hx hb dX9_goesNight_81 ?_
    refine r_iast hx hb w 1 0 rfl rfl 0 rfl 214 (by omega) (Nat.le_of_ble_eq_true rfl) rfl (arB ty (r 1) 215 (sqA 215 (upd (sClear n (upd S 49 0)) 214 (((sClear n (upd S 49 0)) 214) + (10 * ((sClear n (upd S 49 0)) 208)))))) (arB_st (by omega)) [moB r F, arB ty (r 1) 215 (sqA 215 (upd (sClear n (upd S 49 0)) 214 (((sClear n (upd S 49 0)) 214) + (10 * ((sClear n (upd S 49 0)) 208)))))] rfl dX9_goesNight_82 (fun H locs w => ?_)
    refine lv_aload_n hx hb dX9_goesNight_83 rfl (lv_at hl 1 rfl) ?_
    refine r_get (v' := .ref (r 1)) hx hb hts in_X9_goesNight_X9 hown w 0 0 rfl rfl (ci := 13) rfl 0 (by decide) (hts _ (List.mem_of_getElem? (i := 1) rfl)) rfl rfl rfl dX9_goesNight_84 ?_
    refine lv_sipush (v := 204) hx hb dX9_goesNight_87 (by decide) ?_
    refine lv_sipush (v := 999) hx hb dX9_goesNight_90 (by decide) ?_
    refine lv_iload_n hx hb dX9_goesNight_93 rfl (lv_at hl 0 rfl) ?_
    refine va_mmin hx hb (hml.trans hl.1.symm) hown (hts _ (List.mem_of_getElem? (i := 2) rfl)) (hts _ (List.mem_of_getElem? (i := 3) rfl)) (hts _ (List.mem_of_getElem? (i := 4) rfl)) (hts _ (List.mem_of_getElem? (i := 5) rfl)) (Nat.le_of_ble_eq_true rfl) (Nat.le_of_ble_eq_true rfl) (Nat.zero_le _) (Nat.zero_le _) dX9_goesNight_94 ?_
    refine r_eq (y := (jmin 999 (pRain (sClear n (upd S 49 0))))) rfl ?_
    refine r_iast hx hb w 1 0 rfl rfl 0 rfl 204 (by omega) (Nat.le_of_ble_eq_true rfl) rfl (arB ty (r 1) 215 (sqA 215 (upd (upd (sClear n (upd S 49 0)) 214 (((sClear n (upd S 49 0)) 214) + (10 * ((sClear n (upd S 49 0)) 208)))) 204 (jmin 999 (pRain (sClear n (upd S 49 0))))))) (arB_st (by omega)) [moB r F, arB ty (r 1) 215 (sqA 215 (upd (upd (sClear n (upd S 49 0)) 214 (((sClear n (upd S 49 0)) 214) + (10 * ((sClear n (upd S 49 0)) 208)))) 204 (jmin 999 (pRain (sClear n (upd S 49 0))))))] rfl dX9_goesNight_97 (fun H locs w => ?_)
    refine lv_aload_n hx hb dX9_goesNight_98 rfl (lv_at hl 1 rfl) ?_
    refine r_get (v' := .ref (r 1)) hx hb hts in_X9_goesNight_X9 hown w 0 0 rfl rfl (ci := 13) rfl 0 (by decide) (hts _ (List.mem_of_getElem? (i := 1) rfl)) rfl rfl rfl dX9_goesNight_99 ?_
    refine lv_sipush (v := 211) hx hb dX9_goesNight_102 (by decide) ?_
    refine lv_dup2_11 hx hb dX9_goesNight_105 rfl rfl ?_
    refine r_iald (v := ((sClear n (upd S 49 0)) 211)) hx hb w 1 0 rfl rfl 0 rfl 211 (by omega) (Nat.le_of_ble_eq_true rfl) rfl (sqA_at (by omega)) dX9_goesNight_106 ?_
    refine lv_iload_n hx hb dX9_goesNight_107 rfl (lv_at hl 0 rfl) ?_
    refine lv_aload_n hx hb dX9_goesNight_108 rfl (lv_at hl 1 rfl) ?_
    refine r_get (v' := .ref (r 1)) hx hb hts in_X9_goesNight_X9 hown w 0 0 rfl rfl (ci := 13) rfl 0 (by decide) (hts _ (List.mem_of_getElem? (i := 1) rfl)) rfl rfl rfl dX9_goesNight_109 ?_
    refine lv_sipush (v := 204) hx hb dX9_goesNight_112 (by decide) ?_
    refine r_iald (v := (jmin 999 (pRain (sClear n (upd S 49 0))))) hx hb w 1 0 rfl rfl 0 rfl 204 (by omega) (Nat.le_of_ble_eq_true rfl) rfl (sqA_at (by omega)) dX9_goesNight_115 ?_
    refine lv_isub hx hb dX9_goesNight_116 ?_
    refine lv_iadd hx hb dX9_goesNight_117 ?_
    refine r_iast hx hb w 1 0 rfl rfl 0 rfl 211 (by omega) (Nat.le_of_ble_eq_true rfl) rfl (arB ty (r 1) 215 (sqA 215 (upd (upd (upd (sClear n (upd S 49 0)) 214 (((sClear n (upd S 49 0)) 214) + (10 * ((sClear n (upd S 49 0)) 208)))) 204 (jmin 999 (pRain (sClear n (upd S 49 0))))) 211 (((sClear n (upd S 49 0)) 211) + ((pRain (sClear n (upd S 49 0))) - (jmin 999 (pRain (sClear n (upd S 49 0))))))))) (arB_st (by omega)) [moB r F, arB ty (r 1) 215 (sqA 215 (upd (upd (upd (sClear n (upd S 49 0)) 214 (((sClear n (upd S 49 0)) 214) + (10 * ((sClear n (upd S 49 0)) 208)))) 204 (jmin 999 (pRain (sClear n (upd S 49 0))))) 211 (((sClear n (upd S 49 0)) 211) + ((pRain (sClear n (upd S 49 0))) - (jmin 999 (pRain (sClear n (upd S 49 0))))))))] rfl dX9_goesNight_118 (fun H locs w => ?_)
    refine lv_aload_n hx hb dX9_goesNight_119 rfl (lv_at hl 1 rfl) ?_
    refine r_get (v' := .ref (r 1)) hx hb hts in_X9_goesNight_X9 hown w 0 0 rfl rfl (ci := 13) rfl 0 (by decide) (hts _ (List.mem_of_getElem? (i := 1) rfl)) rfl rfl rfl dX9_goesNight_120 ?_
    refine lv_sipush (v := 206) hx hb dX9_goesNight_123 (by decide) ?_
    refine lv_dup2_11 hx hb dX9_goesNight_126 rfl rfl ?_
    refine r_iald (v := ((sClear n (upd S 49 0)) 206)) hx hb w 1 0 rfl rfl 0 rfl 206 (by omega) (Nat.le_of_ble_eq_true rfl) rfl (sqA_at (by omega)) dX9_goesNight_127 ?_
    refine lv_iconst (v := 1) hx hb dX9_goesNight_128 (by decide) ?_
    refine lv_iadd hx hb dX9_goesNight_129 ?_
    refine r_iast hx hb w 1 0 rfl rfl 0 rfl 206 (by omega) (Nat.le_of_ble_eq_true rfl) rfl (arB ty (r 1) 215 (sqA 215 (upd (upd (upd (upd (sClear n (upd S 49 0)) 214 (((sClear n (upd S 49 0)) 214) + (10 * ((sClear n (upd S 49 0)) 208)))) 204 (jmin 999 (pRain (sClear n (upd S 49 0))))) 211 (((sClear n (upd S 49 0)) 211) + ((pRain (sClear n (upd S 49 0))) - (jmin 999 (pRain (sClear n (upd S 49 0))))))) 206 (((sClear n (upd S 49 0)) 206) + 1)))) (arB_st (by omega)) [moB r F, arB ty (r 1) 215 (sqA 215 (upd (upd (upd (upd (sClear n (upd S 49 0)) 214 (((sClear n (upd S 49 0)) 214) + (10 * ((sClear n (upd S 49 0)) 208)))) 204 (jmin 999 (pRain (sClear n (upd S 49 0))))) 211 (((sClear n (upd S 49 0)) 211) + ((pRain (sClear n (upd S 49 0))) - (jmin 999 (pRain (sClear n (upd S 49 0))))))) 206 (((sClear n (upd S 49 0)) 206) + 1)))] rfl dX9_goesNight_130 (fun H locs w => ?_)
    refine lv_aload_n hx hb dX9_goesNight_131 rfl (lv_at hl 1 rfl) ?_
    refine r_get (v' := .ref (r 1)) hx hb hts in_X9_goesNight_X9 hown w 0 0 rfl rfl (ci := 13) rfl 0 (by decide) (hts _ (List.mem_of_getElem? (i := 1) rfl)) rfl rfl rfl dX9_goesNight_132 ?_
    refine lv_sipush (v := 207) hx hb dX9_goesNight_135 (by decide) ?_
    refine lv_aload_n hx hb dX9_goesNight_138 rfl (lv_at hl 1 rfl) ?_
    refine r_get (v' := .ref (r 1)) hx hb hts in_X9_goesNight_X9 hown w 0 0 rfl rfl (ci := 13) rfl 0 (by decide) (hts _ (List.mem_of_getElem? (i := 1) rfl)) rfl rfl rfl dX9_goesNight_139 ?_
    refine lv_sipush (v := 204) hx hb dX9_goesNight_142 (by decide) ?_
    refine r_iald (v := (jmin 999 (pRain (sClear n (upd S 49 0))))) hx hb w 1 0 rfl rfl 0 rfl 204 (by omega) (Nat.le_of_ble_eq_true rfl) rfl (sqA_at (by omega)) dX9_goesNight_145 ?_
    refine lv_bipush (v := 100) hx hb dX9_goesNight_146 (by decide) ?_
    refine lv_icmp_ge (tgt := 155) hx hb dX9_goesNight_148 (by decide) (fun c148 => ?_) (fun c148 => ?_)
    · refine lv_iconst (v := 0) hx hb dX9_goesNight_155 (by decide) ?_
      refine r_iast hx hb w 1 0 rfl rfl 0 rfl 207 (by omega) (Nat.le_of_ble_eq_true rfl) rfl (arB ty (r 1) 215 (sqA 215 (upd (upd (upd (upd (upd (sClear n (upd S 49 0)) 214 (((sClear n (upd S 49 0)) 214) + (10 * ((sClear n (upd S 49 0)) 208)))) 204 (jmin 999 (pRain (sClear n (upd S 49 0))))) 211 (((sClear n (upd S 49 0)) 211) + ((pRain (sClear n (upd S 49 0))) - (jmin 999 (pRain (sClear n (upd S 49 0))))))) 206 (((sClear n (upd S 49 0)) 206) + 1)) 207 0))) (arB_st (by omega)) [moB r F, arB ty (r 1) 215 (sqA 215 (upd (upd (upd (upd (upd (sClear n (upd S 49 0)) 214 (((sClear n (upd S 49 0)) 214) + (10 * ((sClear n (upd S 49 0)) 208)))) 204 (jmin 999 (pRain (sClear n (upd S 49 0))))) 211 (((sClear n (upd S 49 0)) 211) + ((pRain (sClear n (upd S 49 0))) - (jmin 999 (pRain (sClear n (upd S 49 0))))))) 206 (((sClear n (upd S 49 0)) 206) + 1)) 207 0))] rfl dX9_goesNight_156 (fun H locs w => ?_)
      exact e_v hx hb hr hlocks (w.cast (by rw [sNight1, sRain, decide_eq_false (Int32.not_lt.mpr c148)]; rfl)) dX9_goesNight_157 (Nat.le_refl _) (Nat.le_refl _)
    · refine lv_iconst (v := 1) hx hb dX9_goesNight_151 (by decide) ?_
      refine lv_goto (tgt := 156) hx hb dX9_goesNight_152 (by decide) ?_
      refine r_iast hx hb w 1 0 rfl rfl 0 rfl 207 (by omega) (Nat.le_of_ble_eq_true rfl) rfl (arB ty (r 1) 215 (sqA 215 (upd (upd (upd (upd (upd (sClear n (upd S 49 0)) 214 (((sClear n (upd S 49 0)) 214) + (10 * ((sClear n (upd S 49 0)) 208)))) 204 (jmin 999 (pRain (sClear n (upd S 49 0))))) 211 (((sClear n (upd S 49 0)) 211) + ((pRain (sClear n (upd S 49 0))) - (jmin 999 (pRain (sClear n (upd S 49 0))))))) 206 (((sClear n (upd S 49 0)) 206) + 1)) 207 1))) (arB_st (by omega)) [moB r F, arB ty (r 1) 215 (sqA 215 (upd (upd (upd (upd (upd (sClear n (upd S 49 0)) 214 (((sClear n (upd S 49 0)) 214) + (10 * ((sClear n (upd S 49 0)) 208)))) 204 (jmin 999 (pRain (sClear n (upd S 49 0))))) 211 (((sClear n (upd S 49 0)) 211) + ((pRain (sClear n (upd S 49 0))) - (jmin 999 (pRain (sClear n (upd S 49 0))))))) 206 (((sClear n (upd S 49 0)) 206) + 1)) 207 1))] rfl dX9_goesNight_156 (fun H locs w => ?_)
      exact e_v hx hb hr hlocks (w.cast (by rw [sNight1, sRain, decide_eq_true (Int32.not_le.mp c148)]; rfl)) dX9_goesNight_157 (Nat.le_refl _) (Nat.le_refl _)
  · have c17 := mt (nI_leI (a := n) (b := k) (by omega) (by omega)).mpr c17
    refine lv_aload_n hx hb dX9_goesNight_20 rfl (lv_at hl 0 rfl) ?_
    refine lv_iload_n hx hb dX9_goesNight_21 rfl (lv_at hl 1 rfl) ?_
    refine lv_iconst (v := 3) hx hb dX9_goesNight_22 (by decide) ?_
    refine lv_iconst (v := 0) hx hb dX9_goesNight_23 (by decide) ?_
    refine k_vV (As := [.int (nI k), .int 3, .int 0]) (rest := []) (Rs := []) (Bs' := [moB r F, arB ty (r 1) 215 (sqA 215 (upd (sClear k (upd S 49 0)) (1 + 6 * k + 3) 0))]) ⟨hx, hb, hml, hown, hts⟩ w (c_X9_becomes l D ty r F (sClear k (upd S 49 0)) k 3 (by omega) 0) (cwV 3 hts gX9_goesNight_X9_becomes rfl rfl rfl ⟨rfl, hdN_X9_becomes⟩ ⟨Nat.le_of_ble_eq_true rfl, Nat.le_of_ble_eq_true rfl⟩) [0, 1] (nB := 2) (by decide) rfl rfl rfl rfl 0 rfl rfl (ci := 13) rfl rfl rfl hl.1 rfl (Nat.le_of_ble_eq_true rfl) dX9_goesNight_24 ⟨(Nat.zero_le _), (Nat.zero_le _)⟩ (fun H locs w => ?_)
    refine lv_aload_n hx hb dX9_goesNight_27 rfl (lv_at hl 0 rfl) ?_
    refine lv_iload_n hx hb dX9_goesNight_28 rfl (lv_at hl 1 rfl) ?_
    refine lv_iconst (v := 4) hx hb dX9_goesNight_29 (by decide) ?_
    refine lv_iconst (v := 0) hx hb dX9_goesNight_30 (by decide) ?_
    refine k_vV (As := [.int (nI k), .int 4, .int 0]) (rest := []) (Rs := []) (Bs' := [moB r F, arB ty (r 1) 215 (sqA 215 (upd (upd (sClear k (upd S 49 0)) (1 + 6 * k + 3) 0) (1 + 6 * k + 4) 0))]) ⟨hx, hb, hml, hown, hts⟩ w (c_X9_becomes l D ty r F (upd (sClear k (upd S 49 0)) (1 + 6 * k + 3) 0) k 4 (by omega) 0) (cwV 3 hts gX9_goesNight_X9_becomes rfl rfl rfl ⟨rfl, hdN_X9_becomes⟩ ⟨Nat.le_of_ble_eq_true rfl, Nat.le_of_ble_eq_true rfl⟩) [0, 1] (nB := 2) (by decide) rfl rfl rfl rfl 0 rfl rfl (ci := 13) rfl rfl rfl hl.1 rfl (Nat.le_of_ble_eq_true rfl) dX9_goesNight_31 ⟨(Nat.zero_le _), (Nat.zero_le _)⟩ (fun H locs w => ?_)
    have w := w.cast (Bs' := [moB r F, arB ty (r 1) 215 (sqA 215 (sClear (k + 1) (upd S 49 0)))]) (by rw [sClear_s])
    refine lv_iinc (v := (nI (k + 1))) (lv' := [(1, .int (nI (k + 1))), (0, .ref (r 0))]) hx hb dX9_goesNight_34 hl (k := 1) rfl (inc1 k) (by decide) rfl (fun ls hl => ?_)
    refine lv_goto (tgt := 10) hx hb dX9_goesNight_37 (by decide) ?_
    exact ihk _ _ _ ⟨w, lv_sub hl [1, 0] rfl⟩ (by omega)

theorem in_X9_nights_X9 : ∀ w ∈ wsX90, w ∈ wsX9_nights := by decide +kernel
theorem hdN_X9_nights : yX9_nights.cls ≠ "java/lang/invoke/MethodHandle" ∧ yX9_nights.cls ≠ "java/lang/invoke/VarHandle" ∧ (parseMethodDescriptor yX9_nights.desc).map (fun d => d.parameters.length) = some 1 := by decide +kernel
set_option maxRecDepth 100000 in
set_option maxHeartbeats 4000000 in
theorem c_X9_nights (l : Launch) (D : va_G) (ty : Nat → ClassId) (r : Nat → Nat) (F S : pS) (hF : F 16 = 0) (n : Nat) (h0 : S 0 = nI n) (hn : n ≤ 8) (v : Int32)  : Mi l yX9_nights wsX9_nights (kR 2 44 0 0) D (kTY ty) [.ref (r 0), .int v] [moB r F, arB ty (r 1) 215 (sqA 215 S)] [moB r (hnd (wNight v) F), arB ty (r 1) 215 (sqA 215 (gR (wNight v) (sNightN n (cN v) S) S))] (gR (wNight v) (sNightN n (cN v) S) S 204) 0 0 := by
  refine m_i (cc := cX9_nights) (maxL := 3) (ret := (some .int)) (by decide +kernel) rfl (Nat.le_of_ble_eq_true rfl) ?_
  intro p e s m below meth c A ls hx hb hml hr hlocks hown hts w hl
  have hown : s.vm.findClass RX9 = some m.cls := hown
  have hl : lv_has ls 3 [(0, .ref (r 0)), (1, .int v)] := hl
  refine lv_aload_n hx hb dX9_nights_0 rfl (lv_at hl 0 rfl) ?_
  refine k_cut (fun H locs ls => kW D (kTY ty) A s.heap s H locs [moB r F, arB ty (r 1) 215 (sqA 215 S)] ∧ lv_has ls 3 [(0, .ref (r 0)), (1, .int v)]) (pc' := 16) (st' := [.int (bI (!(pIn v 1 50))), .ref (r 0)]) ?_ ?_
  · intro H locs ls hI
    obtain ⟨w, hl⟩ := hI
    refine lv_iconst (v := 1) hx hb dX9_nights_16 (by decide) ?_
    refine lv_iconst (v := 0) hx hb dX9_nights_17 (by decide) ?_
    refine k_vV (As := [.int (bI (!(pIn v 1 50))), .int 1, .int 0]) (rest := []) (Rs := [arB ty (r 1) 215 (sqA 215 S)]) (Bs' := [moB r (hin (!(pIn v 1 50)) 1 0 F), arB ty (r 1) 215 (sqA 215 S)]) ⟨hx, hb, hml, hown, hts⟩ w (c_X9_hinders l D ty r F (!(pIn v 1 50)) 1 0) (cwV 3 hts gX9_nights_X9_hinders rfl rfl rfl ⟨rfl, hdN_X9_hinders⟩ ⟨Nat.le_of_ble_eq_true rfl, Nat.le_of_ble_eq_true rfl⟩) [0, 1] (nB := 2) (by decide) rfl rfl rfl rfl 0 rfl rfl (ci := 13) rfl rfl rfl hl.1 rfl (Nat.le_of_ble_eq_true rfl) dX9_nights_18 ⟨(Nat.zero_le _), (Nat.zero_le _)⟩ (fun H locs w => ?_)
    have w := w.cast (Bs' := [moB r (hnd (wNight v) F), arB ty (r 1) 215 (sqA 215 S)]) (by rw [ni_W hF])
    by_cases hW : (wNight v).1 = 0
    · obtain ⟨j, hj1, hj, rfl⟩ := pIn_nat (k := 50) (by omega) (ni_in hW)
      have w := w.cast (Bs' := [moB r F, arB ty (r 1) 215 (sqA 215 S)]) (by rw [hnd_0 hW])
      refine lv_iconst (v := 0) hx hb dX9_nights_21 (by decide) ?_
      refine lv_istore_n (lv' := [(2, .int 0), (0, .ref (r 0)), (1, .int (nI j))]) hx hb dX9_nights_22 rfl hl (by decide) rfl (fun ls hl => ?_)
      refine k_loop (fun k H locs ls => kW D (kTY ty) A s.heap s H locs [moB r F, arB ty (r 1) 215 (sqA 215 (sNightN n k S))] ∧ lv_has ls 3 [(0, .ref (r 0)), (1, .int (nI j)), (2, .int (nI k))]) j 0 (by omega) ⟨w, lv_sub hl [1, 2, 0] rfl⟩ ?_
      intro k hk0 hk ihk H locs ls hI
      obtain ⟨w, hl⟩ := hI
      refine lv_iload_n hx hb dX9_nights_23 rfl (lv_at hl 2 rfl) ?_
      refine lv_iload_n hx hb dX9_nights_24 rfl (lv_at hl 1 rfl) ?_
      refine lv_icmp_ge (tgt := 45) hx hb dX9_nights_25 (by decide) (fun c25 => ?_) (fun c25 => ?_)
      · have c25 := (nI_leI (a := j) (b := k) (by omega) (by omega)).mp c25
        obtain rfl : j = k := by omega
        refine lv_aload_n hx hb dX9_nights_45 rfl (lv_at hl 0 rfl) ?_
        refine r_get (v' := .ref (r 1)) hx hb hts in_X9_nights_X9 hown w 0 0 rfl rfl (ci := 13) rfl 0 (by decide) (hts _ (List.mem_of_getElem? (i := 2) rfl)) rfl rfl rfl dX9_nights_46 ?_
        refine lv_sipush (v := 204) hx hb dX9_nights_49 (by decide) ?_
        refine r_iald (v := ((sNightN n j S) 204)) hx hb w 1 0 rfl rfl 0 rfl 204 (by omega) (Nat.le_of_ble_eq_true rfl) rfl (sqA_at (by omega)) dX9_nights_52 ?_
        exact e_i hx hb hr hlocks (w.cast (by rw [gR_0 hW, hnd_0 hW, cN_nI (by omega)])) (by rw [gR_0 hW, cN_nI (by omega)]) dX9_nights_53 (Nat.le_refl _) (Nat.le_refl _)
      · have c25 := mt (nI_leI (a := j) (b := k) (by omega) (by omega)).mpr c25
        refine lv_aload_n hx hb dX9_nights_28 rfl (lv_at hl 0 rfl) ?_
        refine r_get (v' := .int (F 16)) hx hb hts in_X9_nights_X9 hown w 0 0 rfl rfl (ci := 13) rfl 16 (by decide) (hts _ (List.mem_of_getElem? (i := 1) rfl)) rfl rfl rfl dX9_nights_29 ?_
        refine lv_if_ne (tgt := 45) hx hb dX9_nights_32 (by decide) (fun c32 => ?_) (fun c32 => ?_)
        · exact absurd hF c32
        · refine lv_aload_n hx hb dX9_nights_35 rfl (lv_at hl 0 rfl) ?_
          refine k_vV (As := []) (rest := []) (Rs := []) (Bs' := [moB r F, arB ty (r 1) 215 (sqA 215 (sNight1 n (sNightN n k S)))]) ⟨hx, hb, hml, hown, hts⟩ w (c_X9_goesNight l D ty r F (sNightN n k S) n (nightN_0 h0 hn) hn) (cwV 0 hts gX9_nights_X9_goesNight rfl rfl rfl ⟨rfl, hdN_X9_goesNight⟩ ⟨Nat.le_of_ble_eq_true rfl, Nat.le_of_ble_eq_true rfl⟩) [0, 1] (nB := 2) (by decide) rfl rfl rfl rfl 0 rfl rfl (ci := 13) rfl rfl rfl hl.1 rfl (Nat.le_of_ble_eq_true rfl) dX9_nights_36 ⟨(Nat.zero_le _), (Nat.zero_le _)⟩ (fun H locs w => ?_)
          refine lv_iinc (v := (nI (k + 1))) (lv' := [(2, .int (nI (k + 1))), (0, .ref (r 0)), (1, .int (nI j))]) hx hb dX9_nights_39 hl (k := 2) rfl (inc1 k) (by decide) rfl (fun ls hl => ?_)
          refine lv_goto (tgt := 23) hx hb dX9_nights_42 (by decide) ?_
          exact ihk _ _ _ ⟨w, lv_sub hl [1, 2, 0] rfl⟩ (by omega)
    · refine lv_iconst (v := 0) hx hb dX9_nights_21 (by decide) ?_
      refine lv_istore_n (lv' := [(2, .int 0), (0, .ref (r 0)), (1, .int v)]) hx hb dX9_nights_22 rfl hl (by decide) rfl (fun ls hl => ?_)
      refine lv_iload_n hx hb dX9_nights_23 rfl (lv_at hl 0 rfl) ?_
      refine lv_iload_n hx hb dX9_nights_24 rfl (lv_at hl 2 rfl) ?_
      refine lv_icmp_ge (tgt := 45) hx hb dX9_nights_25 (by decide) (fun c25 => ?_) (fun c25 => ?_)
      · refine lv_aload_n hx hb dX9_nights_45 rfl (lv_at hl 1 rfl) ?_
        refine r_get (v' := .ref (r 1)) hx hb hts in_X9_nights_X9 hown w 0 0 rfl rfl (ci := 13) rfl 0 (by decide) (hts _ (List.mem_of_getElem? (i := 2) rfl)) rfl rfl rfl dX9_nights_46 ?_
        refine lv_sipush (v := 204) hx hb dX9_nights_49 (by decide) ?_
        refine r_iald (v := (S 204)) hx hb w 1 0 rfl rfl 0 rfl 204 (by omega) (Nat.le_of_ble_eq_true rfl) rfl (sqA_at (by omega)) dX9_nights_52 ?_
        exact e_i hx hb hr hlocks (w.cast (by rw [gR_1 hW])) (by rw [gR_1 hW]) dX9_nights_53 (Nat.le_refl _) (Nat.le_refl _)
      · refine lv_aload_n hx hb dX9_nights_28 rfl (lv_at hl 1 rfl) ?_
        refine r_get (v' := .int ((hnd (wNight v) F) 16)) hx hb hts in_X9_nights_X9 hown w 0 0 rfl rfl (ci := 13) rfl 16 (by decide) (hts _ (List.mem_of_getElem? (i := 1) rfl)) rfl rfl rfl dX9_nights_29 ?_
        refine lv_if_ne (tgt := 45) hx hb dX9_nights_32 (by decide) (fun c32 => ?_) (fun c32 => ?_)
        · refine lv_aload_n hx hb dX9_nights_45 rfl (lv_at hl 1 rfl) ?_
          refine r_get (v' := .ref (r 1)) hx hb hts in_X9_nights_X9 hown w 0 0 rfl rfl (ci := 13) rfl 0 (by decide) (hts _ (List.mem_of_getElem? (i := 2) rfl)) rfl rfl rfl dX9_nights_46 ?_
          refine lv_sipush (v := 204) hx hb dX9_nights_49 (by decide) ?_
          refine r_iald (v := (S 204)) hx hb w 1 0 rfl rfl 0 rfl 204 (by omega) (Nat.le_of_ble_eq_true rfl) rfl (sqA_at (by omega)) dX9_nights_52 ?_
          exact e_i hx hb hr hlocks (w.cast (by rw [gR_1 hW])) (by rw [gR_1 hW]) dX9_nights_53 (Nat.le_refl _) (Nat.le_refl _)
        · exact absurd ((hnd_z hF).mp c32) hW
  · intro cont16
    refine lv_iload_n hx hb dX9_nights_1 rfl (lv_at hl 1 rfl) ?_
    refine lv_iconst (v := 1) hx hb dX9_nights_2 (by decide) ?_
    refine lv_bipush (v := 50) hx hb dX9_nights_3 (by decide) ?_
    refine k_iS (As := [.int v, .int 1, .int 50]) (rest := [.ref (r 0)]) (Rs := [moB r F, arB ty (r 1) 215 (sqA 215 S)]) (Bs' := [moB r F, arB ty (r 1) 215 (sqA 215 S)]) ⟨hx, hb, hml, hown, hts⟩ w (c_X9_isIn l D ty v 1 50) (va_cwS 3 hts gX9_nights_X9_isIn rfl rfl rfl hdN_X9_isIn ⟨Nat.le_of_ble_eq_true rfl, Nat.le_of_ble_eq_true rfl⟩) [0, 1] (nB := 2) (by decide) rfl rfl rfl rfl rfl hl.1 rfl (Nat.le_of_ble_eq_true rfl) dX9_nights_5 ⟨(Nat.zero_le _), (Nat.zero_le _)⟩ (fun H locs w => ?_)
    refine lv_if_ne (tgt := 15) hx hb dX9_nights_8 (by decide) (fun c8 => ?_) (fun c8 => ?_)
    · have c8 := bI_1.mp c8
      refine lv_iconst (v := 0) hx hb dX9_nights_15 (by decide) ?_
      refine r_eq (y := (bI (!(pIn v 1 50)))) (nb_0 c8) ?_
      exact cont16 _ _ _ ⟨w, hl⟩
    · have c8 := bI_0.mp c8
      refine lv_iconst (v := 1) hx hb dX9_nights_11 (by decide) ?_
      refine lv_goto (tgt := 16) hx hb dX9_nights_12 (by decide) ?_
      refine r_eq (y := (bI (!(pIn v 1 50)))) (nb_1 c8) ?_
      exact cont16 _ _ _ ⟨w, hl⟩

theorem in_X9_renews_X9 : ∀ w ∈ wsX90, w ∈ wsX9_renews := by decide +kernel
theorem hdN_X9_renews : yX9_renews.cls ≠ "java/lang/invoke/MethodHandle" ∧ yX9_renews.cls ≠ "java/lang/invoke/VarHandle" ∧ (parseMethodDescriptor yX9_renews.desc).map (fun d => d.parameters.length) = some 0 := by decide +kernel
set_option maxRecDepth 100000 in
set_option maxHeartbeats 4000000 in
theorem c_X9_renews (l : Launch) (D : va_G) (ty : Nat → ClassId) (r : Nat → Nat) (F S : pS) (hF : F 16 = 0) (ht : nOK S) (M : pS)  : Mi l yX9_renews wsX9_renews (kR 1 24 0 0) D (kTY ty) [.ref (r 0)] [moB r F, arB ty (r 1) 215 (sqA 215 S)] [moB r (hnd (wLeather S) F), arB ty (r 1) 215 (sqA 215 (gR (wLeather S) (oRenew (S, M)).2.1 S))] (S 205) 0 0 := by
  refine m_i (cc := cX9_renews) (maxL := 2) (ret := (some .int)) (by decide +kernel) rfl (Nat.le_of_ble_eq_true rfl) ?_
  intro p e s m below meth c A ls hx hb hml hr hlocks hown hts w hl
  have hown : s.vm.findClass RX9 = some m.cls := hown
  have hl : lv_has ls 2 [(0, .ref (r 0))] := hl
  refine lv_aload_n hx hb dX9_renews_0 rfl (lv_at hl 0 rfl) ?_
  refine k_cut (fun H locs ls => kW D (kTY ty) A s.heap s H locs [moB r F, arB ty (r 1) 215 (sqA 215 S)] ∧ lv_has ls 2 [(0, .ref (r 0))]) (pc' := 19) (st' := [.int (bI (decide (S 209 < 20))), .ref (r 0)]) ?_ ?_
  · intro H locs ls hI
    obtain ⟨w, hl⟩ := hI
    refine lv_bipush (v := 9) hx hb dX9_renews_19 (by decide) ?_
    refine lv_bipush (v := 20) hx hb dX9_renews_21 (by decide) ?_
    refine lv_aload_n hx hb dX9_renews_23 rfl (lv_at hl 0 rfl) ?_
    refine r_get (v' := .ref (r 1)) hx hb hts in_X9_renews_X9 hown w 0 0 rfl rfl (ci := 13) rfl 0 (by decide) (hts _ (List.mem_of_getElem? (i := 1) rfl)) rfl rfl rfl dX9_renews_24 ?_
    refine lv_sipush (v := 209) hx hb dX9_renews_27 (by decide) ?_
    refine r_iald (v := (S 209)) hx hb w 1 0 rfl rfl 0 rfl 209 (by omega) (Nat.le_of_ble_eq_true rfl) rfl (sqA_at (by omega)) dX9_renews_30 ?_
    refine lv_isub hx hb dX9_renews_31 ?_
    refine k_vV (As := [.int (bI (decide (S 209 < 20))), .int 9, .int (20 - (S 209))]) (rest := []) (Rs := [arB ty (r 1) 215 (sqA 215 S)]) (Bs' := [moB r (hin (decide (S 209 < 20)) 9 (20 - (S 209)) F), arB ty (r 1) 215 (sqA 215 S)]) ⟨hx, hb, hml, hown, hts⟩ w (c_X9_hinders l D ty r F (decide (S 209 < 20)) 9 (20 - (S 209))) (cwV 3 hts gX9_renews_X9_hinders rfl rfl rfl ⟨rfl, hdN_X9_hinders⟩ ⟨Nat.le_of_ble_eq_true rfl, Nat.le_of_ble_eq_true rfl⟩) [0, 1] (nB := 2) (by decide) rfl rfl rfl rfl 0 rfl rfl (ci := 13) rfl rfl rfl hl.1 rfl (Nat.le_of_ble_eq_true rfl) dX9_renews_32 ⟨(Nat.zero_le _), (Nat.zero_le _)⟩ (fun H locs w => ?_)
    have w := w.cast (Bs' := [moB r (hnd (wLeather S) F), arB ty (r 1) 215 (sqA 215 S)]) (by rw [re_W hF])
    refine lv_aload_n hx hb dX9_renews_35 rfl (lv_at hl 0 rfl) ?_
    refine r_get (v' := .ref (r 1)) hx hb hts in_X9_renews_X9 hown w 0 0 rfl rfl (ci := 13) rfl 0 (by decide) (hts _ (List.mem_of_getElem? (i := 1) rfl)) rfl rfl rfl dX9_renews_36 ?_
    refine lv_sipush (v := 205) hx hb dX9_renews_39 (by decide) ?_
    refine r_iald (v := (S 205)) hx hb w 1 0 rfl rfl 0 rfl 205 (by omega) (Nat.le_of_ble_eq_true rfl) rfl (sqA_at (by omega)) dX9_renews_42 ?_
    refine lv_istore_n (lv' := [(1, .int (S 205)), (0, .ref (r 0))]) hx hb dX9_renews_43 rfl hl (by decide) rfl (fun ls hl => ?_)
    refine lv_aload_n hx hb dX9_renews_44 rfl (lv_at hl 1 rfl) ?_
    refine r_get (v' := .int ((hnd (wLeather S) F) 16)) hx hb hts in_X9_renews_X9 hown w 0 0 rfl rfl (ci := 13) rfl 16 (by decide) (hts _ (List.mem_of_getElem? (i := 2) rfl)) rfl rfl rfl dX9_renews_45 ?_
    refine lv_if_ne (tgt := 80) hx hb dX9_renews_48 (by decide) (fun c48 => ?_) (fun c48 => ?_)
    · have hW := mt (hnd_z hF).mpr c48
      refine lv_iload_n hx hb dX9_renews_80 rfl (lv_at hl 0 rfl) ?_
      exact e_i hx hb hr hlocks (w.cast (by rw [gR_1 hW])) rfl dX9_renews_81 (Nat.le_refl _) (Nat.le_refl _)
    · have hW := (hnd_z hF).mp c48
      refine lv_aload_n hx hb dX9_renews_51 rfl (lv_at hl 1 rfl) ?_
      refine r_get (v' := .ref (r 1)) hx hb hts in_X9_renews_X9 hown w 0 0 rfl rfl (ci := 13) rfl 0 (by decide) (hts _ (List.mem_of_getElem? (i := 1) rfl)) rfl rfl rfl dX9_renews_52 ?_
      refine lv_sipush (v := 209) hx hb dX9_renews_55 (by decide) ?_
      refine lv_dup2_11 hx hb dX9_renews_58 rfl rfl ?_
      refine r_iald (v := (S 209)) hx hb w 1 0 rfl rfl 0 rfl 209 (by omega) (Nat.le_of_ble_eq_true rfl) rfl (sqA_at (by omega)) dX9_renews_59 ?_
      refine lv_bipush (v := 20) hx hb dX9_renews_60 (by decide) ?_
      refine lv_isub hx hb dX9_renews_62 ?_
      refine r_iast hx hb w 1 0 rfl rfl 0 rfl 209 (by omega) (Nat.le_of_ble_eq_true rfl) rfl (arB ty (r 1) 215 (sqA 215 (upd S 209 ((S 209) - 20)))) (arB_st (by omega)) [moB r (hnd (wLeather S) F), arB ty (r 1) 215 (sqA 215 (upd S 209 ((S 209) - 20)))] rfl dX9_renews_63 (fun H locs w => ?_)
      refine lv_aload_n hx hb dX9_renews_64 rfl (lv_at hl 1 rfl) ?_
      refine r_get (v' := .ref (r 1)) hx hb hts in_X9_renews_X9 hown w 0 0 rfl rfl (ci := 13) rfl 0 (by decide) (hts _ (List.mem_of_getElem? (i := 1) rfl)) rfl rfl rfl dX9_renews_65 ?_
      refine lv_sipush (v := 205) hx hb dX9_renews_68 (by decide) ?_
      refine lv_iconst (v := 0) hx hb dX9_renews_71 (by decide) ?_
      refine r_iast hx hb w 1 0 rfl rfl 0 rfl 205 (by omega) (Nat.le_of_ble_eq_true rfl) rfl (arB ty (r 1) 215 (sqA 215 (upd (upd S 209 ((S 209) - 20)) 205 0))) (arB_st (by omega)) [moB r (hnd (wLeather S) F), arB ty (r 1) 215 (sqA 215 (upd (upd S 209 ((S 209) - 20)) 205 0))] rfl dX9_renews_72 (fun H locs w => ?_)
      refine lv_aload_n hx hb dX9_renews_73 rfl (lv_at hl 1 rfl) ?_
      refine lv_iconst (v := 3) hx hb dX9_renews_74 (by decide) ?_
      refine lv_iconst (v := 0) hx hb dX9_renews_75 (by decide) ?_
      refine lv_iconst (v := 0) hx hb dX9_renews_76 (by decide) ?_
      refine k_vV (As := [.int 3, .int 0, .int 0]) (rest := []) (Rs := []) (Bs' := [moB r (hnd (wLeather S) F), arB ty (r 1) 215 (sqA 215 (sNote (upd (upd S 209 ((S 209) - 20)) 205 0) 3 0 0))]) ⟨hx, hb, hml, hown, hts⟩ w (c_X9_notes l D ty r (hnd (wLeather S) F) (upd (upd S 209 ((S 209) - 20)) 205 0) (cN (S 122)) ht.1 ht.2 3 0 0) (cwV 3 hts gX9_renews_X9_notes rfl rfl rfl ⟨rfl, hdN_X9_notes⟩ ⟨Nat.le_of_ble_eq_true rfl, Nat.le_of_ble_eq_true rfl⟩) [0, 1] (nB := 2) (by decide) rfl rfl rfl rfl 0 rfl rfl (ci := 13) rfl rfl rfl hl.1 rfl (Nat.le_of_ble_eq_true rfl) dX9_renews_77 ⟨(Nat.zero_le _), (Nat.zero_le _)⟩ (fun H locs w => ?_)
      refine lv_iload_n hx hb dX9_renews_80 rfl (lv_at hl 0 rfl) ?_
      exact e_i hx hb hr hlocks (w.cast (by rw [gR_0 hW]; rfl)) rfl dX9_renews_81 (Nat.le_refl _) (Nat.le_refl _)
  · intro cont19
    refine lv_aload_n hx hb dX9_renews_1 rfl (lv_at hl 0 rfl) ?_
    refine r_get (v' := .ref (r 1)) hx hb hts in_X9_renews_X9 hown w 0 0 rfl rfl (ci := 13) rfl 0 (by decide) (hts _ (List.mem_of_getElem? (i := 1) rfl)) rfl rfl rfl dX9_renews_2 ?_
    refine lv_sipush (v := 209) hx hb dX9_renews_5 (by decide) ?_
    refine r_iald (v := (S 209)) hx hb w 1 0 rfl rfl 0 rfl 209 (by omega) (Nat.le_of_ble_eq_true rfl) rfl (sqA_at (by omega)) dX9_renews_8 ?_
    refine lv_bipush (v := 20) hx hb dX9_renews_9 (by decide) ?_
    refine lv_icmp_ge (tgt := 18) hx hb dX9_renews_11 (by decide) (fun c11 => ?_) (fun c11 => ?_)
    · refine lv_iconst (v := 0) hx hb dX9_renews_18 (by decide) ?_
      refine r_eq (y := (bI (decide (S 209 < 20)))) (bI_d0 (Int32.not_lt.mpr c11)) ?_
      exact cont19 _ _ _ ⟨w, hl⟩
    · refine lv_iconst (v := 1) hx hb dX9_renews_14 (by decide) ?_
      refine lv_goto (tgt := 19) hx hb dX9_renews_15 (by decide) ?_
      refine r_eq (y := (bI (decide (S 209 < 20)))) (bI_d1 (Int32.not_le.mp c11)) ?_
      exact cont19 _ _ _ ⟨w, hl⟩

theorem hdN_X9_join : yX9_join.cls ≠ "java/lang/invoke/MethodHandle" ∧ yX9_join.cls ≠ "java/lang/invoke/VarHandle" ∧ (parseMethodDescriptor yX9_join.desc).map (fun d => d.parameters.length) = some 1 := by decide +kernel
set_option maxRecDepth 100000 in
set_option maxHeartbeats 4000000 in
theorem c_X9_join (l : Launch) (D : va_G) (ty : Nat → ClassId) (r : Nat → Nat) (F S T : pS) (HA : Nat → Int32) (z : Nat) (hz : z ≤ 8) (h6 : F 6 = nI z) (n q : Nat) (hI : pSh S n q) (ht : nOK S) (M : pS) (h : Int32)  : Mi l yX9_join wsX9_join (kR 5 113 0 0) D (kTY ty) [.ref (r 0), .int h] [moB r F, arB ty (r 1) 215 (sqA 215 S), arB ty (r 2) 215 (sqA 215 T), arB ty (r 5) 1720 HA] [moB r (enF (hnd (wJoin S h) (upd F 16 0)) 1 0 z), arB ty (r 1) 215 (sqA 215 (gR (wJoin S h) (oJL n (cN h) q (S, M)).2.1 S)), arB ty (r 2) 215 (sqA 215 S), arB ty (r 5) 1720 (gR (wJoin S h) (hKp HA S z) HA)] (gR (wJoin S h) (oJL n (cN h) q (S, M)).1 0) 0 0 := by
  refine m_i (cc := cX9_join) (maxL := 2) (ret := (some .int)) (by decide +kernel) rfl (Nat.le_of_ble_eq_true rfl) ?_
  intro p e s m below meth c A ls hx hb hml hr hlocks hown hts w hl
  have hown : s.vm.findClass RX9 = some m.cls := hown
  have hl : lv_has ls 2 [(0, .ref (r 0)), (1, .int h)] := hl
  refine lv_aload_n hx hb dX9_join_0 rfl (lv_at hl 0 rfl) ?_
  refine k_vV (As := []) (rest := []) (Rs := [arB ty (r 5) 1720 HA]) (Bs' := [moB r (upd F 16 0), arB ty (r 1) 215 (sqA 215 S), arB ty (r 2) 215 (sqA 215 S), arB ty (r 5) 1720 HA]) ⟨hx, hb, hml, hown, hts⟩ w (c_X9_begins l D ty r F S T) (cwV 0 hts gX9_join_X9_begins rfl rfl rfl ⟨rfl, hdN_X9_begins⟩ ⟨Nat.le_of_ble_eq_true rfl, Nat.le_of_ble_eq_true rfl⟩) [0, 1, 2, 3] (nB := 4) (by decide) rfl rfl rfl rfl 0 rfl rfl (ci := 13) rfl rfl rfl hl.1 rfl (Nat.le_of_ble_eq_true rfl) dX9_join_1 ⟨(Nat.zero_le _), (Nat.zero_le _)⟩ (fun H locs w => ?_)
  refine lv_aload_n hx hb dX9_join_4 rfl (lv_at hl 0 rfl) ?_
  refine lv_aload_n hx hb dX9_join_5 rfl (lv_at hl 0 rfl) ?_
  refine lv_iload_n hx hb dX9_join_6 rfl (lv_at hl 1 rfl) ?_
  refine k_iV (As := [.int h]) (rest := [.ref (r 0)]) (Rs := [arB ty (r 2) 215 (sqA 215 S), arB ty (r 5) 1720 HA]) (Bs' := [moB r (hnd (wJoin S h) (upd F 16 0)), arB ty (r 1) 215 (sqA 215 (gR (wJoin S h) (oJL n (cN h) q (S, M)).2.1 S)), arB ty (r 2) 215 (sqA 215 S), arB ty (r 5) 1720 HA]) ⟨hx, hb, hml, hown, hts⟩ w (c_X9_joins l D ty r (upd F 16 0) S u16 n q hI ht M h) (cwV 1 hts gX9_join_X9_joins rfl rfl rfl ⟨rfl, hdN_X9_joins⟩ ⟨Nat.le_of_ble_eq_true rfl, Nat.le_of_ble_eq_true rfl⟩) [0, 1, 2, 3] (nB := 4) (by decide) rfl rfl rfl rfl 0 rfl rfl (ci := 13) rfl rfl rfl hl.1 rfl (Nat.le_of_ble_eq_true rfl) dX9_join_7 ⟨(Nat.zero_le _), (Nat.zero_le _)⟩ (fun H locs w => ?_)
  refine lv_iconst (v := 1) hx hb dX9_join_10 (by decide) ?_
  refine lv_iconst (v := 0) hx hb dX9_join_11 (by decide) ?_
  refine k_iV (As := [.int (gR (wJoin S h) (oJL n (cN h) q (S, M)).1 0), .int 1, .int 0]) (rest := []) (Rs := []) (Bs' := [moB r (enF (hnd (wJoin S h) (upd F 16 0)) 1 0 z), arB ty (r 1) 215 (sqA 215 (enS (hnd (wJoin S h) (upd F 16 0)) (gR (wJoin S h) (oJL n (cN h) q (S, M)).2.1 S) S)), arB ty (r 2) 215 (sqA 215 S), arB ty (r 5) 1720 (enH (hnd (wJoin S h) (upd F 16 0)) HA S z)]) ⟨hx, hb, hml, hown, hts⟩ w (c_X9_ends l D ty r (hnd (wJoin S h) (upd F 16 0)) (gR (wJoin S h) (oJL n (cN h) q (S, M)).2.1 S) S HA z hz (hnd_6.trans h6) (gR (wJoin S h) (oJL n (cN h) q (S, M)).1 0) 1 0) (cwV 3 hts gX9_join_X9_ends rfl rfl rfl ⟨rfl, hdN_X9_ends⟩ ⟨Nat.le_of_ble_eq_true rfl, Nat.le_of_ble_eq_true rfl⟩) [0, 1, 2, 3] (nB := 4) (by decide) rfl rfl rfl rfl 0 rfl rfl (ci := 13) rfl rfl rfl hl.1 rfl (Nat.le_of_ble_eq_true rfl) dX9_join_12 ⟨(Nat.zero_le _), (Nat.zero_le _)⟩ (fun H locs w => ?_)
  exact e_i hx hb hr hlocks (w.cast (by simp only [en_S u16, en_H u16, gR_gR])) (by simp only [en_V u16, gR_gR]) dX9_join_15 (Nat.le_refl _) (Nat.le_refl _)

theorem hdN_X9_leave : yX9_leave.cls ≠ "java/lang/invoke/MethodHandle" ∧ yX9_leave.cls ≠ "java/lang/invoke/VarHandle" ∧ (parseMethodDescriptor yX9_leave.desc).map (fun d => d.parameters.length) = some 1 := by decide +kernel
set_option maxRecDepth 100000 in
set_option maxHeartbeats 4000000 in
theorem c_X9_leave (l : Launch) (D : va_G) (ty : Nat → ClassId) (r : Nat → Nat) (F S T : pS) (HA : Nat → Int32) (z : Nat) (hz : z ≤ 8) (h6 : F 6 = nI z) (n q : Nat) (hI : pSh S n q) (h : Int32)  : Mi l yX9_leave wsX9_leave (kR 3 68 0 0) D (kTY ty) [.ref (r 0), .int h] [moB r F, arB ty (r 1) 215 (sqA 215 S), arB ty (r 2) 215 (sqA 215 T), arB ty (r 5) 1720 HA] [moB r (enF (hnd (wLeave S h) (upd F 16 0)) 1 0 z), arB ty (r 1) 215 (sqA 215 (gR (wLeave S h) (sGo S q (cN (pPl S h q))) S)), arB ty (r 2) 215 (sqA 215 S), arB ty (r 5) 1720 (gR (wLeave S h) (hKp HA S z) HA)] (gR (wLeave S h) (pPl S h q) 0) 0 0 := by
  refine m_i (cc := cX9_leave) (maxL := 2) (ret := (some .int)) (by decide +kernel) rfl (Nat.le_of_ble_eq_true rfl) ?_
  intro p e s m below meth c A ls hx hb hml hr hlocks hown hts w hl
  have hown : s.vm.findClass RX9 = some m.cls := hown
  have hl : lv_has ls 2 [(0, .ref (r 0)), (1, .int h)] := hl
  refine lv_aload_n hx hb dX9_leave_0 rfl (lv_at hl 0 rfl) ?_
  refine k_vV (As := []) (rest := []) (Rs := [arB ty (r 5) 1720 HA]) (Bs' := [moB r (upd F 16 0), arB ty (r 1) 215 (sqA 215 S), arB ty (r 2) 215 (sqA 215 S), arB ty (r 5) 1720 HA]) ⟨hx, hb, hml, hown, hts⟩ w (c_X9_begins l D ty r F S T) (cwV 0 hts gX9_leave_X9_begins rfl rfl rfl ⟨rfl, hdN_X9_begins⟩ ⟨Nat.le_of_ble_eq_true rfl, Nat.le_of_ble_eq_true rfl⟩) [0, 1, 2, 3] (nB := 4) (by decide) rfl rfl rfl rfl 0 rfl rfl (ci := 13) rfl rfl rfl hl.1 rfl (Nat.le_of_ble_eq_true rfl) dX9_leave_1 ⟨(Nat.zero_le _), (Nat.zero_le _)⟩ (fun H locs w => ?_)
  refine lv_aload_n hx hb dX9_leave_4 rfl (lv_at hl 0 rfl) ?_
  refine lv_aload_n hx hb dX9_leave_5 rfl (lv_at hl 0 rfl) ?_
  refine lv_iload_n hx hb dX9_leave_6 rfl (lv_at hl 1 rfl) ?_
  refine k_iV (As := [.int h]) (rest := [.ref (r 0)]) (Rs := [arB ty (r 2) 215 (sqA 215 S), arB ty (r 5) 1720 HA]) (Bs' := [moB r (hnd (wLeave S h) (upd F 16 0)), arB ty (r 1) 215 (sqA 215 (gR (wLeave S h) (sGo S q (cN (pPl S h q))) S)), arB ty (r 2) 215 (sqA 215 S), arB ty (r 5) 1720 HA]) ⟨hx, hb, hml, hown, hts⟩ w (c_X9_leaves l D ty r (upd F 16 0) S u16 n q hI h) (cwV 1 hts gX9_leave_X9_leaves rfl rfl rfl ⟨rfl, hdN_X9_leaves⟩ ⟨Nat.le_of_ble_eq_true rfl, Nat.le_of_ble_eq_true rfl⟩) [0, 1, 2, 3] (nB := 4) (by decide) rfl rfl rfl rfl 0 rfl rfl (ci := 13) rfl rfl rfl hl.1 rfl (Nat.le_of_ble_eq_true rfl) dX9_leave_7 ⟨(Nat.zero_le _), (Nat.zero_le _)⟩ (fun H locs w => ?_)
  refine lv_iconst (v := 1) hx hb dX9_leave_10 (by decide) ?_
  refine lv_iconst (v := 0) hx hb dX9_leave_11 (by decide) ?_
  refine k_iV (As := [.int (gR (wLeave S h) (pPl S h q) (-1)), .int 1, .int 0]) (rest := []) (Rs := []) (Bs' := [moB r (enF (hnd (wLeave S h) (upd F 16 0)) 1 0 z), arB ty (r 1) 215 (sqA 215 (enS (hnd (wLeave S h) (upd F 16 0)) (gR (wLeave S h) (sGo S q (cN (pPl S h q))) S) S)), arB ty (r 2) 215 (sqA 215 S), arB ty (r 5) 1720 (enH (hnd (wLeave S h) (upd F 16 0)) HA S z)]) ⟨hx, hb, hml, hown, hts⟩ w (c_X9_ends l D ty r (hnd (wLeave S h) (upd F 16 0)) (gR (wLeave S h) (sGo S q (cN (pPl S h q))) S) S HA z hz (hnd_6.trans h6) (gR (wLeave S h) (pPl S h q) (-1)) 1 0) (cwV 3 hts gX9_leave_X9_ends rfl rfl rfl ⟨rfl, hdN_X9_ends⟩ ⟨Nat.le_of_ble_eq_true rfl, Nat.le_of_ble_eq_true rfl⟩) [0, 1, 2, 3] (nB := 4) (by decide) rfl rfl rfl rfl 0 rfl rfl (ci := 13) rfl rfl rfl hl.1 rfl (Nat.le_of_ble_eq_true rfl) dX9_leave_12 ⟨(Nat.zero_le _), (Nat.zero_le _)⟩ (fun H locs w => ?_)
  exact e_i hx hb hr hlocks (w.cast (by simp only [en_S u16, en_H u16, gR_gR])) (by simp only [en_V u16, gR_gR]) dX9_leave_15 (Nat.le_refl _) (Nat.le_refl _)

theorem hdN_X9_draw : yX9_draw.cls ≠ "java/lang/invoke/MethodHandle" ∧ yX9_draw.cls ≠ "java/lang/invoke/VarHandle" ∧ (parseMethodDescriptor yX9_draw.desc).map (fun d => d.parameters.length) = some 1 := by decide +kernel
set_option maxRecDepth 100000 in
set_option maxHeartbeats 4000000 in
theorem c_X9_draw (l : Launch) (D : va_G) (ty : Nat → ClassId) (r : Nat → Nat) (F S T : pS) (HA : Nat → Int32) (z : Nat) (hz : z ≤ 8) (h6 : F 6 = nI z) (n q : Nat) (hI : pSh S n q) (hL : PL S q) (M : pS) (v : Int32) (hK : ∀ j, v = nI j → j ≤ 50 → (wDraw S v).1 = 0 → ∀ k, k ≤ j → ∃ q', pSh (oDrawN k (S, M)).2.1 n q' ∧ nOK (oDrawN k (S, M)).2.1 ∧ (k < j → 0 < q'))  : Mi l yX9_draw wsX9_draw (kR 6 132 0 0) D (kTY ty) [.ref (r 0), .int v] [moB r F, arB ty (r 1) 215 (sqA 215 S), arB ty (r 2) 215 (sqA 215 T), arB ty (r 5) 1720 HA] [moB r (enF (hnd (wDraw S v) (upd F 16 0)) 1 0 z), arB ty (r 1) 215 (sqA 215 (gR (wDraw S v) (oDrawN (cN v) (S, M)).2.1 S)), arB ty (r 2) 215 (sqA 215 S), arB ty (r 5) 1720 (gR (wDraw S v) (hKp HA S z) HA)] (gR (wDraw S v) (oDrawN (cN v) (S, M)).1 0) 0 0 := by
  refine m_i (cc := cX9_draw) (maxL := 2) (ret := (some .int)) (by decide +kernel) rfl (Nat.le_of_ble_eq_true rfl) ?_
  intro p e s m below meth c A ls hx hb hml hr hlocks hown hts w hl
  have hown : s.vm.findClass RX9 = some m.cls := hown
  have hl : lv_has ls 2 [(0, .ref (r 0)), (1, .int v)] := hl
  refine lv_aload_n hx hb dX9_draw_0 rfl (lv_at hl 0 rfl) ?_
  refine k_vV (As := []) (rest := []) (Rs := [arB ty (r 5) 1720 HA]) (Bs' := [moB r (upd F 16 0), arB ty (r 1) 215 (sqA 215 S), arB ty (r 2) 215 (sqA 215 S), arB ty (r 5) 1720 HA]) ⟨hx, hb, hml, hown, hts⟩ w (c_X9_begins l D ty r F S T) (cwV 0 hts gX9_draw_X9_begins rfl rfl rfl ⟨rfl, hdN_X9_begins⟩ ⟨Nat.le_of_ble_eq_true rfl, Nat.le_of_ble_eq_true rfl⟩) [0, 1, 2, 3] (nB := 4) (by decide) rfl rfl rfl rfl 0 rfl rfl (ci := 13) rfl rfl rfl hl.1 rfl (Nat.le_of_ble_eq_true rfl) dX9_draw_1 ⟨(Nat.zero_le _), (Nat.zero_le _)⟩ (fun H locs w => ?_)
  refine lv_aload_n hx hb dX9_draw_4 rfl (lv_at hl 0 rfl) ?_
  refine lv_aload_n hx hb dX9_draw_5 rfl (lv_at hl 0 rfl) ?_
  refine lv_iload_n hx hb dX9_draw_6 rfl (lv_at hl 1 rfl) ?_
  refine k_iV (As := [.int v]) (rest := [.ref (r 0)]) (Rs := [arB ty (r 2) 215 (sqA 215 S), arB ty (r 5) 1720 HA]) (Bs' := [moB r (hnd (wDraw S v) (upd F 16 0)), arB ty (r 1) 215 (sqA 215 (gR (wDraw S v) (oDrawN (cN v) (S, M)).2.1 S)), arB ty (r 2) 215 (sqA 215 S), arB ty (r 5) 1720 HA]) ⟨hx, hb, hml, hown, hts⟩ w (c_X9_draws l D ty r (upd F 16 0) S u16 n q hI hL M v hK) (cwV 1 hts gX9_draw_X9_draws rfl rfl rfl ⟨rfl, hdN_X9_draws⟩ ⟨Nat.le_of_ble_eq_true rfl, Nat.le_of_ble_eq_true rfl⟩) [0, 1, 2, 3] (nB := 4) (by decide) rfl rfl rfl rfl 0 rfl rfl (ci := 13) rfl rfl rfl hl.1 rfl (Nat.le_of_ble_eq_true rfl) dX9_draw_7 ⟨(Nat.zero_le _), (Nat.zero_le _)⟩ (fun H locs w => ?_)
  refine lv_iconst (v := 1) hx hb dX9_draw_10 (by decide) ?_
  refine lv_iconst (v := 0) hx hb dX9_draw_11 (by decide) ?_
  refine k_iV (As := [.int (gR (wDraw S v) (oDrawN (cN v) (S, M)).1 0), .int 1, .int 0]) (rest := []) (Rs := []) (Bs' := [moB r (enF (hnd (wDraw S v) (upd F 16 0)) 1 0 z), arB ty (r 1) 215 (sqA 215 (enS (hnd (wDraw S v) (upd F 16 0)) (gR (wDraw S v) (oDrawN (cN v) (S, M)).2.1 S) S)), arB ty (r 2) 215 (sqA 215 S), arB ty (r 5) 1720 (enH (hnd (wDraw S v) (upd F 16 0)) HA S z)]) ⟨hx, hb, hml, hown, hts⟩ w (c_X9_ends l D ty r (hnd (wDraw S v) (upd F 16 0)) (gR (wDraw S v) (oDrawN (cN v) (S, M)).2.1 S) S HA z hz (hnd_6.trans h6) (gR (wDraw S v) (oDrawN (cN v) (S, M)).1 0) 1 0) (cwV 3 hts gX9_draw_X9_ends rfl rfl rfl ⟨rfl, hdN_X9_ends⟩ ⟨Nat.le_of_ble_eq_true rfl, Nat.le_of_ble_eq_true rfl⟩) [0, 1, 2, 3] (nB := 4) (by decide) rfl rfl rfl rfl 0 rfl rfl (ci := 13) rfl rfl rfl hl.1 rfl (Nat.le_of_ble_eq_true rfl) dX9_draw_12 ⟨(Nat.zero_le _), (Nat.zero_le _)⟩ (fun H locs w => ?_)
  exact e_i hx hb hr hlocks (w.cast (by simp only [en_S u16, en_H u16, gR_gR])) (by simp only [en_V u16, gR_gR]) dX9_draw_15 (Nat.le_refl _) (Nat.le_refl _)

theorem hdN_X9_vote : yX9_vote.cls ≠ "java/lang/invoke/MethodHandle" ∧ yX9_vote.cls ≠ "java/lang/invoke/VarHandle" ∧ (parseMethodDescriptor yX9_vote.desc).map (fun d => d.parameters.length) = some 0 := by decide +kernel
set_option maxRecDepth 100000 in
set_option maxHeartbeats 4000000 in
theorem c_X9_vote (l : Launch) (D : va_G) (ty : Nat → ClassId) (r : Nat → Nat) (F S T : pS) (HA : Nat → Int32) (z : Nat) (hz : z ≤ 8) (h6 : F 6 = nI z) (n q : Nat) (hI : pSh S n q) (ht : nOK S) (M : pS)  : Mi l yX9_vote wsX9_vote (kR 5 112 0 0) D (kTY ty) [.ref (r 0)] [moB r F, arB ty (r 1) 215 (sqA 215 S), arB ty (r 2) 215 (sqA 215 T), arB ty (r 5) 1720 HA] [moB r (enF (hnd (wVote S) (upd F 16 0)) 1 0 z), arB ty (r 1) 215 (sqA 215 (gR (wVote S) (oVote (S, M)).2.1 S)), arB ty (r 2) 215 (sqA 215 S), arB ty (r 5) 1720 (gR (wVote S) (hKp HA S z) HA)] (gR (wVote S) (oVote (S, M)).1 0) 0 0 := by
  refine m_i (cc := cX9_vote) (maxL := 1) (ret := (some .int)) (by decide +kernel) rfl (Nat.le_of_ble_eq_true rfl) ?_
  intro p e s m below meth c A ls hx hb hml hr hlocks hown hts w hl
  have hown : s.vm.findClass RX9 = some m.cls := hown
  have hl : lv_has ls 1 [(0, .ref (r 0))] := hl
  refine lv_aload_n hx hb dX9_vote_0 rfl (lv_at hl 0 rfl) ?_
  refine k_vV (As := []) (rest := []) (Rs := [arB ty (r 5) 1720 HA]) (Bs' := [moB r (upd F 16 0), arB ty (r 1) 215 (sqA 215 S), arB ty (r 2) 215 (sqA 215 S), arB ty (r 5) 1720 HA]) ⟨hx, hb, hml, hown, hts⟩ w (c_X9_begins l D ty r F S T) (cwV 0 hts gX9_vote_X9_begins rfl rfl rfl ⟨rfl, hdN_X9_begins⟩ ⟨Nat.le_of_ble_eq_true rfl, Nat.le_of_ble_eq_true rfl⟩) [0, 1, 2, 3] (nB := 4) (by decide) rfl rfl rfl rfl 0 rfl rfl (ci := 13) rfl rfl rfl hl.1 rfl (Nat.le_of_ble_eq_true rfl) dX9_vote_1 ⟨(Nat.zero_le _), (Nat.zero_le _)⟩ (fun H locs w => ?_)
  refine lv_aload_n hx hb dX9_vote_4 rfl (lv_at hl 0 rfl) ?_
  refine lv_aload_n hx hb dX9_vote_5 rfl (lv_at hl 0 rfl) ?_
  refine k_iV (As := []) (rest := [.ref (r 0)]) (Rs := [arB ty (r 2) 215 (sqA 215 S), arB ty (r 5) 1720 HA]) (Bs' := [moB r (hnd (wVote S) (upd F 16 0)), arB ty (r 1) 215 (sqA 215 (gR (wVote S) (oVote (S, M)).2.1 S)), arB ty (r 2) 215 (sqA 215 S), arB ty (r 5) 1720 HA]) ⟨hx, hb, hml, hown, hts⟩ w (c_X9_votes l D ty r (upd F 16 0) S u16 n q hI ht M) (cwV 0 hts gX9_vote_X9_votes rfl rfl rfl ⟨rfl, hdN_X9_votes⟩ ⟨Nat.le_of_ble_eq_true rfl, Nat.le_of_ble_eq_true rfl⟩) [0, 1, 2, 3] (nB := 4) (by decide) rfl rfl rfl rfl 0 rfl rfl (ci := 13) rfl rfl rfl hl.1 rfl (Nat.le_of_ble_eq_true rfl) dX9_vote_6 ⟨(Nat.zero_le _), (Nat.zero_le _)⟩ (fun H locs w => ?_)
  refine lv_iconst (v := 1) hx hb dX9_vote_9 (by decide) ?_
  refine lv_iconst (v := 0) hx hb dX9_vote_10 (by decide) ?_
  refine k_iV (As := [.int (gR (wVote S) (oVote (S, M)).1 0), .int 1, .int 0]) (rest := []) (Rs := []) (Bs' := [moB r (enF (hnd (wVote S) (upd F 16 0)) 1 0 z), arB ty (r 1) 215 (sqA 215 (enS (hnd (wVote S) (upd F 16 0)) (gR (wVote S) (oVote (S, M)).2.1 S) S)), arB ty (r 2) 215 (sqA 215 S), arB ty (r 5) 1720 (enH (hnd (wVote S) (upd F 16 0)) HA S z)]) ⟨hx, hb, hml, hown, hts⟩ w (c_X9_ends l D ty r (hnd (wVote S) (upd F 16 0)) (gR (wVote S) (oVote (S, M)).2.1 S) S HA z hz (hnd_6.trans h6) (gR (wVote S) (oVote (S, M)).1 0) 1 0) (cwV 3 hts gX9_vote_X9_ends rfl rfl rfl ⟨rfl, hdN_X9_ends⟩ ⟨Nat.le_of_ble_eq_true rfl, Nat.le_of_ble_eq_true rfl⟩) [0, 1, 2, 3] (nB := 4) (by decide) rfl rfl rfl rfl 0 rfl rfl (ci := 13) rfl rfl rfl hl.1 rfl (Nat.le_of_ble_eq_true rfl) dX9_vote_11 ⟨(Nat.zero_le _), (Nat.zero_le _)⟩ (fun H locs w => ?_)
  exact e_i hx hb hr hlocks (w.cast (by simp only [en_S u16, en_H u16, gR_gR])) (by simp only [en_V u16, gR_gR]) dX9_vote_14 (Nat.le_refl _) (Nat.le_refl _)

theorem hdN_X9_rain : yX9_rain.cls ≠ "java/lang/invoke/MethodHandle" ∧ yX9_rain.cls ≠ "java/lang/invoke/VarHandle" ∧ (parseMethodDescriptor yX9_rain.desc).map (fun d => d.parameters.length) = some 1 := by decide +kernel
set_option maxRecDepth 100000 in
set_option maxHeartbeats 4000000 in
theorem c_X9_rain (l : Launch) (D : va_G) (ty : Nat → ClassId) (r : Nat → Nat) (F S T : pS) (HA : Nat → Int32) (z : Nat) (hz : z ≤ 8) (h6 : F 6 = nI z) (v : Int32)  : Mi l yX9_rain wsX9_rain (kR 3 68 0 0) D (kTY ty) [.ref (r 0), .int v] [moB r F, arB ty (r 1) 215 (sqA 215 S), arB ty (r 2) 215 (sqA 215 T), arB ty (r 5) 1720 HA] [moB r (enF (hnd (wRain v) (upd F 16 0)) 1 0 z), arB ty (r 1) 215 (sqA 215 (gR (wRain v) (upd S 208 v) S)), arB ty (r 2) 215 (sqA 215 S), arB ty (r 5) 1720 (gR (wRain v) (hKp HA S z) HA)] (gR (wRain v) (S 208) 0) 0 0 := by
  refine m_i (cc := cX9_rain) (maxL := 2) (ret := (some .int)) (by decide +kernel) rfl (Nat.le_of_ble_eq_true rfl) ?_
  intro p e s m below meth c A ls hx hb hml hr hlocks hown hts w hl
  have hown : s.vm.findClass RX9 = some m.cls := hown
  have hl : lv_has ls 2 [(0, .ref (r 0)), (1, .int v)] := hl
  refine lv_aload_n hx hb dX9_rain_0 rfl (lv_at hl 0 rfl) ?_
  refine k_vV (As := []) (rest := []) (Rs := [arB ty (r 5) 1720 HA]) (Bs' := [moB r (upd F 16 0), arB ty (r 1) 215 (sqA 215 S), arB ty (r 2) 215 (sqA 215 S), arB ty (r 5) 1720 HA]) ⟨hx, hb, hml, hown, hts⟩ w (c_X9_begins l D ty r F S T) (cwV 0 hts gX9_rain_X9_begins rfl rfl rfl ⟨rfl, hdN_X9_begins⟩ ⟨Nat.le_of_ble_eq_true rfl, Nat.le_of_ble_eq_true rfl⟩) [0, 1, 2, 3] (nB := 4) (by decide) rfl rfl rfl rfl 0 rfl rfl (ci := 13) rfl rfl rfl hl.1 rfl (Nat.le_of_ble_eq_true rfl) dX9_rain_1 ⟨(Nat.zero_le _), (Nat.zero_le _)⟩ (fun H locs w => ?_)
  refine lv_aload_n hx hb dX9_rain_4 rfl (lv_at hl 0 rfl) ?_
  refine lv_aload_n hx hb dX9_rain_5 rfl (lv_at hl 0 rfl) ?_
  refine lv_iload_n hx hb dX9_rain_6 rfl (lv_at hl 1 rfl) ?_
  refine k_iV (As := [.int v]) (rest := [.ref (r 0)]) (Rs := [arB ty (r 2) 215 (sqA 215 S), arB ty (r 5) 1720 HA]) (Bs' := [moB r (hnd (wRain v) (upd F 16 0)), arB ty (r 1) 215 (sqA 215 (upd S 208 v)), arB ty (r 2) 215 (sqA 215 S), arB ty (r 5) 1720 HA]) ⟨hx, hb, hml, hown, hts⟩ w (c_X9_rains l D ty r (upd F 16 0) S u16 v) (cwV 1 hts gX9_rain_X9_rains rfl rfl rfl ⟨rfl, hdN_X9_rains⟩ ⟨Nat.le_of_ble_eq_true rfl, Nat.le_of_ble_eq_true rfl⟩) [0, 1, 2, 3] (nB := 4) (by decide) rfl rfl rfl rfl 0 rfl rfl (ci := 13) rfl rfl rfl hl.1 rfl (Nat.le_of_ble_eq_true rfl) dX9_rain_7 ⟨(Nat.zero_le _), (Nat.zero_le _)⟩ (fun H locs w => ?_)
  refine lv_iconst (v := 1) hx hb dX9_rain_10 (by decide) ?_
  refine lv_iconst (v := 0) hx hb dX9_rain_11 (by decide) ?_
  refine k_iV (As := [.int (S 208), .int 1, .int 0]) (rest := []) (Rs := []) (Bs' := [moB r (enF (hnd (wRain v) (upd F 16 0)) 1 0 z), arB ty (r 1) 215 (sqA 215 (enS (hnd (wRain v) (upd F 16 0)) (upd S 208 v) S)), arB ty (r 2) 215 (sqA 215 S), arB ty (r 5) 1720 (enH (hnd (wRain v) (upd F 16 0)) HA S z)]) ⟨hx, hb, hml, hown, hts⟩ w (c_X9_ends l D ty r (hnd (wRain v) (upd F 16 0)) (upd S 208 v) S HA z hz (hnd_6.trans h6) (S 208) 1 0) (cwV 3 hts gX9_rain_X9_ends rfl rfl rfl ⟨rfl, hdN_X9_ends⟩ ⟨Nat.le_of_ble_eq_true rfl, Nat.le_of_ble_eq_true rfl⟩) [0, 1, 2, 3] (nB := 4) (by decide) rfl rfl rfl rfl 0 rfl rfl (ci := 13) rfl rfl rfl hl.1 rfl (Nat.le_of_ble_eq_true rfl) dX9_rain_12 ⟨(Nat.zero_le _), (Nat.zero_le _)⟩ (fun H locs w => ?_)
  exact e_i hx hb hr hlocks (w.cast (by simp only [en_S u16, en_H u16, gR_gR])) (by simp only [en_V u16, gR_gR]) dX9_rain_15 (Nat.le_refl _) (Nat.le_refl _)

theorem hdN_X9_night : yX9_night.cls ≠ "java/lang/invoke/MethodHandle" ∧ yX9_night.cls ≠ "java/lang/invoke/VarHandle" ∧ (parseMethodDescriptor yX9_night.desc).map (fun d => d.parameters.length) = some 1 := by decide +kernel
set_option maxRecDepth 100000 in
set_option maxHeartbeats 4000000 in
theorem c_X9_night (l : Launch) (D : va_G) (ty : Nat → ClassId) (r : Nat → Nat) (F S T : pS) (HA : Nat → Int32) (z : Nat) (hz : z ≤ 8) (h6 : F 6 = nI z) (n : Nat) (h0 : S 0 = nI n) (hn : n ≤ 8) (v : Int32)  : Mi l yX9_night wsX9_night (kR 3 68 0 0) D (kTY ty) [.ref (r 0), .int v] [moB r F, arB ty (r 1) 215 (sqA 215 S), arB ty (r 2) 215 (sqA 215 T), arB ty (r 5) 1720 HA] [moB r (enF (hnd (wNight v) (upd F 16 0)) 1 0 z), arB ty (r 1) 215 (sqA 215 (gR (wNight v) (sNightN n (cN v) S) S)), arB ty (r 2) 215 (sqA 215 S), arB ty (r 5) 1720 (gR (wNight v) (hKp HA S z) HA)] (gR (wNight v) (gR (wNight v) (sNightN n (cN v) S) S 204) 0) 0 0 := by
  refine m_i (cc := cX9_night) (maxL := 2) (ret := (some .int)) (by decide +kernel) rfl (Nat.le_of_ble_eq_true rfl) ?_
  intro p e s m below meth c A ls hx hb hml hr hlocks hown hts w hl
  have hown : s.vm.findClass RX9 = some m.cls := hown
  have hl : lv_has ls 2 [(0, .ref (r 0)), (1, .int v)] := hl
  refine lv_aload_n hx hb dX9_night_0 rfl (lv_at hl 0 rfl) ?_
  refine k_vV (As := []) (rest := []) (Rs := [arB ty (r 5) 1720 HA]) (Bs' := [moB r (upd F 16 0), arB ty (r 1) 215 (sqA 215 S), arB ty (r 2) 215 (sqA 215 S), arB ty (r 5) 1720 HA]) ⟨hx, hb, hml, hown, hts⟩ w (c_X9_begins l D ty r F S T) (cwV 0 hts gX9_night_X9_begins rfl rfl rfl ⟨rfl, hdN_X9_begins⟩ ⟨Nat.le_of_ble_eq_true rfl, Nat.le_of_ble_eq_true rfl⟩) [0, 1, 2, 3] (nB := 4) (by decide) rfl rfl rfl rfl 0 rfl rfl (ci := 13) rfl rfl rfl hl.1 rfl (Nat.le_of_ble_eq_true rfl) dX9_night_1 ⟨(Nat.zero_le _), (Nat.zero_le _)⟩ (fun H locs w => ?_)
  refine lv_aload_n hx hb dX9_night_4 rfl (lv_at hl 0 rfl) ?_
  refine lv_aload_n hx hb dX9_night_5 rfl (lv_at hl 0 rfl) ?_
  refine lv_iload_n hx hb dX9_night_6 rfl (lv_at hl 1 rfl) ?_
  refine k_iV (As := [.int v]) (rest := [.ref (r 0)]) (Rs := [arB ty (r 2) 215 (sqA 215 S), arB ty (r 5) 1720 HA]) (Bs' := [moB r (hnd (wNight v) (upd F 16 0)), arB ty (r 1) 215 (sqA 215 (gR (wNight v) (sNightN n (cN v) S) S)), arB ty (r 2) 215 (sqA 215 S), arB ty (r 5) 1720 HA]) ⟨hx, hb, hml, hown, hts⟩ w (c_X9_nights l D ty r (upd F 16 0) S u16 n h0 hn v) (cwV 1 hts gX9_night_X9_nights rfl rfl rfl ⟨rfl, hdN_X9_nights⟩ ⟨Nat.le_of_ble_eq_true rfl, Nat.le_of_ble_eq_true rfl⟩) [0, 1, 2, 3] (nB := 4) (by decide) rfl rfl rfl rfl 0 rfl rfl (ci := 13) rfl rfl rfl hl.1 rfl (Nat.le_of_ble_eq_true rfl) dX9_night_7 ⟨(Nat.zero_le _), (Nat.zero_le _)⟩ (fun H locs w => ?_)
  refine lv_iconst (v := 1) hx hb dX9_night_10 (by decide) ?_
  refine lv_iconst (v := 0) hx hb dX9_night_11 (by decide) ?_
  refine k_iV (As := [.int (gR (wNight v) (sNightN n (cN v) S) S 204), .int 1, .int 0]) (rest := []) (Rs := []) (Bs' := [moB r (enF (hnd (wNight v) (upd F 16 0)) 1 0 z), arB ty (r 1) 215 (sqA 215 (enS (hnd (wNight v) (upd F 16 0)) (gR (wNight v) (sNightN n (cN v) S) S) S)), arB ty (r 2) 215 (sqA 215 S), arB ty (r 5) 1720 (enH (hnd (wNight v) (upd F 16 0)) HA S z)]) ⟨hx, hb, hml, hown, hts⟩ w (c_X9_ends l D ty r (hnd (wNight v) (upd F 16 0)) (gR (wNight v) (sNightN n (cN v) S) S) S HA z hz (hnd_6.trans h6) (gR (wNight v) (sNightN n (cN v) S) S 204) 1 0) (cwV 3 hts gX9_night_X9_ends rfl rfl rfl ⟨rfl, hdN_X9_ends⟩ ⟨Nat.le_of_ble_eq_true rfl, Nat.le_of_ble_eq_true rfl⟩) [0, 1, 2, 3] (nB := 4) (by decide) rfl rfl rfl rfl 0 rfl rfl (ci := 13) rfl rfl rfl hl.1 rfl (Nat.le_of_ble_eq_true rfl) dX9_night_12 ⟨(Nat.zero_le _), (Nat.zero_le _)⟩ (fun H locs w => ?_)
  exact e_i hx hb hr hlocks (w.cast (by simp only [en_S u16, en_H u16, gR_gR])) (by simp only [en_V u16, gR_gR]) dX9_night_15 (Nat.le_refl _) (Nat.le_refl _)

theorem hdN_X9_leather : yX9_leather.cls ≠ "java/lang/invoke/MethodHandle" ∧ yX9_leather.cls ≠ "java/lang/invoke/VarHandle" ∧ (parseMethodDescriptor yX9_leather.desc).map (fun d => d.parameters.length) = some 0 := by decide +kernel
set_option maxRecDepth 100000 in
set_option maxHeartbeats 4000000 in
theorem c_X9_leather (l : Launch) (D : va_G) (ty : Nat → ClassId) (r : Nat → Nat) (F S T : pS) (HA : Nat → Int32) (z : Nat) (hz : z ≤ 8) (h6 : F 6 = nI z) (ht : nOK S) (M : pS)  : Mi l yX9_leather wsX9_leather (kR 3 68 0 0) D (kTY ty) [.ref (r 0)] [moB r F, arB ty (r 1) 215 (sqA 215 S), arB ty (r 2) 215 (sqA 215 T), arB ty (r 5) 1720 HA] [moB r (enF (hnd (wLeather S) (upd F 16 0)) 1 0 z), arB ty (r 1) 215 (sqA 215 (gR (wLeather S) (oRenew (S, M)).2.1 S)), arB ty (r 2) 215 (sqA 215 S), arB ty (r 5) 1720 (gR (wLeather S) (hKp HA S z) HA)] (gR (wLeather S) (S 205) 0) 0 0 := by
  refine m_i (cc := cX9_leather) (maxL := 1) (ret := (some .int)) (by decide +kernel) rfl (Nat.le_of_ble_eq_true rfl) ?_
  intro p e s m below meth c A ls hx hb hml hr hlocks hown hts w hl
  have hown : s.vm.findClass RX9 = some m.cls := hown
  have hl : lv_has ls 1 [(0, .ref (r 0))] := hl
  refine lv_aload_n hx hb dX9_leather_0 rfl (lv_at hl 0 rfl) ?_
  refine k_vV (As := []) (rest := []) (Rs := [arB ty (r 5) 1720 HA]) (Bs' := [moB r (upd F 16 0), arB ty (r 1) 215 (sqA 215 S), arB ty (r 2) 215 (sqA 215 S), arB ty (r 5) 1720 HA]) ⟨hx, hb, hml, hown, hts⟩ w (c_X9_begins l D ty r F S T) (cwV 0 hts gX9_leather_X9_begins rfl rfl rfl ⟨rfl, hdN_X9_begins⟩ ⟨Nat.le_of_ble_eq_true rfl, Nat.le_of_ble_eq_true rfl⟩) [0, 1, 2, 3] (nB := 4) (by decide) rfl rfl rfl rfl 0 rfl rfl (ci := 13) rfl rfl rfl hl.1 rfl (Nat.le_of_ble_eq_true rfl) dX9_leather_1 ⟨(Nat.zero_le _), (Nat.zero_le _)⟩ (fun H locs w => ?_)
  refine lv_aload_n hx hb dX9_leather_4 rfl (lv_at hl 0 rfl) ?_
  refine lv_aload_n hx hb dX9_leather_5 rfl (lv_at hl 0 rfl) ?_
  refine k_iV (As := []) (rest := [.ref (r 0)]) (Rs := [arB ty (r 2) 215 (sqA 215 S), arB ty (r 5) 1720 HA]) (Bs' := [moB r (hnd (wLeather S) (upd F 16 0)), arB ty (r 1) 215 (sqA 215 (gR (wLeather S) (oRenew (S, M)).2.1 S)), arB ty (r 2) 215 (sqA 215 S), arB ty (r 5) 1720 HA]) ⟨hx, hb, hml, hown, hts⟩ w (c_X9_renews l D ty r (upd F 16 0) S u16 ht M) (cwV 0 hts gX9_leather_X9_renews rfl rfl rfl ⟨rfl, hdN_X9_renews⟩ ⟨Nat.le_of_ble_eq_true rfl, Nat.le_of_ble_eq_true rfl⟩) [0, 1, 2, 3] (nB := 4) (by decide) rfl rfl rfl rfl 0 rfl rfl (ci := 13) rfl rfl rfl hl.1 rfl (Nat.le_of_ble_eq_true rfl) dX9_leather_6 ⟨(Nat.zero_le _), (Nat.zero_le _)⟩ (fun H locs w => ?_)
  refine lv_iconst (v := 1) hx hb dX9_leather_9 (by decide) ?_
  refine lv_iconst (v := 0) hx hb dX9_leather_10 (by decide) ?_
  refine k_iV (As := [.int (S 205), .int 1, .int 0]) (rest := []) (Rs := []) (Bs' := [moB r (enF (hnd (wLeather S) (upd F 16 0)) 1 0 z), arB ty (r 1) 215 (sqA 215 (enS (hnd (wLeather S) (upd F 16 0)) (gR (wLeather S) (oRenew (S, M)).2.1 S) S)), arB ty (r 2) 215 (sqA 215 S), arB ty (r 5) 1720 (enH (hnd (wLeather S) (upd F 16 0)) HA S z)]) ⟨hx, hb, hml, hown, hts⟩ w (c_X9_ends l D ty r (hnd (wLeather S) (upd F 16 0)) (gR (wLeather S) (oRenew (S, M)).2.1 S) S HA z hz (hnd_6.trans h6) (S 205) 1 0) (cwV 3 hts gX9_leather_X9_ends rfl rfl rfl ⟨rfl, hdN_X9_ends⟩ ⟨Nat.le_of_ble_eq_true rfl, Nat.le_of_ble_eq_true rfl⟩) [0, 1, 2, 3] (nB := 4) (by decide) rfl rfl rfl rfl 0 rfl rfl (ci := 13) rfl rfl rfl hl.1 rfl (Nat.le_of_ble_eq_true rfl) dX9_leather_11 ⟨(Nat.zero_le _), (Nat.zero_le _)⟩ (fun H locs w => ?_)
  exact e_i hx hb hr hlocks (w.cast (by simp only [en_S u16, en_H u16, gR_gR])) (by simp only [en_V u16, gR_gR]) dX9_leather_14 (Nat.le_refl _) (Nat.le_refl _)

theorem in_X9_collect_X9 : ∀ w ∈ wsX90, w ∈ wsX9_collect := by decide +kernel
theorem hdN_X9_collect : yX9_collect.cls ≠ "java/lang/invoke/MethodHandle" ∧ yX9_collect.cls ≠ "java/lang/invoke/VarHandle" ∧ (parseMethodDescriptor yX9_collect.desc).map (fun d => d.parameters.length) = some 1 := by decide +kernel
set_option maxRecDepth 100000 in
set_option maxHeartbeats 4000000 in
theorem c_X9_collect (l : Launch) (D : va_G) (ty : Nat → ClassId) (r : Nat → Nat) (F S T : pS) (HA : Nat → Int32) (z : Nat) (hz : z ≤ 8) (h6 : F 6 = nI z) (v : Int32)  : Mi l yX9_collect wsX9_collect (kR 3 68 0 0) D (kTY ty) [.ref (r 0), .int v] [moB r F, arB ty (r 1) 215 (sqA 215 S), arB ty (r 2) 215 (sqA 215 T), arB ty (r 5) 1720 HA] [moB r (enF (hnd (wCoins S v) (upd F 16 0)) 1 0 z), arB ty (r 1) 215 (sqA 215 (gR (wCoins S v) (upd S 209 (S 209 + v)) S)), arB ty (r 2) 215 (sqA 215 S), arB ty (r 5) 1720 (gR (wCoins S v) (hKp HA S z) HA)] (gR (wCoins S v) (S 209 + v) 0) 0 0 := by
  refine m_i (cc := cX9_collect) (maxL := 2) (ret := (some .int)) (by decide +kernel) rfl (Nat.le_of_ble_eq_true rfl) ?_
  intro p e s m below meth c A ls hx hb hml hr hlocks hown hts w hl
  have hown : s.vm.findClass RX9 = some m.cls := hown
  have hl : lv_has ls 2 [(0, .ref (r 0)), (1, .int v)] := hl
  refine lv_aload_n hx hb dX9_collect_0 rfl (lv_at hl 0 rfl) ?_
  refine k_vV (As := []) (rest := []) (Rs := [arB ty (r 5) 1720 HA]) (Bs' := [moB r (upd F 16 0), arB ty (r 1) 215 (sqA 215 S), arB ty (r 2) 215 (sqA 215 S), arB ty (r 5) 1720 HA]) ⟨hx, hb, hml, hown, hts⟩ w (c_X9_begins l D ty r F S T) (cwV 0 hts gX9_collect_X9_begins rfl rfl rfl ⟨rfl, hdN_X9_begins⟩ ⟨Nat.le_of_ble_eq_true rfl, Nat.le_of_ble_eq_true rfl⟩) [0, 1, 2, 3] (nB := 4) (by decide) rfl rfl rfl rfl 0 rfl rfl (ci := 13) rfl rfl rfl hl.1 rfl (Nat.le_of_ble_eq_true rfl) dX9_collect_1 ⟨(Nat.zero_le _), (Nat.zero_le _)⟩ (fun H locs w => ?_)
  refine lv_aload_n hx hb dX9_collect_4 rfl (lv_at hl 0 rfl) ?_
  refine k_cut (fun H locs ls => kW D (kTY ty) A s.heap s H locs [moB r (upd F 16 0), arB ty (r 1) 215 (sqA 215 S), arB ty (r 2) 215 (sqA 215 S), arB ty (r 5) 1720 HA] ∧ lv_has ls 2 [(0, .ref (r 0)), (1, .int v)]) (pc' := 20) (st' := [.int (bI (!(pIn v 1 100))), .ref (r 0)]) ?_ ?_
  · intro H locs ls hI
    obtain ⟨w, hl⟩ := hI
    refine lv_iconst (v := 1) hx hb dX9_collect_20 (by decide) ?_
    refine lv_iconst (v := 0) hx hb dX9_collect_21 (by decide) ?_
    refine k_vV (As := [.int (bI (!(pIn v 1 100))), .int 1, .int 0]) (rest := []) (Rs := [arB ty (r 1) 215 (sqA 215 S), arB ty (r 2) 215 (sqA 215 S), arB ty (r 5) 1720 HA]) (Bs' := [moB r (hin (!(pIn v 1 100)) 1 0 (upd F 16 0)), arB ty (r 1) 215 (sqA 215 S), arB ty (r 2) 215 (sqA 215 S), arB ty (r 5) 1720 HA]) ⟨hx, hb, hml, hown, hts⟩ w (c_X9_hinders l D ty r (upd F 16 0) (!(pIn v 1 100)) 1 0) (cwV 3 hts gX9_collect_X9_hinders rfl rfl rfl ⟨rfl, hdN_X9_hinders⟩ ⟨Nat.le_of_ble_eq_true rfl, Nat.le_of_ble_eq_true rfl⟩) [0, 1, 2, 3] (nB := 4) (by decide) rfl rfl rfl rfl 0 rfl rfl (ci := 13) rfl rfl rfl hl.1 rfl (Nat.le_of_ble_eq_true rfl) dX9_collect_22 ⟨(Nat.zero_le _), (Nat.zero_le _)⟩ (fun H locs w => ?_)
    refine lv_aload_n hx hb dX9_collect_25 rfl (lv_at hl 0 rfl) ?_
    refine k_cut (fun H locs ls => kW D (kTY ty) A s.heap s H locs [moB r (hin (!(pIn v 1 100)) 1 0 (upd F 16 0)), arB ty (r 1) 215 (sqA 215 S), arB ty (r 2) 215 (sqA 215 S), arB ty (r 5) 1720 HA] ∧ lv_has ls 2 [(0, .ref (r 0)), (1, .int v)]) (pc' := 54) (st' := [.int (bI (decide ((hin (!(pIn v 1 100)) 1 0 (upd F 16 0)) 16 = 0) && decide (500 < S 209 + v))), .ref (r 0)]) ?_ ?_
    · intro H locs ls hI
      obtain ⟨w, hl⟩ := hI
      refine lv_iconst (v := 2) hx hb dX9_collect_54 (by decide) ?_
      refine lv_sipush (v := 500) hx hb dX9_collect_55 (by decide) ?_
      refine k_vV (As := [.int (bI (decide ((hin (!(pIn v 1 100)) 1 0 (upd F 16 0)) 16 = 0) && decide (500 < S 209 + v))), .int 2, .int 500]) (rest := []) (Rs := [arB ty (r 1) 215 (sqA 215 S), arB ty (r 2) 215 (sqA 215 S), arB ty (r 5) 1720 HA]) (Bs' := [moB r (hin (decide ((hin (!(pIn v 1 100)) 1 0 (upd F 16 0)) 16 = 0) && decide (500 < S 209 + v)) 2 500 (hin (!(pIn v 1 100)) 1 0 (upd F 16 0))), arB ty (r 1) 215 (sqA 215 S), arB ty (r 2) 215 (sqA 215 S), arB ty (r 5) 1720 HA]) ⟨hx, hb, hml, hown, hts⟩ w (c_X9_hinders l D ty r (hin (!(pIn v 1 100)) 1 0 (upd F 16 0)) (decide ((hin (!(pIn v 1 100)) 1 0 (upd F 16 0)) 16 = 0) && decide (500 < S 209 + v)) 2 500) (cwV 3 hts gX9_collect_X9_hinders rfl rfl rfl ⟨rfl, hdN_X9_hinders⟩ ⟨Nat.le_of_ble_eq_true rfl, Nat.le_of_ble_eq_true rfl⟩) [0, 1, 2, 3] (nB := 4) (by decide) rfl rfl rfl rfl 0 rfl rfl (ci := 13) rfl rfl rfl hl.1 rfl (Nat.le_of_ble_eq_true rfl) dX9_collect_58 ⟨(Nat.zero_le _), (Nat.zero_le _)⟩ (fun H locs w => ?_)
      have w := w.cast (Bs' := [moB r (hnd (wCoins S v) (upd F 16 0)), arB ty (r 1) 215 (sqA 215 S), arB ty (r 2) 215 (sqA 215 S), arB ty (r 5) 1720 HA]) (by rw [co_W u16])
      refine lv_aload_n hx hb dX9_collect_61 rfl (lv_at hl 0 rfl) ?_
      refine r_get (v' := .ref (r 1)) hx hb hts in_X9_collect_X9 hown w 0 0 rfl rfl (ci := 13) rfl 0 (by decide) (hts _ (List.mem_of_getElem? (i := 2) rfl)) rfl rfl rfl dX9_collect_62 ?_
      refine lv_sipush (v := 209) hx hb dX9_collect_65 (by decide) ?_
      refine lv_dup2_11 hx hb dX9_collect_68 rfl rfl ?_
      refine r_iald (v := (S 209)) hx hb w 1 0 rfl rfl 0 rfl 209 (by omega) (Nat.le_of_ble_eq_true rfl) rfl (sqA_at (by omega)) dX9_collect_69 ?_
      refine lv_iload_n hx hb dX9_collect_70 rfl (lv_at hl 1 rfl) ?_
      refine lv_iadd hx hb dX9_collect_71 ?_
      refine r_iast hx hb w 1 0 rfl rfl 0 rfl 209 (by omega) (Nat.le_of_ble_eq_true rfl) rfl (arB ty (r 1) 215 (sqA 215 (upd S 209 ((S 209) + v)))) (arB_st (by omega)) [moB r (hnd (wCoins S v) (upd F 16 0)), arB ty (r 1) 215 (sqA 215 (upd S 209 ((S 209) + v))), arB ty (r 2) 215 (sqA 215 S), arB ty (r 5) 1720 HA] rfl dX9_collect_72 (fun H locs w => ?_)
      refine lv_aload_n hx hb dX9_collect_73 rfl (lv_at hl 0 rfl) ?_
      refine lv_aload_n hx hb dX9_collect_74 rfl (lv_at hl 0 rfl) ?_
      refine r_get (v' := .ref (r 1)) hx hb hts in_X9_collect_X9 hown w 0 0 rfl rfl (ci := 13) rfl 0 (by decide) (hts _ (List.mem_of_getElem? (i := 2) rfl)) rfl rfl rfl dX9_collect_75 ?_
      refine lv_sipush (v := 209) hx hb dX9_collect_78 (by decide) ?_
      refine r_iald (v := ((S 209) + v)) hx hb w 1 0 rfl rfl 0 rfl 209 (by omega) (Nat.le_of_ble_eq_true rfl) rfl (sqA_at (by omega)) dX9_collect_81 ?_
      refine lv_iconst (v := 1) hx hb dX9_collect_82 (by decide) ?_
      refine lv_iconst (v := 0) hx hb dX9_collect_83 (by decide) ?_
      refine k_iV (As := [.int ((S 209) + v), .int 1, .int 0]) (rest := []) (Rs := []) (Bs' := [moB r (enF (hnd (wCoins S v) (upd F 16 0)) 1 0 z), arB ty (r 1) 215 (sqA 215 (enS (hnd (wCoins S v) (upd F 16 0)) (upd S 209 ((S 209) + v)) S)), arB ty (r 2) 215 (sqA 215 S), arB ty (r 5) 1720 (enH (hnd (wCoins S v) (upd F 16 0)) HA S z)]) ⟨hx, hb, hml, hown, hts⟩ w (c_X9_ends l D ty r (hnd (wCoins S v) (upd F 16 0)) (upd S 209 ((S 209) + v)) S HA z hz (hnd_6.trans h6) ((S 209) + v) 1 0) (cwV 3 hts gX9_collect_X9_ends rfl rfl rfl ⟨rfl, hdN_X9_ends⟩ ⟨Nat.le_of_ble_eq_true rfl, Nat.le_of_ble_eq_true rfl⟩) [0, 1, 2, 3] (nB := 4) (by decide) rfl rfl rfl rfl 0 rfl rfl (ci := 13) rfl rfl rfl hl.1 rfl (Nat.le_of_ble_eq_true rfl) dX9_collect_84 ⟨(Nat.zero_le _), (Nat.zero_le _)⟩ (fun H locs w => ?_)
      exact e_i hx hb hr hlocks (w.cast (by simp only [en_S u16, en_H u16, gR_gR])) (by simp only [en_V u16, gR_gR]) dX9_collect_87 (Nat.le_refl _) (Nat.le_refl _)
    · intro cont54
      refine lv_aload_n hx hb dX9_collect_26 rfl (lv_at hl 0 rfl) ?_
      refine r_get (v' := .int ((hin (!(pIn v 1 100)) 1 0 (upd F 16 0)) 16)) hx hb hts in_X9_collect_X9 hown w 0 0 rfl rfl (ci := 13) rfl 16 (by decide) (hts _ (List.mem_of_getElem? (i := 1) rfl)) rfl rfl rfl dX9_collect_27 ?_
      refine lv_if_ne (tgt := 53) hx hb dX9_collect_30 (by decide) (fun c30 => ?_) (fun c30 => ?_)
      · refine lv_iconst (v := 0) hx hb dX9_collect_53 (by decide) ?_
        refine r_eq (y := (bI (decide ((hin (!(pIn v 1 100)) 1 0 (upd F 16 0)) 16 = 0) && decide (500 < S 209 + v)))) (by rw [decide_eq_false c30, Bool.false_and]; rfl) ?_
        exact cont54 _ _ _ ⟨w, hl⟩
      · refine lv_aload_n hx hb dX9_collect_33 rfl (lv_at hl 0 rfl) ?_
        refine r_get (v' := .ref (r 1)) hx hb hts in_X9_collect_X9 hown w 0 0 rfl rfl (ci := 13) rfl 0 (by decide) (hts _ (List.mem_of_getElem? (i := 2) rfl)) rfl rfl rfl dX9_collect_34 ?_
        refine lv_sipush (v := 209) hx hb dX9_collect_37 (by decide) ?_
        refine r_iald (v := (S 209)) hx hb w 1 0 rfl rfl 0 rfl 209 (by omega) (Nat.le_of_ble_eq_true rfl) rfl (sqA_at (by omega)) dX9_collect_40 ?_
        refine lv_iload_n hx hb dX9_collect_41 rfl (lv_at hl 1 rfl) ?_
        refine lv_iadd hx hb dX9_collect_42 ?_
        refine lv_sipush (v := 500) hx hb dX9_collect_43 (by decide) ?_
        refine lv_icmp_le (tgt := 53) hx hb dX9_collect_46 (by decide) (fun c46 => ?_) (fun c46 => ?_)
        · refine lv_iconst (v := 0) hx hb dX9_collect_53 (by decide) ?_
          refine r_eq (y := (bI (decide ((hin (!(pIn v 1 100)) 1 0 (upd F 16 0)) 16 = 0) && decide (500 < S 209 + v)))) (by rw [decide_eq_false (Int32.not_lt.mpr c46), Bool.and_false]; rfl) ?_
          exact cont54 _ _ _ ⟨w, hl⟩
        · refine lv_iconst (v := 1) hx hb dX9_collect_49 (by decide) ?_
          refine lv_goto (tgt := 54) hx hb dX9_collect_50 (by decide) ?_
          refine r_eq (y := (bI (decide ((hin (!(pIn v 1 100)) 1 0 (upd F 16 0)) 16 = 0) && decide (500 < S 209 + v)))) (by rw [decide_eq_true c30, decide_eq_true (Int32.not_le.mp c46)]; rfl) ?_
          exact cont54 _ _ _ ⟨w, hl⟩
  · intro cont20
    refine lv_iload_n hx hb dX9_collect_5 rfl (lv_at hl 1 rfl) ?_
    refine lv_iconst (v := 1) hx hb dX9_collect_6 (by decide) ?_
    refine lv_bipush (v := 100) hx hb dX9_collect_7 (by decide) ?_
    refine k_iS (As := [.int v, .int 1, .int 100]) (rest := [.ref (r 0)]) (Rs := [moB r (upd F 16 0), arB ty (r 1) 215 (sqA 215 S), arB ty (r 2) 215 (sqA 215 S), arB ty (r 5) 1720 HA]) (Bs' := [moB r (upd F 16 0), arB ty (r 1) 215 (sqA 215 S), arB ty (r 2) 215 (sqA 215 S), arB ty (r 5) 1720 HA]) ⟨hx, hb, hml, hown, hts⟩ w (c_X9_isIn l D ty v 1 100) (va_cwS 3 hts gX9_collect_X9_isIn rfl rfl rfl hdN_X9_isIn ⟨Nat.le_of_ble_eq_true rfl, Nat.le_of_ble_eq_true rfl⟩) [0, 1, 2, 3] (nB := 4) (by decide) rfl rfl rfl rfl rfl hl.1 rfl (Nat.le_of_ble_eq_true rfl) dX9_collect_9 ⟨(Nat.zero_le _), (Nat.zero_le _)⟩ (fun H locs w => ?_)
    refine lv_if_ne (tgt := 19) hx hb dX9_collect_12 (by decide) (fun c12 => ?_) (fun c12 => ?_)
    · have c12 := bI_1.mp c12
      refine lv_iconst (v := 0) hx hb dX9_collect_19 (by decide) ?_
      refine r_eq (y := (bI (!(pIn v 1 100)))) (nb_0 c12) ?_
      exact cont20 _ _ _ ⟨w, hl⟩
    · have c12 := bI_0.mp c12
      refine lv_iconst (v := 1) hx hb dX9_collect_15 (by decide) ?_
      refine lv_goto (tgt := 20) hx hb dX9_collect_16 (by decide) ?_
      refine r_eq (y := (bI (!(pIn v 1 100)))) (nb_1 c12) ?_
      exact cont20 _ _ _ ⟨w, hl⟩

theorem in_X9_household_X9 : ∀ w ∈ wsX90, w ∈ wsX9_household := by decide +kernel
theorem hdN_X9_household : yX9_household.cls ≠ "java/lang/invoke/MethodHandle" ∧ yX9_household.cls ≠ "java/lang/invoke/VarHandle" ∧ (parseMethodDescriptor yX9_household.desc).map (fun d => d.parameters.length) = some 3 := by decide +kernel
set_option maxRecDepth 100000 in
set_option maxHeartbeats 4000000 in
theorem c_X9_household (l : Launch) (D : va_G) (ty : Nat → ClassId) (r : Nat → Nat) (F S T : pS) (HA : Nat → Int32) (z : Nat) (hz : z ≤ 8) (h6 : F 6 = nI z) (n : Nat) (h0 : S 0 = nI n) (hn : n ≤ 8) (x y v : Int32)  : Mi l yX9_household wsX9_household (kR 3 68 0 0) D (kTY ty) [.ref (r 0), .int x, .int y, .int v] [moB r F, arB ty (r 1) 215 (sqA 215 S), arB ty (r 2) 215 (sqA 215 T), arB ty (r 5) 1720 HA] [moB r (enF (hnd (wHouse S x y v) (upd F 16 0)) 1 0 z), arB ty (r 1) 215 (sqA 215 (gR (wHouse S x y v) (sHouse S n x y v) S)), arB ty (r 2) 215 (sqA 215 S), arB ty (r 5) 1720 (gR (wHouse S x y v) (hKp HA S z) HA)] (gR (wHouse S x y v) (nI n) 0) 0 0 := by
  refine m_i (cc := cX9_household) (maxL := 5) (ret := (some .int)) (by decide +kernel) rfl (Nat.le_of_ble_eq_true rfl) ?_
  intro p e s m below meth c A ls hx hb hml hr hlocks hown hts w hl
  have hown : s.vm.findClass RX9 = some m.cls := hown
  have hl : lv_has ls 5 [(0, .ref (r 0)), (1, .int x), (2, .int y), (3, .int v)] := hl
  refine lv_aload_n hx hb dX9_household_0 rfl (lv_at hl 0 rfl) ?_
  refine k_vV (As := []) (rest := []) (Rs := [arB ty (r 5) 1720 HA]) (Bs' := [moB r (upd F 16 0), arB ty (r 1) 215 (sqA 215 S), arB ty (r 2) 215 (sqA 215 S), arB ty (r 5) 1720 HA]) ⟨hx, hb, hml, hown, hts⟩ w (c_X9_begins l D ty r F S T) (cwV 0 hts gX9_household_X9_begins rfl rfl rfl ⟨rfl, hdN_X9_begins⟩ ⟨Nat.le_of_ble_eq_true rfl, Nat.le_of_ble_eq_true rfl⟩) [0, 1, 2, 3] (nB := 4) (by decide) rfl rfl rfl rfl 0 rfl rfl (ci := 13) rfl rfl rfl hl.1 rfl (Nat.le_of_ble_eq_true rfl) dX9_household_1 ⟨(Nat.zero_le _), (Nat.zero_le _)⟩ (fun H locs w => ?_)
  refine lv_aload_n hx hb dX9_household_4 rfl (lv_at hl 0 rfl) ?_
  refine k_cut (fun H locs ls => kW D (kTY ty) A s.heap s H locs [moB r (upd F 16 0), arB ty (r 1) 215 (sqA 215 S), arB ty (r 2) 215 (sqA 215 S), arB ty (r 5) 1720 HA] ∧ lv_has ls 5 [(0, .ref (r 0)), (1, .int x), (2, .int y), (3, .int v)]) (pc' := 40) (st' := [.int (bI (!(pIn x 1 9 && pIn y 0 19 && pIn v 0 9))), .ref (r 0)]) ?_ ?_
  · intro H locs ls hI
    obtain ⟨w, hl⟩ := hI
    refine lv_iconst (v := 1) hx hb dX9_household_40 (by decide) ?_
    refine lv_iconst (v := 0) hx hb dX9_household_41 (by decide) ?_
    refine k_vV (As := [.int (bI (!(pIn x 1 9 && pIn y 0 19 && pIn v 0 9))), .int 1, .int 0]) (rest := []) (Rs := [arB ty (r 1) 215 (sqA 215 S), arB ty (r 2) 215 (sqA 215 S), arB ty (r 5) 1720 HA]) (Bs' := [moB r (hin (!(pIn x 1 9 && pIn y 0 19 && pIn v 0 9)) 1 0 (upd F 16 0)), arB ty (r 1) 215 (sqA 215 S), arB ty (r 2) 215 (sqA 215 S), arB ty (r 5) 1720 HA]) ⟨hx, hb, hml, hown, hts⟩ w (c_X9_hinders l D ty r (upd F 16 0) (!(pIn x 1 9 && pIn y 0 19 && pIn v 0 9)) 1 0) (cwV 3 hts gX9_household_X9_hinders rfl rfl rfl ⟨rfl, hdN_X9_hinders⟩ ⟨Nat.le_of_ble_eq_true rfl, Nat.le_of_ble_eq_true rfl⟩) [0, 1, 2, 3] (nB := 4) (by decide) rfl rfl rfl rfl 0 rfl rfl (ci := 13) rfl rfl rfl hl.1 rfl (Nat.le_of_ble_eq_true rfl) dX9_household_42 ⟨(Nat.zero_le _), (Nat.zero_le _)⟩ (fun H locs w => ?_)
    refine lv_aload_n hx hb dX9_household_45 rfl (lv_at hl 0 rfl) ?_
    refine k_cut (fun H locs ls => kW D (kTY ty) A s.heap s H locs [moB r (hin (!(pIn x 1 9 && pIn y 0 19 && pIn v 0 9)) 1 0 (upd F 16 0)), arB ty (r 1) 215 (sqA 215 S), arB ty (r 2) 215 (sqA 215 S), arB ty (r 5) 1720 HA] ∧ lv_has ls 5 [(0, .ref (r 0)), (1, .int x), (2, .int y), (3, .int v)]) (pc' := 62) (st' := [.int (bI (decide (n = 8))), .ref (r 0)]) ?_ ?_
    · intro H locs ls hI
      obtain ⟨w, hl⟩ := hI
      refine lv_iconst (v := 2) hx hb dX9_household_62 (by decide) ?_
      refine lv_bipush (v := 8) hx hb dX9_household_63 (by decide) ?_
      refine k_vV (As := [.int (bI (decide (n = 8))), .int 2, .int 8]) (rest := []) (Rs := [arB ty (r 1) 215 (sqA 215 S), arB ty (r 2) 215 (sqA 215 S), arB ty (r 5) 1720 HA]) (Bs' := [moB r (hin (decide (n = 8)) 2 8 (hin (!(pIn x 1 9 && pIn y 0 19 && pIn v 0 9)) 1 0 (upd F 16 0))), arB ty (r 1) 215 (sqA 215 S), arB ty (r 2) 215 (sqA 215 S), arB ty (r 5) 1720 HA]) ⟨hx, hb, hml, hown, hts⟩ w (c_X9_hinders l D ty r (hin (!(pIn x 1 9 && pIn y 0 19 && pIn v 0 9)) 1 0 (upd F 16 0)) (decide (n = 8)) 2 8) (cwV 3 hts gX9_household_X9_hinders rfl rfl rfl ⟨rfl, hdN_X9_hinders⟩ ⟨Nat.le_of_ble_eq_true rfl, Nat.le_of_ble_eq_true rfl⟩) [0, 1, 2, 3] (nB := 4) (by decide) rfl rfl rfl rfl 0 rfl rfl (ci := 13) rfl rfl rfl hl.1 rfl (Nat.le_of_ble_eq_true rfl) dX9_household_65 ⟨(Nat.zero_le _), (Nat.zero_le _)⟩ (fun H locs w => ?_)
      have w := w.cast (Bs' := [moB r (hnd (wHouse S x y v) (upd F 16 0)), arB ty (r 1) 215 (sqA 215 S), arB ty (r 2) 215 (sqA 215 S), arB ty (r 5) 1720 HA]) (by rw [ho_W h0 hn u16])
      refine lv_aload_n hx hb dX9_household_68 rfl (lv_at hl 0 rfl) ?_
      refine r_get (v' := .ref (r 1)) hx hb hts in_X9_household_X9 hown w 0 0 rfl rfl (ci := 13) rfl 0 (by decide) (hts _ (List.mem_of_getElem? (i := 1) rfl)) rfl rfl rfl dX9_household_69 ?_
      refine lv_iconst (v := 0) hx hb dX9_household_72 (by decide) ?_
      refine r_iald (v := (S 0)) hx hb w 1 0 rfl rfl 0 rfl 0 (by omega) (Nat.le_of_ble_eq_true rfl) rfl (sqA_at (by omega)) dX9_household_73 ?_
      refine r_eq (y := (nI n)) h0 ?_
      refine lv_istore (lv' := [(4, .int (nI n)), (0, .ref (r 0)), (1, .int x), (2, .int y), (3, .int v)]) hx hb dX9_household_74 hl (by decide) rfl (fun ls hl => ?_)
      refine lv_aload_n hx hb dX9_household_76 rfl (lv_at hl 1 rfl) ?_
      refine r_get (v' := .int ((hnd (wHouse S x y v) (upd F 16 0)) 16)) hx hb hts in_X9_household_X9 hown w 0 0 rfl rfl (ci := 13) rfl 16 (by decide) (hts _ (List.mem_of_getElem? (i := 2) rfl)) rfl rfl rfl dX9_household_77 ?_
      refine lv_if_ne (tgt := 117) hx hb dX9_household_80 (by decide) (fun c80 => ?_) (fun c80 => ?_)
      · have hW := mt (hnd_z u16).mpr c80
        refine lv_aload_n hx hb dX9_household_117 rfl (lv_at hl 1 rfl) ?_
        refine lv_iload hx hb dX9_household_118 (lv_at hl 0 rfl) ?_
        refine lv_iconst (v := 1) hx hb dX9_household_120 (by decide) ?_
        refine lv_iconst (v := 0) hx hb dX9_household_121 (by decide) ?_
        refine k_iV (As := [.int (nI n), .int 1, .int 0]) (rest := []) (Rs := []) (Bs' := [moB r (enF (hnd (wHouse S x y v) (upd F 16 0)) 1 0 z), arB ty (r 1) 215 (sqA 215 (enS (hnd (wHouse S x y v) (upd F 16 0)) S S)), arB ty (r 2) 215 (sqA 215 S), arB ty (r 5) 1720 (enH (hnd (wHouse S x y v) (upd F 16 0)) HA S z)]) ⟨hx, hb, hml, hown, hts⟩ w (c_X9_ends l D ty r (hnd (wHouse S x y v) (upd F 16 0)) S S HA z hz (hnd_6.trans h6) (nI n) 1 0) (cwV 3 hts gX9_household_X9_ends rfl rfl rfl ⟨rfl, hdN_X9_ends⟩ ⟨Nat.le_of_ble_eq_true rfl, Nat.le_of_ble_eq_true rfl⟩) [0, 1, 2, 3] (nB := 4) (by decide) rfl rfl rfl rfl 0 rfl rfl (ci := 13) rfl rfl rfl hl.1 rfl (Nat.le_of_ble_eq_true rfl) dX9_household_122 ⟨(Nat.zero_le _), (Nat.zero_le _)⟩ (fun H locs w => ?_)
        exact e_i hx hb hr hlocks (w.cast (by simp only [en_S u16, en_H u16, gR_1 hW])) (by simp only [en_V u16]) dX9_household_125 (Nat.le_refl _) (Nat.le_refl _)
      · have hW := (hnd_z u16).mp c80
        have hn8 := ho_n h0 hn hW
        refine lv_aload_n hx hb dX9_household_83 rfl (lv_at hl 1 rfl) ?_
        refine lv_iload hx hb dX9_household_84 (lv_at hl 0 rfl) ?_
        refine lv_iconst (v := 0) hx hb dX9_household_86 (by decide) ?_
        refine lv_iload_n hx hb dX9_household_87 rfl (lv_at hl 2 rfl) ?_
        refine k_vV (As := [.int (nI n), .int 0, .int x]) (rest := []) (Rs := [arB ty (r 2) 215 (sqA 215 S), arB ty (r 5) 1720 HA]) (Bs' := [moB r (hnd (wHouse S x y v) (upd F 16 0)), arB ty (r 1) 215 (sqA 215 (upd S (1 + 6 * n + 0) x)), arB ty (r 2) 215 (sqA 215 S), arB ty (r 5) 1720 HA]) ⟨hx, hb, hml, hown, hts⟩ w (c_X9_becomes l D ty r (hnd (wHouse S x y v) (upd F 16 0)) S n 0 (by omega) x) (cwV 3 hts gX9_household_X9_becomes rfl rfl rfl ⟨rfl, hdN_X9_becomes⟩ ⟨Nat.le_of_ble_eq_true rfl, Nat.le_of_ble_eq_true rfl⟩) [0, 1, 2, 3] (nB := 4) (by decide) rfl rfl rfl rfl 0 rfl rfl (ci := 13) rfl rfl rfl hl.1 rfl (Nat.le_of_ble_eq_true rfl) dX9_household_88 ⟨(Nat.zero_le _), (Nat.zero_le _)⟩ (fun H locs w => ?_)
        refine lv_aload_n hx hb dX9_household_91 rfl (lv_at hl 1 rfl) ?_
        refine lv_iload hx hb dX9_household_92 (lv_at hl 0 rfl) ?_
        refine lv_iconst (v := 1) hx hb dX9_household_94 (by decide) ?_
        refine lv_iload_n hx hb dX9_household_95 rfl (lv_at hl 3 rfl) ?_
        refine k_vV (As := [.int (nI n), .int 1, .int y]) (rest := []) (Rs := [arB ty (r 2) 215 (sqA 215 S), arB ty (r 5) 1720 HA]) (Bs' := [moB r (hnd (wHouse S x y v) (upd F 16 0)), arB ty (r 1) 215 (sqA 215 (upd (upd S (1 + 6 * n + 0) x) (1 + 6 * n + 1) y)), arB ty (r 2) 215 (sqA 215 S), arB ty (r 5) 1720 HA]) ⟨hx, hb, hml, hown, hts⟩ w (c_X9_becomes l D ty r (hnd (wHouse S x y v) (upd F 16 0)) (upd S (1 + 6 * n + 0) x) n 1 (by omega) y) (cwV 3 hts gX9_household_X9_becomes rfl rfl rfl ⟨rfl, hdN_X9_becomes⟩ ⟨Nat.le_of_ble_eq_true rfl, Nat.le_of_ble_eq_true rfl⟩) [0, 1, 2, 3] (nB := 4) (by decide) rfl rfl rfl rfl 0 rfl rfl (ci := 13) rfl rfl rfl hl.1 rfl (Nat.le_of_ble_eq_true rfl) dX9_household_96 ⟨(Nat.zero_le _), (Nat.zero_le _)⟩ (fun H locs w => ?_)
        refine lv_aload_n hx hb dX9_household_99 rfl (lv_at hl 1 rfl) ?_
        refine lv_iload hx hb dX9_household_100 (lv_at hl 0 rfl) ?_
        refine lv_iconst (v := 2) hx hb dX9_household_102 (by decide) ?_
        refine lv_iload_n hx hb dX9_household_103 rfl (lv_at hl 4 rfl) ?_
        refine k_vV (As := [.int (nI n), .int 2, .int v]) (rest := []) (Rs := [arB ty (r 2) 215 (sqA 215 S), arB ty (r 5) 1720 HA]) (Bs' := [moB r (hnd (wHouse S x y v) (upd F 16 0)), arB ty (r 1) 215 (sqA 215 (upd (upd (upd S (1 + 6 * n + 0) x) (1 + 6 * n + 1) y) (1 + 6 * n + 2) v)), arB ty (r 2) 215 (sqA 215 S), arB ty (r 5) 1720 HA]) ⟨hx, hb, hml, hown, hts⟩ w (c_X9_becomes l D ty r (hnd (wHouse S x y v) (upd F 16 0)) (upd (upd S (1 + 6 * n + 0) x) (1 + 6 * n + 1) y) n 2 (by omega) v) (cwV 3 hts gX9_household_X9_becomes rfl rfl rfl ⟨rfl, hdN_X9_becomes⟩ ⟨Nat.le_of_ble_eq_true rfl, Nat.le_of_ble_eq_true rfl⟩) [0, 1, 2, 3] (nB := 4) (by decide) rfl rfl rfl rfl 0 rfl rfl (ci := 13) rfl rfl rfl hl.1 rfl (Nat.le_of_ble_eq_true rfl) dX9_household_104 ⟨(Nat.zero_le _), (Nat.zero_le _)⟩ (fun H locs w => ?_)
        refine lv_aload_n hx hb dX9_household_107 rfl (lv_at hl 1 rfl) ?_
        refine r_get (v' := .ref (r 1)) hx hb hts in_X9_household_X9 hown w 0 0 rfl rfl (ci := 13) rfl 0 (by decide) (hts _ (List.mem_of_getElem? (i := 1) rfl)) rfl rfl rfl dX9_household_108 ?_
        refine lv_iconst (v := 0) hx hb dX9_household_111 (by decide) ?_
        refine lv_dup2_11 hx hb dX9_household_112 rfl rfl ?_
        refine r_iald (v := ((upd (upd (upd S (1 + 6 * n + 0) x) (1 + 6 * n + 1) y) (1 + 6 * n + 2) v) 0)) hx hb w 1 0 rfl rfl 0 rfl 0 (by omega) (Nat.le_of_ble_eq_true rfl) rfl (sqA_at (by omega)) dX9_household_113 ?_
        refine r_eq (y := (nI n)) ((updn (by omega)).trans ((updn (by omega)).trans ((updn (by omega)).trans h0))) ?_
        refine lv_iconst (v := 1) hx hb dX9_household_114 (by decide) ?_
        refine lv_iadd hx hb dX9_household_115 ?_
        refine r_eq (y := (nI (n + 1))) (nI_add n 1) ?_
        refine r_iast hx hb w 1 0 rfl rfl 0 rfl 0 (by omega) (Nat.le_of_ble_eq_true rfl) rfl (arB ty (r 1) 215 (sqA 215 (upd (upd (upd (upd S (1 + 6 * n + 0) x) (1 + 6 * n + 1) y) (1 + 6 * n + 2) v) 0 (nI (n + 1))))) (arB_st (by omega)) [moB r (hnd (wHouse S x y v) (upd F 16 0)), arB ty (r 1) 215 (sqA 215 (upd (upd (upd (upd S (1 + 6 * n + 0) x) (1 + 6 * n + 1) y) (1 + 6 * n + 2) v) 0 (nI (n + 1)))), arB ty (r 2) 215 (sqA 215 S), arB ty (r 5) 1720 HA] rfl dX9_household_116 (fun H locs w => ?_)
        refine lv_aload_n hx hb dX9_household_117 rfl (lv_at hl 1 rfl) ?_
        refine lv_iload hx hb dX9_household_118 (lv_at hl 0 rfl) ?_
        refine lv_iconst (v := 1) hx hb dX9_household_120 (by decide) ?_
        refine lv_iconst (v := 0) hx hb dX9_household_121 (by decide) ?_
        refine k_iV (As := [.int (nI n), .int 1, .int 0]) (rest := []) (Rs := []) (Bs' := [moB r (enF (hnd (wHouse S x y v) (upd F 16 0)) 1 0 z), arB ty (r 1) 215 (sqA 215 (enS (hnd (wHouse S x y v) (upd F 16 0)) (upd (upd (upd (upd S (1 + 6 * n + 0) x) (1 + 6 * n + 1) y) (1 + 6 * n + 2) v) 0 (nI (n + 1))) S)), arB ty (r 2) 215 (sqA 215 S), arB ty (r 5) 1720 (enH (hnd (wHouse S x y v) (upd F 16 0)) HA S z)]) ⟨hx, hb, hml, hown, hts⟩ w (c_X9_ends l D ty r (hnd (wHouse S x y v) (upd F 16 0)) (upd (upd (upd (upd S (1 + 6 * n + 0) x) (1 + 6 * n + 1) y) (1 + 6 * n + 2) v) 0 (nI (n + 1))) S HA z hz (hnd_6.trans h6) (nI n) 1 0) (cwV 3 hts gX9_household_X9_ends rfl rfl rfl ⟨rfl, hdN_X9_ends⟩ ⟨Nat.le_of_ble_eq_true rfl, Nat.le_of_ble_eq_true rfl⟩) [0, 1, 2, 3] (nB := 4) (by decide) rfl rfl rfl rfl 0 rfl rfl (ci := 13) rfl rfl rfl hl.1 rfl (Nat.le_of_ble_eq_true rfl) dX9_household_122 ⟨(Nat.zero_le _), (Nat.zero_le _)⟩ (fun H locs w => ?_)
        exact e_i hx hb hr hlocks (w.cast (by simp only [en_S u16, en_H u16, gR_0 hW]; rfl)) (by simp only [en_V u16]) dX9_household_125 (Nat.le_refl _) (Nat.le_refl _)
    · intro cont62
      refine lv_aload_n hx hb dX9_household_46 rfl (lv_at hl 0 rfl) ?_
      refine r_get (v' := .ref (r 1)) hx hb hts in_X9_household_X9 hown w 0 0 rfl rfl (ci := 13) rfl 0 (by decide) (hts _ (List.mem_of_getElem? (i := 1) rfl)) rfl rfl rfl dX9_household_47 ?_
      refine lv_iconst (v := 0) hx hb dX9_household_50 (by decide) ?_
      refine r_iald (v := (S 0)) hx hb w 1 0 rfl rfl 0 rfl 0 (by omega) (Nat.le_of_ble_eq_true rfl) rfl (sqA_at (by omega)) dX9_household_51 ?_
      refine r_eq (y := (nI n)) h0 ?_
      refine lv_bipush (v := 8) hx hb dX9_household_52 (by decide) ?_
      refine lv_icmp_ne (tgt := 61) hx hb dX9_household_54 (by decide) (fun c54 => ?_) (fun c54 => ?_)
      · have c54 := mt (nI_eq (a := n) (b := 8) (by omega) (by omega)).mpr c54
        refine lv_iconst (v := 0) hx hb dX9_household_61 (by decide) ?_
        refine r_eq (y := (bI (decide (n = 8)))) (bI_d0 c54) ?_
        exact cont62 _ _ _ ⟨w, hl⟩
      · have c54 := (nI_eq (a := n) (b := 8) (by omega) (by omega)).mp c54
        refine lv_iconst (v := 1) hx hb dX9_household_57 (by decide) ?_
        refine lv_goto (tgt := 62) hx hb dX9_household_58 (by decide) ?_
        refine r_eq (y := (bI (decide (n = 8)))) (bI_d1 c54) ?_
        exact cont62 _ _ _ ⟨w, hl⟩
  · intro cont40
    refine lv_iload_n hx hb dX9_household_5 rfl (lv_at hl 1 rfl) ?_
    refine lv_iconst (v := 1) hx hb dX9_household_6 (by decide) ?_
    refine lv_bipush (v := 9) hx hb dX9_household_7 (by decide) ?_
    refine k_iS (As := [.int x, .int 1, .int 9]) (rest := [.ref (r 0)]) (Rs := [moB r (upd F 16 0), arB ty (r 1) 215 (sqA 215 S), arB ty (r 2) 215 (sqA 215 S), arB ty (r 5) 1720 HA]) (Bs' := [moB r (upd F 16 0), arB ty (r 1) 215 (sqA 215 S), arB ty (r 2) 215 (sqA 215 S), arB ty (r 5) 1720 HA]) ⟨hx, hb, hml, hown, hts⟩ w (c_X9_isIn l D ty x 1 9) (va_cwS 3 hts gX9_household_X9_isIn rfl rfl rfl hdN_X9_isIn ⟨Nat.le_of_ble_eq_true rfl, Nat.le_of_ble_eq_true rfl⟩) [0, 1, 2, 3] (nB := 4) (by decide) rfl rfl rfl rfl rfl hl.1 rfl (Nat.le_of_ble_eq_true rfl) dX9_household_9 ⟨(Nat.zero_le _), (Nat.zero_le _)⟩ (fun H locs w => ?_)
    refine lv_if_eq (tgt := 35) hx hb dX9_household_12 (by decide) (fun c12 => ?_) (fun c12 => ?_)
    · have c12 := bI_0.mp c12
      refine lv_iconst (v := 1) hx hb dX9_household_35 (by decide) ?_
      refine lv_goto (tgt := 40) hx hb dX9_household_36 (by decide) ?_
      refine r_eq (y := (bI (!(pIn x 1 9 && pIn y 0 19 && pIn v 0 9)))) (by rw [c12]; rfl) ?_
      exact cont40 _ _ _ ⟨w, hl⟩
    · have c12 := bI_1.mp c12
      refine lv_iload_n hx hb dX9_household_15 rfl (lv_at hl 2 rfl) ?_
      refine lv_iconst (v := 0) hx hb dX9_household_16 (by decide) ?_
      refine lv_bipush (v := 19) hx hb dX9_household_17 (by decide) ?_
      refine k_iS (As := [.int y, .int 0, .int 19]) (rest := [.ref (r 0)]) (Rs := [moB r (upd F 16 0), arB ty (r 1) 215 (sqA 215 S), arB ty (r 2) 215 (sqA 215 S), arB ty (r 5) 1720 HA]) (Bs' := [moB r (upd F 16 0), arB ty (r 1) 215 (sqA 215 S), arB ty (r 2) 215 (sqA 215 S), arB ty (r 5) 1720 HA]) ⟨hx, hb, hml, hown, hts⟩ w (c_X9_isIn l D ty y 0 19) (va_cwS 3 hts gX9_household_X9_isIn rfl rfl rfl hdN_X9_isIn ⟨Nat.le_of_ble_eq_true rfl, Nat.le_of_ble_eq_true rfl⟩) [0, 1, 2, 3] (nB := 4) (by decide) rfl rfl rfl rfl rfl hl.1 rfl (Nat.le_of_ble_eq_true rfl) dX9_household_19 ⟨(Nat.zero_le _), (Nat.zero_le _)⟩ (fun H locs w => ?_)
      refine lv_if_eq (tgt := 35) hx hb dX9_household_22 (by decide) (fun c22 => ?_) (fun c22 => ?_)
      · have c22 := bI_0.mp c22
        refine lv_iconst (v := 1) hx hb dX9_household_35 (by decide) ?_
        refine lv_goto (tgt := 40) hx hb dX9_household_36 (by decide) ?_
        refine r_eq (y := (bI (!(pIn x 1 9 && pIn y 0 19 && pIn v 0 9)))) (by rw [c22, Bool.and_false]; rfl) ?_
        exact cont40 _ _ _ ⟨w, hl⟩
      · have c22 := bI_1.mp c22
        refine lv_iload_n hx hb dX9_household_25 rfl (lv_at hl 3 rfl) ?_
        refine lv_iconst (v := 0) hx hb dX9_household_26 (by decide) ?_
        refine lv_bipush (v := 9) hx hb dX9_household_27 (by decide) ?_
        refine k_iS (As := [.int v, .int 0, .int 9]) (rest := [.ref (r 0)]) (Rs := [moB r (upd F 16 0), arB ty (r 1) 215 (sqA 215 S), arB ty (r 2) 215 (sqA 215 S), arB ty (r 5) 1720 HA]) (Bs' := [moB r (upd F 16 0), arB ty (r 1) 215 (sqA 215 S), arB ty (r 2) 215 (sqA 215 S), arB ty (r 5) 1720 HA]) ⟨hx, hb, hml, hown, hts⟩ w (c_X9_isIn l D ty v 0 9) (va_cwS 3 hts gX9_household_X9_isIn rfl rfl rfl hdN_X9_isIn ⟨Nat.le_of_ble_eq_true rfl, Nat.le_of_ble_eq_true rfl⟩) [0, 1, 2, 3] (nB := 4) (by decide) rfl rfl rfl rfl rfl hl.1 rfl (Nat.le_of_ble_eq_true rfl) dX9_household_29 ⟨(Nat.zero_le _), (Nat.zero_le _)⟩ (fun H locs w => ?_)
        refine lv_if_ne (tgt := 39) hx hb dX9_household_32 (by decide) (fun c32 => ?_) (fun c32 => ?_)
        · have c32 := bI_1.mp c32
          refine lv_iconst (v := 0) hx hb dX9_household_39 (by decide) ?_
          refine r_eq (y := (bI (!(pIn x 1 9 && pIn y 0 19 && pIn v 0 9)))) (by rw [c12, c22, c32]; rfl) ?_
          exact cont40 _ _ _ ⟨w, hl⟩
        · have c32 := bI_0.mp c32
          refine lv_iconst (v := 1) hx hb dX9_household_35 (by decide) ?_
          refine lv_goto (tgt := 40) hx hb dX9_household_36 (by decide) ?_
          refine r_eq (y := (bI (!(pIn x 1 9 && pIn y 0 19 && pIn v 0 9)))) (by rw [c32, Bool.and_false]; rfl) ?_
          exact cont40 _ _ _ ⟨w, hl⟩
