theorem vMean_n {S : pS} {n : Nat} (h : n ≤ 8) : vf_n32 (vMean S n) := by
  unfold vMean
  split
  · unfold vf_n32
    decide +kernel
  · rename_i z
    exact fl_f (nI_ne0 (Nat.pos_of_ne_zero z) (by omega))
set_option maxRecDepth 100000 in
set_option maxHeartbeats 4000000 in
theorem c_L_membersFor (l : Launch) (hst : l.stackTraces = false) (J : Nat → Nat) (D : va_G) (ty : Nat → ClassId) (o : Nat) (a b sn h t : Nat → Nat) (r sb : Nat) (hs lf : Int32) (S M : pS) (n q : Nat) (hA : IA S n q) (v : Int32) (oq : Nat) (og : Nat → Int64) : Lx J l yL_membersFor wsL_membersFor (kR 7 151 1 6) D (kTY ty) [.ref o, .int v, .ref oq] [ppB o (a 0) (b 0) (sn 0) (h 0) r (t 0) sb hs lf, stB a S, lnB ty a S, quB ty a S, weB a S, miB ty a M, ouB ty oq og] (t1 (pIn v 0 3) = 0) [ppB o (a 0) (b 0) (sn 0) (h 0) r (t 0) sb hs lf, stB a S, lnB ty a S, quB ty a S, weB a S, miB ty a M, ouB ty oq (vp_updL og 0 ((pMem S v n).toInt64))] [ppB o (a 0) (b 0) (sn 0) (h 0) r (t 0) sb hs lf, stB a S, lnB ty a S, quB ty a S, weB a S, miB ty a M, ouB ty oq og] 1 1 6 := by
  refine m_lx (cc := cL_membersFor) (maxL := 4) (ret := (some .int)) (hh := [(0, 9, 12, 47)]) (by decide +kernel) rfl (Nat.le_of_ble_eq_true rfl) ?_
  intro p e s m below meth c A ls hx hb hml hr hlocks hown hts htab hnc hz hj w hl
  have hown : s.vm.findClass RL = some m.cls := hown
  have hl : lv_has ls 4 [(0, .ref o), (1, .int v), (2, .ref oq)] := hl
  refine lv_aload_n hx hb dL_membersFor_0 rfl (lv_at hl 2 rfl) ?_
  refine lv_iconst (v := 0) hx hb dL_membersFor_1 (by decide) ?_
  refine lv_aload_n hx hb dL_membersFor_2 rfl (lv_at hl 0 rfl) ?_
  refine lv_iload_n hx hb dL_membersFor_3 rfl (lv_at hl 1 rfl) ?_
  refine xc_i (As := [.int v]) (rest := [.int 0, .ref oq]) (Rs := [ouB ty oq og]) ⟨hx, hb, hml, hown, hts⟩ hz hj w (c_X8_membersFor l hst D ty o a b sn h t r sb hs lf S M n q hA v) (cwV 1 hts gL_membersFor_X8_membersFor rfl rfl rfl ⟨rfl, hdN_X8_membersFor⟩ ⟨Nat.le_of_ble_eq_true rfl, Nat.le_of_ble_eq_true rfl⟩) [0, 1, 2, 3, 4, 5, 6] (nB := 7) (by decide) rfl rfl 0 rfl rfl (ci := 12) rfl rfl rfl hl.1 rfl (Nat.le_of_ble_eq_true rfl) dL_membersFor_4 ⟨(Nat.le_of_ble_eq_true rfl), (Nat.le_of_ble_eq_true rfl)⟩ (fun q9 H locs hok hth w => ?_) (fun H locs hok w => ?_)
  · refine l_c1 hown htab (by decide) (by decide) (hts _ (List.mem_of_getElem? (i := 1) rfl)) (hz.1.1.use _ xk_IAE) hth ?_
    refine lv_astore_n (lv' := [(3, .ref q9), (0, .ref o), (1, .int v), (2, .ref oq)]) hx hb dL_membersFor_12 rfl hl (by decide) rfl (fun ls hl => ?_)
    refine lv_iconst (v := 1) hx hb dL_membersFor_13 (by decide) ?_
    exact l_end false hx hb hr hlocks w (Or.inr ⟨rfl, hok, rfl⟩) dL_membersFor_14 (Nat.le_of_ble_eq_true rfl) (Nat.le_of_ble_eq_true rfl)
  · refine lv_i2l (v := ((pMem S v n)).toInt64) hx hb dL_membersFor_7 rfl ?_
    refine r_last hx hb w 6 0 rfl rfl 5 rfl 0 (by decide) (Nat.le_of_ble_eq_true rfl) rfl (ouB ty oq (vp_updL og 0 ((pMem S v n).toInt64))) rfl [ppB o (a 0) (b 0) (sn 0) (h 0) r (t 0) sb hs lf, stB a S, lnB ty a S, quB ty a S, weB a S, miB ty a M, ouB ty oq (vp_updL og 0 ((pMem S v n).toInt64))] rfl dL_membersFor_8 (fun H locs w => ?_)
    refine lv_goto (tgt := 15) hx hb dL_membersFor_9 (by decide) ?_
    refine lv_iconst (v := 0) hx hb dL_membersFor_15 (by decide) ?_
    exact l_end true hx hb hr hlocks w (Or.inl ⟨rfl, hok, rfl⟩) dL_membersFor_16 (Nat.le_of_ble_eq_true rfl) (Nat.le_of_ble_eq_true rfl)
theorem hdN_L_membersFor : yL_membersFor.cls ≠ "java/lang/invoke/MethodHandle" ∧ yL_membersFor.cls ≠ "java/lang/invoke/VarHandle" ∧ (parseMethodDescriptor yL_membersFor.desc).map (fun d => d.parameters.length) = some 3 := by decide +kernel

set_option maxRecDepth 100000 in
set_option maxHeartbeats 4000000 in
theorem c_L_turnIn (l : Launch) (hst : l.stackTraces = false) (J : Nat → Nat) (D : va_G) (ty : Nat → ClassId) (o : Nat) (a b sn h t : Nat → Nat) (r sb : Nat) (hs lf : Int32) (S M : pS) (n q : Nat) (hA : IA S n q) (v : Int32) (oq : Nat) (og : Nat → Int64) : Lx J l yL_turnIn wsL_turnIn (kR 7 152 1 6) D (kTY ty) [.ref o, .int v, .ref oq] [ppB o (a 0) (b 0) (sn 0) (h 0) r (t 0) sb hs lf, stB a S, lnB ty a S, quB ty a S, weB a S, miB ty a M, ouB ty oq og] (tTurn S n q v = 0) [ppB o (a 0) (b 0) (sn 0) (h 0) r (t 0) sb hs lf, stB a S, lnB ty a S, quB ty a S, weB a S, miB ty a M, ouB ty oq (vp_updL og 0 ((pPl S v q + 1).toInt64))] [ppB o (a 0) (b 0) (sn 0) (h 0) r (t 0) sb hs lf, stB a S, lnB ty a S, quB ty a S, weB a S, miB ty a M, ouB ty oq og] (if tTurn S n q v = 2 then 2 else 1) 1 6 := by
  refine m_lx (cc := cL_turnIn) (maxL := 4) (ret := (some .int)) (hh := [(0, 9, 12, 45), (0, 9, 15, 73)]) (by decide +kernel) rfl (Nat.le_of_ble_eq_true rfl) ?_
  intro p e s m below meth c A ls hx hb hml hr hlocks hown hts htab hnc hz hj w hl
  have hown : s.vm.findClass RL = some m.cls := hown
  have hl : lv_has ls 4 [(0, .ref o), (1, .int v), (2, .ref oq)] := hl
  refine lv_aload_n hx hb dL_turnIn_0 rfl (lv_at hl 2 rfl) ?_
  refine lv_iconst (v := 0) hx hb dL_turnIn_1 (by decide) ?_
  refine lv_aload_n hx hb dL_turnIn_2 rfl (lv_at hl 0 rfl) ?_
  refine lv_iload_n hx hb dL_turnIn_3 rfl (lv_at hl 1 rfl) ?_
  refine xc_i (As := [.int v]) (rest := [.int 0, .ref oq]) (Rs := [ouB ty oq og]) ⟨hx, hb, hml, hown, hts⟩ hz hj w (c_X8_turnIn l hst D ty o a b sn h t r sb hs lf S M n q hA v) (cwV 1 hts gL_turnIn_X8_turnIn rfl rfl rfl ⟨rfl, hdN_X8_turnIn⟩ ⟨Nat.le_of_ble_eq_true rfl, Nat.le_of_ble_eq_true rfl⟩) [0, 1, 2, 3, 4, 5, 6] (nB := 7) (by decide) rfl rfl 0 rfl rfl (ci := 12) rfl rfl rfl hl.1 rfl (Nat.le_of_ble_eq_true rfl) dL_turnIn_4 ⟨(Nat.le_of_ble_eq_true rfl), (Nat.le_of_ble_eq_true rfl)⟩ (fun q9 H locs hok hth w => ?_) (fun H locs hok w => ?_)
  · by_cases ht : tTurn S n q v = 2
    · rw [if_pos ht] at hth
      refine l_c2 hown htab (by decide) (hts _ (List.mem_of_getElem? (i := 1) rfl)) hnc.2.2.1 (by decide) (by decide) (hnc.1.use 1 rfl) (hz.1.1.use _ xk_NSE) hth ?_
      refine lv_astore_n (lv' := [(3, .ref q9), (0, .ref o), (1, .int v), (2, .ref oq)]) hx hb dL_turnIn_15 rfl hl (by decide) rfl (fun ls hl => ?_)
      refine lv_iconst (v := 2) hx hb dL_turnIn_16 (by decide) ?_
      exact l_end false hx hb hr hlocks w (Or.inr ⟨rfl, hok, (if_pos ht).symm⟩) dL_turnIn_17 (Nat.le_of_ble_eq_true rfl) (Nat.le_of_ble_eq_true rfl)
    · rw [if_neg ht] at hth
      refine l_c1 hown htab (by decide) (by decide) (hts _ (List.mem_of_getElem? (i := 1) rfl)) (hz.1.1.use _ xk_IOB) hth ?_
      refine lv_astore_n (lv' := [(3, .ref q9), (0, .ref o), (1, .int v), (2, .ref oq)]) hx hb dL_turnIn_12 rfl hl (by decide) rfl (fun ls hl => ?_)
      refine lv_iconst (v := 1) hx hb dL_turnIn_13 (by decide) ?_
      exact l_end false hx hb hr hlocks w (Or.inr ⟨rfl, hok, (if_neg ht).symm⟩) dL_turnIn_14 (Nat.le_of_ble_eq_true rfl) (Nat.le_of_ble_eq_true rfl)
  · refine lv_i2l (v := ((pPl S v q + 1)).toInt64) hx hb dL_turnIn_7 rfl ?_
    refine r_last hx hb w 6 0 rfl rfl 5 rfl 0 (by decide) (Nat.le_of_ble_eq_true rfl) rfl (ouB ty oq (vp_updL og 0 ((pPl S v q + 1).toInt64))) rfl [ppB o (a 0) (b 0) (sn 0) (h 0) r (t 0) sb hs lf, stB a S, lnB ty a S, quB ty a S, weB a S, miB ty a M, ouB ty oq (vp_updL og 0 ((pPl S v q + 1).toInt64))] rfl dL_turnIn_8 (fun H locs w => ?_)
    refine lv_goto (tgt := 18) hx hb dL_turnIn_9 (by decide) ?_
    refine lv_iconst (v := 0) hx hb dL_turnIn_18 (by decide) ?_
    exact l_end true hx hb hr hlocks w (Or.inl ⟨rfl, hok, rfl⟩) dL_turnIn_19 (Nat.le_of_ble_eq_true rfl) (Nat.le_of_ble_eq_true rfl)
theorem hdN_L_turnIn : yL_turnIn.cls ≠ "java/lang/invoke/MethodHandle" ∧ yL_turnIn.cls ≠ "java/lang/invoke/VarHandle" ∧ (parseMethodDescriptor yL_turnIn.desc).map (fun d => d.parameters.length) = some 3 := by decide +kernel

set_option maxRecDepth 100000 in
set_option maxHeartbeats 4000000 in
theorem c_L_wouldBring (l : Launch) (hst : l.stackTraces = false) (J : Nat → Nat) (D : va_G) (ty : Nat → ClassId) (o : Nat) (a b sn h t : Nat → Nat) (r sb : Nat) (hs lf : Int32) (S M : pS) (n q : Nat) (hA : IA S n q) (v : Int32) (oq : Nat) (og : Nat → Int64) : Lx J l yL_wouldBring wsL_wouldBring (kR 7 151 1 6) D (kTY ty) [.ref o, .int v, .ref oq] [ppB o (a 0) (b 0) (sn 0) (h 0) r (t 0) sb hs lf, stB a S, lnB ty a S, quB ty a S, weB a S, miB ty a M, ouB ty oq og] (t1 (pIn v 0 60) = 0) [ppB o (a 0) (b 0) (sn 0) (h 0) r (t 0) sb hs lf, stB a S, lnB ty a S, quB ty a S, weB a S, miB ty a M, ouB ty oq (vp_updL og 0 ((pBrings S (cN v)).toInt64))] [ppB o (a 0) (b 0) (sn 0) (h 0) r (t 0) sb hs lf, stB a S, lnB ty a S, quB ty a S, weB a S, miB ty a M, ouB ty oq og] 1 1 6 := by
  refine m_lx (cc := cL_wouldBring) (maxL := 4) (ret := (some .int)) (hh := [(0, 9, 12, 47)]) (by decide +kernel) rfl (Nat.le_of_ble_eq_true rfl) ?_
  intro p e s m below meth c A ls hx hb hml hr hlocks hown hts htab hnc hz hj w hl
  have hown : s.vm.findClass RL = some m.cls := hown
  have hl : lv_has ls 4 [(0, .ref o), (1, .int v), (2, .ref oq)] := hl
  refine lv_aload_n hx hb dL_wouldBring_0 rfl (lv_at hl 2 rfl) ?_
  refine lv_iconst (v := 0) hx hb dL_wouldBring_1 (by decide) ?_
  refine lv_aload_n hx hb dL_wouldBring_2 rfl (lv_at hl 0 rfl) ?_
  refine lv_iload_n hx hb dL_wouldBring_3 rfl (lv_at hl 1 rfl) ?_
  refine xc_i (As := [.int v]) (rest := [.int 0, .ref oq]) (Rs := [ouB ty oq og]) ⟨hx, hb, hml, hown, hts⟩ hz hj w (c_X8_wouldBring l hst D ty o a b sn h t r sb hs lf S M n q hA v) (cwV 1 hts gL_wouldBring_X8_wouldBring rfl rfl rfl ⟨rfl, hdN_X8_wouldBring⟩ ⟨Nat.le_of_ble_eq_true rfl, Nat.le_of_ble_eq_true rfl⟩) [0, 1, 2, 3, 4, 5, 6] (nB := 7) (by decide) rfl rfl 0 rfl rfl (ci := 12) rfl rfl rfl hl.1 rfl (Nat.le_of_ble_eq_true rfl) dL_wouldBring_4 ⟨(Nat.le_of_ble_eq_true rfl), (Nat.le_of_ble_eq_true rfl)⟩ (fun q9 H locs hok hth w => ?_) (fun H locs hok w => ?_)
  · refine l_c1 hown htab (by decide) (by decide) (hts _ (List.mem_of_getElem? (i := 1) rfl)) (hz.1.1.use _ xk_IAE) hth ?_
    refine lv_astore_n (lv' := [(3, .ref q9), (0, .ref o), (1, .int v), (2, .ref oq)]) hx hb dL_wouldBring_12 rfl hl (by decide) rfl (fun ls hl => ?_)
    refine lv_iconst (v := 1) hx hb dL_wouldBring_13 (by decide) ?_
    exact l_end false hx hb hr hlocks w (Or.inr ⟨rfl, hok, rfl⟩) dL_wouldBring_14 (Nat.le_of_ble_eq_true rfl) (Nat.le_of_ble_eq_true rfl)
  · refine lv_i2l (v := ((pBrings S (cN v))).toInt64) hx hb dL_wouldBring_7 rfl ?_
    refine r_last hx hb w 6 0 rfl rfl 5 rfl 0 (by decide) (Nat.le_of_ble_eq_true rfl) rfl (ouB ty oq (vp_updL og 0 ((pBrings S (cN v)).toInt64))) rfl [ppB o (a 0) (b 0) (sn 0) (h 0) r (t 0) sb hs lf, stB a S, lnB ty a S, quB ty a S, weB a S, miB ty a M, ouB ty oq (vp_updL og 0 ((pBrings S (cN v)).toInt64))] rfl dL_wouldBring_8 (fun H locs w => ?_)
    refine lv_goto (tgt := 15) hx hb dL_wouldBring_9 (by decide) ?_
    refine lv_iconst (v := 0) hx hb dL_wouldBring_15 (by decide) ?_
    exact l_end true hx hb hr hlocks w (Or.inl ⟨rfl, hok, rfl⟩) dL_wouldBring_16 (Nat.le_of_ble_eq_true rfl) (Nat.le_of_ble_eq_true rfl)
theorem hdN_L_wouldBring : yL_wouldBring.cls ≠ "java/lang/invoke/MethodHandle" ∧ yL_wouldBring.cls ≠ "java/lang/invoke/VarHandle" ∧ (parseMethodDescriptor yL_wouldBring.desc).map (fun d => d.parameters.length) = some 3 := by decide +kernel

set_option maxRecDepth 100000 in
set_option maxHeartbeats 4000000 in
theorem c_L_wellIn (l : Launch) (hst : l.stackTraces = false) (J : Nat → Nat) (D : va_G) (ty : Nat → ClassId) (o : Nat) (a b sn h t : Nat → Nat) (r sb : Nat) (hs lf : Int32) (S M : pS) (n q : Nat) (hA : IA S n q) (v d : Int32) (oq : Nat) (og : Nat → Int64) : Lx J l yL_wellIn wsL_wellIn (kR 7 152 1 6) D (kTY ty) [.ref o, .int v, .int d, .ref oq] [ppB o (a 0) (b 0) (sn 0) (h 0) r (t 0) sb hs lf, stB a S, lnB ty a S, quB ty a S, weB a S, miB ty a M, ouB ty oq og] (t1 (pIn v 0 100 && pIn d 0 999) = 0) [ppB o (a 0) (b 0) (sn 0) (h 0) r (t 0) sb hs lf, stB a S, lnB ty a S, quB ty a S, weB a S, miB ty a M, ouB ty oq (vp_updL og 0 ((pWell S d (cN v)).toInt64))] [ppB o (a 0) (b 0) (sn 0) (h 0) r (t 0) sb hs lf, stB a S, lnB ty a S, quB ty a S, weB a S, miB ty a M, ouB ty oq og] 1 1 6 := by
  refine m_lx (cc := cL_wellIn) (maxL := 5) (ret := (some .int)) (hh := [(0, 10, 13, 47)]) (by decide +kernel) rfl (Nat.le_of_ble_eq_true rfl) ?_
  intro p e s m below meth c A ls hx hb hml hr hlocks hown hts htab hnc hz hj w hl
  have hown : s.vm.findClass RL = some m.cls := hown
  have hl : lv_has ls 5 [(0, .ref o), (1, .int v), (2, .int d), (3, .ref oq)] := hl
  refine lv_aload_n hx hb dL_wellIn_0 rfl (lv_at hl 3 rfl) ?_
  refine lv_iconst (v := 0) hx hb dL_wellIn_1 (by decide) ?_
  refine lv_aload_n hx hb dL_wellIn_2 rfl (lv_at hl 0 rfl) ?_
  refine lv_iload_n hx hb dL_wellIn_3 rfl (lv_at hl 1 rfl) ?_
  refine lv_iload_n hx hb dL_wellIn_4 rfl (lv_at hl 2 rfl) ?_
  refine xc_i (As := [.int v, .int d]) (rest := [.int 0, .ref oq]) (Rs := [ouB ty oq og]) ⟨hx, hb, hml, hown, hts⟩ hz hj w (c_X8_wellIn l hst D ty o a b sn h t r sb hs lf S M n q hA v d) (cwV 2 hts gL_wellIn_X8_wellIn rfl rfl rfl ⟨rfl, hdN_X8_wellIn⟩ ⟨Nat.le_of_ble_eq_true rfl, Nat.le_of_ble_eq_true rfl⟩) [0, 1, 2, 3, 4, 5, 6] (nB := 7) (by decide) rfl rfl 0 rfl rfl (ci := 12) rfl rfl rfl hl.1 rfl (Nat.le_of_ble_eq_true rfl) dL_wellIn_5 ⟨(Nat.le_of_ble_eq_true rfl), (Nat.le_of_ble_eq_true rfl)⟩ (fun q9 H locs hok hth w => ?_) (fun H locs hok w => ?_)
  · refine l_c1 hown htab (by decide) (by decide) (hts _ (List.mem_of_getElem? (i := 1) rfl)) (hz.1.1.use _ xk_IAE) hth ?_
    refine lv_astore (lv' := [(4, .ref q9), (0, .ref o), (1, .int v), (2, .int d), (3, .ref oq)]) hx hb dL_wellIn_13 hl (by decide) rfl (fun ls hl => ?_)
    refine lv_iconst (v := 1) hx hb dL_wellIn_15 (by decide) ?_
    exact l_end false hx hb hr hlocks w (Or.inr ⟨rfl, hok, rfl⟩) dL_wellIn_16 (Nat.le_of_ble_eq_true rfl) (Nat.le_of_ble_eq_true rfl)
  · refine lv_i2l (v := ((pWell S d (cN v))).toInt64) hx hb dL_wellIn_8 rfl ?_
    refine r_last hx hb w 6 0 rfl rfl 5 rfl 0 (by decide) (Nat.le_of_ble_eq_true rfl) rfl (ouB ty oq (vp_updL og 0 ((pWell S d (cN v)).toInt64))) rfl [ppB o (a 0) (b 0) (sn 0) (h 0) r (t 0) sb hs lf, stB a S, lnB ty a S, quB ty a S, weB a S, miB ty a M, ouB ty oq (vp_updL og 0 ((pWell S d (cN v)).toInt64))] rfl dL_wellIn_9 (fun H locs w => ?_)
    refine lv_goto (tgt := 17) hx hb dL_wellIn_10 (by decide) ?_
    refine lv_iconst (v := 0) hx hb dL_wellIn_17 (by decide) ?_
    exact l_end true hx hb hr hlocks w (Or.inl ⟨rfl, hok, rfl⟩) dL_wellIn_18 (Nat.le_of_ble_eq_true rfl) (Nat.le_of_ble_eq_true rfl)
theorem hdN_L_wellIn : yL_wellIn.cls ≠ "java/lang/invoke/MethodHandle" ∧ yL_wellIn.cls ≠ "java/lang/invoke/VarHandle" ∧ (parseMethodDescriptor yL_wellIn.desc).map (fun d => d.parameters.length) = some 4 := by decide +kernel

set_option maxRecDepth 100000 in
set_option maxHeartbeats 4000000 in
theorem c_L_droughtIn (l : Launch) (hst : l.stackTraces = false) (J : Nat → Nat) (D : va_G) (ty : Nat → ClassId) (o : Nat) (a b sn h t : Nat → Nat) (r sb : Nat) (hs lf : Int32) (S M : pS) (n q : Nat) (hA : IA S n q) (v : Int32) (oq : Nat) (og : Nat → Int64) : Lx J l yL_droughtIn wsL_droughtIn (kR 7 152 1 6) D (kTY ty) [.ref o, .int v, .ref oq] [ppB o (a 0) (b 0) (sn 0) (h 0) r (t 0) sb hs lf, stB a S, lnB ty a S, quB ty a S, weB a S, miB ty a M, ouB ty oq og] (tDr S v = 0) [ppB o (a 0) (b 0) (sn 0) (h 0) r (t 0) sb hs lf, stB a S, lnB ty a S, quB ty a S, weB a S, miB ty a M, ouB ty oq (vp_updL og 0 ((pDrR S v).toInt64))] [ppB o (a 0) (b 0) (sn 0) (h 0) r (t 0) sb hs lf, stB a S, lnB ty a S, quB ty a S, weB a S, miB ty a M, ouB ty oq og] (if tDr S v = 2 then 2 else 1) 1 6 := by
  refine m_lx (cc := cL_droughtIn) (maxL := 4) (ret := (some .int)) (hh := [(0, 9, 12, 47), (0, 9, 15, 73)]) (by decide +kernel) rfl (Nat.le_of_ble_eq_true rfl) ?_
  intro p e s m below meth c A ls hx hb hml hr hlocks hown hts htab hnc hz hj w hl
  have hown : s.vm.findClass RL = some m.cls := hown
  have hl : lv_has ls 4 [(0, .ref o), (1, .int v), (2, .ref oq)] := hl
  refine lv_aload_n hx hb dL_droughtIn_0 rfl (lv_at hl 2 rfl) ?_
  refine lv_iconst (v := 0) hx hb dL_droughtIn_1 (by decide) ?_
  refine lv_aload_n hx hb dL_droughtIn_2 rfl (lv_at hl 0 rfl) ?_
  refine lv_iload_n hx hb dL_droughtIn_3 rfl (lv_at hl 1 rfl) ?_
  refine xc_i (As := [.int v]) (rest := [.int 0, .ref oq]) (Rs := [ouB ty oq og]) ⟨hx, hb, hml, hown, hts⟩ hz hj w (c_X8_droughtIn l hst D ty o a b sn h t r sb hs lf S M n q hA v) (cwV 1 hts gL_droughtIn_X8_droughtIn rfl rfl rfl ⟨rfl, hdN_X8_droughtIn⟩ ⟨Nat.le_of_ble_eq_true rfl, Nat.le_of_ble_eq_true rfl⟩) [0, 1, 2, 3, 4, 5, 6] (nB := 7) (by decide) rfl rfl 0 rfl rfl (ci := 12) rfl rfl rfl hl.1 rfl (Nat.le_of_ble_eq_true rfl) dL_droughtIn_4 ⟨(Nat.le_of_ble_eq_true rfl), (Nat.le_of_ble_eq_true rfl)⟩ (fun q9 H locs hok hth w => ?_) (fun H locs hok w => ?_)
  · by_cases ht : tDr S v = 2
    · rw [if_pos ht] at hth
      refine l_c2 hown htab (by decide) (hts _ (List.mem_of_getElem? (i := 1) rfl)) hnc.2.2.2.1 (by decide) (by decide) (hnc.1.use 1 rfl) (hz.1.1.use _ xk_NSE) hth ?_
      refine lv_astore_n (lv' := [(3, .ref q9), (0, .ref o), (1, .int v), (2, .ref oq)]) hx hb dL_droughtIn_15 rfl hl (by decide) rfl (fun ls hl => ?_)
      refine lv_iconst (v := 2) hx hb dL_droughtIn_16 (by decide) ?_
      exact l_end false hx hb hr hlocks w (Or.inr ⟨rfl, hok, (if_pos ht).symm⟩) dL_droughtIn_17 (Nat.le_of_ble_eq_true rfl) (Nat.le_of_ble_eq_true rfl)
    · rw [if_neg ht] at hth
      refine l_c1 hown htab (by decide) (by decide) (hts _ (List.mem_of_getElem? (i := 1) rfl)) (hz.1.1.use _ xk_IAE) hth ?_
      refine lv_astore_n (lv' := [(3, .ref q9), (0, .ref o), (1, .int v), (2, .ref oq)]) hx hb dL_droughtIn_12 rfl hl (by decide) rfl (fun ls hl => ?_)
      refine lv_iconst (v := 1) hx hb dL_droughtIn_13 (by decide) ?_
      exact l_end false hx hb hr hlocks w (Or.inr ⟨rfl, hok, (if_neg ht).symm⟩) dL_droughtIn_14 (Nat.le_of_ble_eq_true rfl) (Nat.le_of_ble_eq_true rfl)
  · refine lv_i2l (v := ((pDrR S v)).toInt64) hx hb dL_droughtIn_7 rfl ?_
    refine r_last hx hb w 6 0 rfl rfl 5 rfl 0 (by decide) (Nat.le_of_ble_eq_true rfl) rfl (ouB ty oq (vp_updL og 0 ((pDrR S v).toInt64))) rfl [ppB o (a 0) (b 0) (sn 0) (h 0) r (t 0) sb hs lf, stB a S, lnB ty a S, quB ty a S, weB a S, miB ty a M, ouB ty oq (vp_updL og 0 ((pDrR S v).toInt64))] rfl dL_droughtIn_8 (fun H locs w => ?_)
    refine lv_goto (tgt := 18) hx hb dL_droughtIn_9 (by decide) ?_
    refine lv_iconst (v := 0) hx hb dL_droughtIn_18 (by decide) ?_
    exact l_end true hx hb hr hlocks w (Or.inl ⟨rfl, hok, rfl⟩) dL_droughtIn_19 (Nat.le_of_ble_eq_true rfl) (Nat.le_of_ble_eq_true rfl)
theorem hdN_L_droughtIn : yL_droughtIn.cls ≠ "java/lang/invoke/MethodHandle" ∧ yL_droughtIn.cls ≠ "java/lang/invoke/VarHandle" ∧ (parseMethodDescriptor yL_droughtIn.desc).map (fun d => d.parameters.length) = some 3 := by decide +kernel

set_option maxRecDepth 100000 in
set_option maxHeartbeats 4000000 in
theorem c_L_append (l : Launch) (hst : l.stackTraces = false) (J : Nat → Nat) (D : va_G) (ty : Nat → ClassId) (o : Nat) (a b sn h t : Nat → Nat) (r sb : Nat) (hs lf : Int32) (z : Nat) (hz60 : z ≤ 60) (cn : Int32) (ch le nu : Nat → Int32) (v : Int32) (hv : vp_nar .char v = v) (oq : Nat) (og : Nat → Int64) : Lx J l yL_append wsL_append (kR 7 151 1 6) D (kTY ty) [.ref o, .int v, .ref oq] [ppB o (a 0) (b 0) (sn 0) (h 0) r (t 0) sb hs lf, txB ty t (nI z) cn ch le nu, ouB ty oq og] (z < 60) [ppB o (a 0) (b 0) (sn 0) (h 0) r (t 0) sb hs lf, txB ty t (nI (z + 1)) cn (upd ch z v) le nu, ouB ty oq (vp_updL og 0 ((nI (z + 1)).toInt64))] [ppB o (a 0) (b 0) (sn 0) (h 0) r (t 0) sb hs lf, txB ty t (nI z) cn ch le nu, ouB ty oq og] 1 1 6 := by
  refine m_lx (cc := cL_append) (maxL := 4) (ret := (some .int)) (hh := [(0, 9, 12, 88)]) (by decide +kernel) rfl (Nat.le_of_ble_eq_true rfl) ?_
  intro p e s m below meth c A ls hx hb hml hr hlocks hown hts htab hnc hz hj w hl
  have hown : s.vm.findClass RL = some m.cls := hown
  have hl : lv_has ls 4 [(0, .ref o), (1, .int v), (2, .ref oq)] := hl
  refine lv_aload_n hx hb dL_append_0 rfl (lv_at hl 2 rfl) ?_
  refine lv_iconst (v := 0) hx hb dL_append_1 (by decide) ?_
  refine lv_aload_n hx hb dL_append_2 rfl (lv_at hl 0 rfl) ?_
  refine lv_iload_n hx hb dL_append_3 rfl (lv_at hl 1 rfl) ?_
  refine xc_i (As := [.int v]) (rest := [.int 0, .ref oq]) (Rs := [ouB ty oq og]) ⟨hx, hb, hml, hown, hts⟩ hz hj w (c_X8_append l hst D ty o a b sn h t r sb hs lf z hz60 cn ch le nu v hv) (cwV 1 hts gL_append_X8_append rfl rfl rfl ⟨rfl, hdN_X8_append⟩ ⟨Nat.le_of_ble_eq_true rfl, Nat.le_of_ble_eq_true rfl⟩) [0, 1, 2] (nB := 3) (by decide) rfl rfl 0 rfl rfl (ci := 12) rfl rfl rfl hl.1 rfl (Nat.le_of_ble_eq_true rfl) dL_append_4 ⟨(Nat.le_of_ble_eq_true rfl), (Nat.le_of_ble_eq_true rfl)⟩ (fun q9 H locs hok hth w => ?_) (fun H locs hok w => ?_)
  · refine l_c1 hown htab (by decide) (by decide) (hts _ (List.mem_of_getElem? (i := 1) rfl)) (hz.1.1.use _ xk_ISE) hth ?_
    refine lv_astore_n (lv' := [(3, .ref q9), (0, .ref o), (1, .int v), (2, .ref oq)]) hx hb dL_append_12 rfl hl (by decide) rfl (fun ls hl => ?_)
    refine lv_iconst (v := 1) hx hb dL_append_13 (by decide) ?_
    exact l_end false hx hb hr hlocks w (Or.inr ⟨rfl, hok, rfl⟩) dL_append_14 (Nat.le_of_ble_eq_true rfl) (Nat.le_of_ble_eq_true rfl)
  · refine lv_i2l (v := ((nI (z + 1))).toInt64) hx hb dL_append_7 rfl ?_
    refine r_last hx hb w 2 0 rfl rfl 5 rfl 0 (by decide) (Nat.le_of_ble_eq_true rfl) rfl (ouB ty oq (vp_updL og 0 ((nI (z + 1)).toInt64))) rfl [ppB o (a 0) (b 0) (sn 0) (h 0) r (t 0) sb hs lf, txB ty t (nI (z + 1)) cn (upd ch z v) le nu, ouB ty oq (vp_updL og 0 ((nI (z + 1)).toInt64))] rfl dL_append_8 (fun H locs w => ?_)
    refine lv_goto (tgt := 15) hx hb dL_append_9 (by decide) ?_
    refine lv_iconst (v := 0) hx hb dL_append_15 (by decide) ?_
    exact l_end true hx hb hr hlocks w (Or.inl ⟨rfl, hok, rfl⟩) dL_append_16 (Nat.le_of_ble_eq_true rfl) (Nat.le_of_ble_eq_true rfl)
theorem hdN_L_append : yL_append.cls ≠ "java/lang/invoke/MethodHandle" ∧ yL_append.cls ≠ "java/lang/invoke/VarHandle" ∧ (parseMethodDescriptor yL_append.desc).map (fun d => d.parameters.length) = some 3 := by decide +kernel

set_option maxRecDepth 100000 in
set_option maxHeartbeats 4000000 in
theorem c_L_commands (l : Launch) (hst : l.stackTraces = false) (J : Nat → Nat) (D : va_G) (ty : Nat → ClassId) (o : Nat) (a b sn h t : Nat → Nat) (ha : Nat → Nat → Nat) (HX : Nat → pX) (r sb : Nat) (hs lf f0 f1 f2 f3 sz : Int32) (nx : Nat) (hnx : nx < 8) (S M : pS) (B : Nat) (hB : B + 2000 < 10 ^ 7) (hV : IV B (S, M)) (V U : pS) (z : Nat) (hz60 : z ≤ 60) (cn : Int32) (ch le nu : pS) (hch : ∀ k, k < z → vp_nar .char (ch k) = ch k) (oq : Nat) (og : Nat → Int64) : Lx J l yL_commands wsL_commands (kR 7 197 1 6) D (kTY ty) [.ref o, .ref oq] [ppB o (a 0) (b 0) (sn 0) (h 0) r (t 0) sb hs lf, rfB r f0 f1 f2 f3, stB a S, lnB ty a S, quB ty a S, weB a S, miB ty a M, stB b V, lnB ty b V, quB ty b V, weB b V, miB ty b U, txB ty t (nI z) cn ch le nu, hiB ty h ha sz (nI nx), stF ty (ha 0) (HX 0), stF ty (ha 1) (HX 1), stF ty (ha 2) (HX 2), stF ty (ha 3) (HX 3), stF ty (ha 4) (HX 4), stF ty (ha 5) (HX 5), stF ty (ha 6) (HX 6), stF ty (ha 7) (HX 7), ouB ty oq og] ((clR ch z z 0 0 0 le nu).1 = -1 ∧ (cG (clR ch z z 0 0 0 le nu).2.2.1 (clR ch z z 0 0 0 le nu).2.2.2 (clR ch z z 0 0 0 le nu).2.1 0 (S, M)).1.1 = 0) [ppB o (a 0) (b 0) (sn 0) (h 0) r (t 0) sb hs ((clR ch z z 0 0 0 le nu).1), rfB r f0 f1 f2 0, stB a ((cG (clR ch z z 0 0 0 le nu).2.2.1 (clR ch z z 0 0 0 le nu).2.2.2 (clR ch z z 0 0 0 le nu).2.1 0 (S, M)).2.2.1), lnB ty a ((cG (clR ch z z 0 0 0 le nu).2.2.1 (clR ch z z 0 0 0 le nu).2.2.2 (clR ch z z 0 0 0 le nu).2.1 0 (S, M)).2.2.1), quB ty a ((cG (clR ch z z 0 0 0 le nu).2.2.1 (clR ch z z 0 0 0 le nu).2.2.2 (clR ch z z 0 0 0 le nu).2.1 0 (S, M)).2.2.1), weB a ((cG (clR ch z z 0 0 0 le nu).2.2.1 (clR ch z z 0 0 0 le nu).2.2.2 (clR ch z z 0 0 0 le nu).2.1 0 (S, M)).2.2.1), miB ty a ((cG (clR ch z z 0 0 0 le nu).2.2.1 (clR ch z z 0 0 0 le nu).2.2.2 (clR ch z z 0 0 0 le nu).2.1 0 (S, M)).2.2.2), stB b S, lnB ty b S, quB ty b S, weB b S, miB ty b M, txB ty t 0 (nI (clR ch z z 0 0 0 le nu).2.1) ch ((clR ch z z 0 0 0 le nu).2.2.1) ((clR ch z z 0 0 0 le nu).2.2.2), hiB ty h ha (jmin 8 (sz + 1)) (nI ((nx + 1) % 8)), stF ty (ha 0) (va_up HX nx (S, M) 0), stF ty (ha 1) (va_up HX nx (S, M) 1), stF ty (ha 2) (va_up HX nx (S, M) 2), stF ty (ha 3) (va_up HX nx (S, M) 3), stF ty (ha 4) (va_up HX nx (S, M) 4), stF ty (ha 5) (va_up HX nx (S, M) 5), stF ty (ha 6) (va_up HX nx (S, M) 6), stF ty (ha 7) (va_up HX nx (S, M) 7), ouB ty oq (vp_updL og 0 ((nI ((clR ch z z 0 0 0 le nu).2.1)).toInt64))] [ppB o (a 0) (b 0) (sn 0) (h 0) r (t 0) sb hs ((clR ch z z 0 0 0 le nu).1), rfB r (rR (clR ch z z 0 0 0 le nu).1 (cG (clR ch z z 0 0 0 le nu).2.2.1 (clR ch z z 0 0 0 le nu).2.2.2 (clR ch z z 0 0 0 le nu).2.1 0 (S, M)).1.1 f0) (rR (clR ch z z 0 0 0 le nu).1 (cG (clR ch z z 0 0 0 le nu).2.2.1 (clR ch z z 0 0 0 le nu).2.2.2 (clR ch z z 0 0 0 le nu).2.1 0 (S, M)).1.2 f1) (rR (clR ch z z 0 0 0 le nu).1 (nI ((cG (clR ch z z 0 0 0 le nu).2.2.1 (clR ch z z 0 0 0 le nu).2.2.2 (clR ch z z 0 0 0 le nu).2.1 0 (S, M)).2.1 - 1)) f2) (rR (clR ch z z 0 0 0 le nu).1 0 f3), stB a S, lnB ty a S, quB ty a S, weB a S, miB ty a M, stB b (rR (clR ch z z 0 0 0 le nu).1 S V), lnB ty b (rR (clR ch z z 0 0 0 le nu).1 S V), quB ty b (rR (clR ch z z 0 0 0 le nu).1 S V), weB b (rR (clR ch z z 0 0 0 le nu).1 S V), miB ty b (rR (clR ch z z 0 0 0 le nu).1 M U), txB ty t 0 (nI (clR ch z z 0 0 0 le nu).2.1) ch ((clR ch z z 0 0 0 le nu).2.2.1) ((clR ch z z 0 0 0 le nu).2.2.2), hiB ty h ha sz (nI nx), stF ty (ha 0) (HX 0), stF ty (ha 1) (HX 1), stF ty (ha 2) (HX 2), stF ty (ha 3) (HX 3), stF ty (ha 4) (HX 4), stF ty (ha 5) (HX 5), stF ty (ha 6) (HX 6), stF ty (ha 7) (HX 7), ouB ty oq og] (if (clR ch z z 0 0 0 le nu).1 = -1 then 2 else 1) 1 6 := by
  refine m_lx (cc := cL_commands) (maxL := 3) (ret := (some .int)) (hh := [(0, 8, 11, 47), (0, 8, 14, 13)]) (by decide +kernel) rfl (Nat.le_of_ble_eq_true rfl) ?_
  intro p e s m below meth c A ls hx hb hml hr hlocks hown hts htab hnc hz hj w hl
  have hown : s.vm.findClass RL = some m.cls := hown
  have hl : lv_has ls 3 [(0, .ref o), (1, .ref oq)] := hl
  refine lv_aload_n hx hb dL_commands_0 rfl (lv_at hl 1 rfl) ?_
  refine lv_iconst (v := 0) hx hb dL_commands_1 (by decide) ?_
  refine lv_aload_n hx hb dL_commands_2 rfl (lv_at hl 0 rfl) ?_
  refine xc_i (As := []) (rest := [.int 0, .ref oq]) (Rs := [ouB ty oq og]) ⟨hx, hb, hml, hown, hts⟩ hz hj w (c_X8_commands l hst D ty o a b sn h t ha HX r sb hs lf f0 f1 f2 f3 sz nx hnx S M B hB hV V U z hz60 cn ch le nu hch) (cwV 0 hts gL_commands_X8_commands rfl rfl rfl ⟨rfl, hdN_X8_commands⟩ ⟨Nat.le_of_ble_eq_true rfl, Nat.le_of_ble_eq_true rfl⟩) [0, 1, 2, 3, 4, 5, 6, 7, 8, 9, 10, 11, 12, 13, 14, 15, 16, 17, 18, 19, 20, 21, 22] (nB := 23) (by decide) rfl rfl 0 rfl rfl (ci := 12) rfl rfl rfl hl.1 rfl (Nat.le_of_ble_eq_true rfl) dL_commands_3 ⟨(Nat.le_of_ble_eq_true rfl), (Nat.le_of_ble_eq_true rfl)⟩ (fun q9 H locs hok hth w => ?_) (fun H locs hok w => ?_)
  · by_cases ht : (clR ch z z 0 0 0 le nu).1 = -1
    · rw [if_pos ht] at hth
      refine l_c2 hown htab (by decide) (hts _ (List.mem_of_getElem? (i := 1) rfl)) hnc.2.2.2.2.1 (by decide) (by decide) (hnc.1.use 2 rfl) (hz.1.1.use _ xk_UOE) hth ?_
      refine lv_astore_n (lv' := [(2, .ref q9), (0, .ref o), (1, .ref oq)]) hx hb dL_commands_14 rfl hl (by decide) rfl (fun ls hl => ?_)
      refine lv_iconst (v := 2) hx hb dL_commands_15 (by decide) ?_
      exact l_end false hx hb hr hlocks w (Or.inr ⟨rfl, hok, (if_pos ht).symm⟩) dL_commands_16 (Nat.le_of_ble_eq_true rfl) (Nat.le_of_ble_eq_true rfl)
    · rw [if_neg ht] at hth
      refine l_c1 hown htab (by decide) (by decide) (hts _ (List.mem_of_getElem? (i := 1) rfl)) (hz.1.1.use _ xk_IAE) hth ?_
      refine lv_astore_n (lv' := [(2, .ref q9), (0, .ref o), (1, .ref oq)]) hx hb dL_commands_11 rfl hl (by decide) rfl (fun ls hl => ?_)
      refine lv_iconst (v := 1) hx hb dL_commands_12 (by decide) ?_
      exact l_end false hx hb hr hlocks w (Or.inr ⟨rfl, hok, (if_neg ht).symm⟩) dL_commands_13 (Nat.le_of_ble_eq_true rfl) (Nat.le_of_ble_eq_true rfl)
  · refine lv_i2l (v := ((nI ((clR ch z z 0 0 0 le nu).2.1))).toInt64) hx hb dL_commands_6 rfl ?_
    refine r_last hx hb w 22 0 rfl rfl 5 rfl 0 (by decide) (Nat.le_of_ble_eq_true rfl) rfl (ouB ty oq (vp_updL og 0 ((nI ((clR ch z z 0 0 0 le nu).2.1)).toInt64))) rfl [ppB o (a 0) (b 0) (sn 0) (h 0) r (t 0) sb hs ((clR ch z z 0 0 0 le nu).1), rfB r f0 f1 f2 0, stB a ((cG (clR ch z z 0 0 0 le nu).2.2.1 (clR ch z z 0 0 0 le nu).2.2.2 (clR ch z z 0 0 0 le nu).2.1 0 (S, M)).2.2.1), lnB ty a ((cG (clR ch z z 0 0 0 le nu).2.2.1 (clR ch z z 0 0 0 le nu).2.2.2 (clR ch z z 0 0 0 le nu).2.1 0 (S, M)).2.2.1), quB ty a ((cG (clR ch z z 0 0 0 le nu).2.2.1 (clR ch z z 0 0 0 le nu).2.2.2 (clR ch z z 0 0 0 le nu).2.1 0 (S, M)).2.2.1), weB a ((cG (clR ch z z 0 0 0 le nu).2.2.1 (clR ch z z 0 0 0 le nu).2.2.2 (clR ch z z 0 0 0 le nu).2.1 0 (S, M)).2.2.1), miB ty a ((cG (clR ch z z 0 0 0 le nu).2.2.1 (clR ch z z 0 0 0 le nu).2.2.2 (clR ch z z 0 0 0 le nu).2.1 0 (S, M)).2.2.2), stB b S, lnB ty b S, quB ty b S, weB b S, miB ty b M, txB ty t 0 (nI (clR ch z z 0 0 0 le nu).2.1) ch ((clR ch z z 0 0 0 le nu).2.2.1) ((clR ch z z 0 0 0 le nu).2.2.2), hiB ty h ha (jmin 8 (sz + 1)) (nI ((nx + 1) % 8)), stF ty (ha 0) (va_up HX nx (S, M) 0), stF ty (ha 1) (va_up HX nx (S, M) 1), stF ty (ha 2) (va_up HX nx (S, M) 2), stF ty (ha 3) (va_up HX nx (S, M) 3), stF ty (ha 4) (va_up HX nx (S, M) 4), stF ty (ha 5) (va_up HX nx (S, M) 5), stF ty (ha 6) (va_up HX nx (S, M) 6), stF ty (ha 7) (va_up HX nx (S, M) 7), ouB ty oq (vp_updL og 0 ((nI ((clR ch z z 0 0 0 le nu).2.1)).toInt64))] rfl dL_commands_7 (fun H locs w => ?_)
    refine lv_goto (tgt := 17) hx hb dL_commands_8 (by decide) ?_
    refine lv_iconst (v := 0) hx hb dL_commands_17 (by decide) ?_
    exact l_end true hx hb hr hlocks w (Or.inl ⟨rfl, hok, rfl⟩) dL_commands_18 (Nat.le_of_ble_eq_true rfl) (Nat.le_of_ble_eq_true rfl)
theorem hdN_L_commands : yL_commands.cls ≠ "java/lang/invoke/MethodHandle" ∧ yL_commands.cls ≠ "java/lang/invoke/VarHandle" ∧ (parseMethodDescriptor yL_commands.desc).map (fun d => d.parameters.length) = some 2 := by decide +kernel

set_option maxRecDepth 100000 in
set_option maxHeartbeats 4000000 in
theorem c_L_reason (l : Launch) (hst : l.stackTraces = false) (J : Nat → Nat) (D : va_G) (ty : Nat → ClassId) (o : Nat) (a b sn h t : Nat → Nat) (r sb : Nat) (hs lf f0 f1 f2 f3 v : Int32) (oq : Nat) (og : Nat → Int64) : Lx J l yL_reason wsL_reason (kR 7 151 1 6) D (kTY ty) [.ref o, .int v, .ref oq] [ppB o (a 0) (b 0) (sn 0) (h 0) r (t 0) sb hs lf, rfB r f0 f1 f2 f3, ouB ty oq og] (tReason (rsF f0 f1 f2) v = 0) [ppB o (a 0) (b 0) (sn 0) (h 0) r (t 0) sb hs lf, rfB r f0 f1 f2 f3, ouB ty oq (vp_updL og 0 ((vReason (rsF f0 f1 f2) v).toInt64))] [ppB o (a 0) (b 0) (sn 0) (h 0) r (t 0) sb hs lf, rfB r f0 f1 f2 f3, ouB ty oq og] (if tReason (rsF f0 f1 f2) v = 2 then 2 else 1) 1 6 := by
  refine m_lx (cc := cL_reason) (maxL := 4) (ret := (some .int)) (hh := [(0, 9, 12, 47), (0, 9, 15, 73)]) (by decide +kernel) rfl (Nat.le_of_ble_eq_true rfl) ?_
  intro p e s m below meth c A ls hx hb hml hr hlocks hown hts htab hnc hz hj w hl
  have hown : s.vm.findClass RL = some m.cls := hown
  have hl : lv_has ls 4 [(0, .ref o), (1, .int v), (2, .ref oq)] := hl
  refine lv_aload_n hx hb dL_reason_0 rfl (lv_at hl 2 rfl) ?_
  refine lv_iconst (v := 0) hx hb dL_reason_1 (by decide) ?_
  refine lv_aload_n hx hb dL_reason_2 rfl (lv_at hl 0 rfl) ?_
  refine lv_iload_n hx hb dL_reason_3 rfl (lv_at hl 1 rfl) ?_
  refine xc_i (As := [.int v]) (rest := [.int 0, .ref oq]) (Rs := [ouB ty oq og]) ⟨hx, hb, hml, hown, hts⟩ hz hj w (c_X8_reason l hst D ty o a b sn h t r sb hs lf f0 f1 f2 f3 v) (cwV 1 hts gL_reason_X8_reason rfl rfl rfl ⟨rfl, hdN_X8_reason⟩ ⟨Nat.le_of_ble_eq_true rfl, Nat.le_of_ble_eq_true rfl⟩) [0, 1, 2] (nB := 3) (by decide) rfl rfl 0 rfl rfl (ci := 12) rfl rfl rfl hl.1 rfl (Nat.le_of_ble_eq_true rfl) dL_reason_4 ⟨(Nat.le_of_ble_eq_true rfl), (Nat.le_of_ble_eq_true rfl)⟩ (fun q9 H locs hok hth w => ?_) (fun H locs hok w => ?_)
  · by_cases ht : tReason (rsF f0 f1 f2) v = 2
    · rw [if_pos ht] at hth
      refine l_c2 hown htab (by decide) (hts _ (List.mem_of_getElem? (i := 1) rfl)) hnc.2.2.2.1 (by decide) (by decide) (hnc.1.use 1 rfl) (hz.1.1.use _ xk_NSE) hth ?_
      refine lv_astore_n (lv' := [(3, .ref q9), (0, .ref o), (1, .int v), (2, .ref oq)]) hx hb dL_reason_15 rfl hl (by decide) rfl (fun ls hl => ?_)
      refine lv_iconst (v := 2) hx hb dL_reason_16 (by decide) ?_
      exact l_end false hx hb hr hlocks w (Or.inr ⟨rfl, hok, (if_pos ht).symm⟩) dL_reason_17 (Nat.le_of_ble_eq_true rfl) (Nat.le_of_ble_eq_true rfl)
    · rw [if_neg ht] at hth
      refine l_c1 hown htab (by decide) (by decide) (hts _ (List.mem_of_getElem? (i := 1) rfl)) (hz.1.1.use _ xk_IAE) hth ?_
      refine lv_astore_n (lv' := [(3, .ref q9), (0, .ref o), (1, .int v), (2, .ref oq)]) hx hb dL_reason_12 rfl hl (by decide) rfl (fun ls hl => ?_)
      refine lv_iconst (v := 1) hx hb dL_reason_13 (by decide) ?_
      exact l_end false hx hb hr hlocks w (Or.inr ⟨rfl, hok, (if_neg ht).symm⟩) dL_reason_14 (Nat.le_of_ble_eq_true rfl) (Nat.le_of_ble_eq_true rfl)
  · refine lv_i2l (v := ((vReason (rsF f0 f1 f2) v)).toInt64) hx hb dL_reason_7 rfl ?_
    refine r_last hx hb w 2 0 rfl rfl 5 rfl 0 (by decide) (Nat.le_of_ble_eq_true rfl) rfl (ouB ty oq (vp_updL og 0 ((vReason (rsF f0 f1 f2) v).toInt64))) rfl [ppB o (a 0) (b 0) (sn 0) (h 0) r (t 0) sb hs lf, rfB r f0 f1 f2 f3, ouB ty oq (vp_updL og 0 ((vReason (rsF f0 f1 f2) v).toInt64))] rfl dL_reason_8 (fun H locs w => ?_)
    refine lv_goto (tgt := 18) hx hb dL_reason_9 (by decide) ?_
    refine lv_iconst (v := 0) hx hb dL_reason_18 (by decide) ?_
    exact l_end true hx hb hr hlocks w (Or.inl ⟨rfl, hok, rfl⟩) dL_reason_19 (Nat.le_of_ble_eq_true rfl) (Nat.le_of_ble_eq_true rfl)
theorem hdN_L_reason : yL_reason.cls ≠ "java/lang/invoke/MethodHandle" ∧ yL_reason.cls ≠ "java/lang/invoke/VarHandle" ∧ (parseMethodDescriptor yL_reason.desc).map (fun d => d.parameters.length) = some 3 := by decide +kernel

set_option maxRecDepth 100000 in
set_option maxHeartbeats 4000000 in
theorem c_L_line (l : Launch) (hst : l.stackTraces = false) (J : Nat → Nat) (D : va_G) (ty : Nat → ClassId) (o : Nat) (a b sn h t : Nat → Nat) (r sb va : Nat) (hs lf : Int32) (S M : pS) (mm x : Nat) (hm0 : M 0 = nI mm) (hm1 : M 1 = nI x) (hxx : x < 20) (hmm : mm ≤ 20) (hR : ∀ j, j < mm → ∃ kd dd da db, mEn M ((x + 20 - mm + j) % 20) kd dd da db ∧ lnS S j = lnT kd dd da db) (v ml : Int32) (n : Nat) (hn31 : n < 2 ^ 31) (f : pS) (oq : Nat) (og : Nat → Int64) : Lx J l yL_line wsL_line (kR 7 192 1 6) D (kTY ty) [.ref o, .int v, .ref oq] [ppB o (a 0) (b 0) (sn 0) (h 0) r (t 0) sb hs lf, stB a S, lnB ty a S, quB ty a S, weB a S, miB ty a M, soB sb va ml n, baB ty va f, ouB ty oq og] (t1 (pHas v mm) = 0) [ppB o (a 0) (b 0) (sn 0) (h 0) r (t 0) sb hs lf, stB a S, lnB ty a S, quB ty a S, weB a S, miB ty a M, soB sb va (if n = 0 then ml else 1) ((lnS S (cN v)).length), baB ty va (putL f 0 (lnS S (cN v))), ouB ty oq (vp_updL og 0 ((nI ((lnS S (cN v)).length)).toInt64))] [ppB o (a 0) (b 0) (sn 0) (h 0) r (t 0) sb hs lf, stB a S, lnB ty a S, quB ty a S, weB a S, miB ty a M, soB sb va ml n, baB ty va f, ouB ty oq og] 1 1 6 := by
  refine m_lx (cc := cL_line) (maxL := 4) (ret := (some .int)) (hh := [(0, 9, 12, 45)]) (by decide +kernel) rfl (Nat.le_of_ble_eq_true rfl) ?_
  intro p e s m below meth c A ls hx hb hml hr hlocks hown hts htab hnc hz hj w hl
  have hown : s.vm.findClass RL = some m.cls := hown
  have hl : lv_has ls 4 [(0, .ref o), (1, .int v), (2, .ref oq)] := hl
  refine lv_aload_n hx hb dL_line_0 rfl (lv_at hl 2 rfl) ?_
  refine lv_iconst (v := 0) hx hb dL_line_1 (by decide) ?_
  refine lv_aload_n hx hb dL_line_2 rfl (lv_at hl 0 rfl) ?_
  refine lv_iload_n hx hb dL_line_3 rfl (lv_at hl 1 rfl) ?_
  refine xc_ji (As := [.int v]) (rest := [.int 0, .ref oq]) (Rs := [ouB ty oq og]) ⟨hx, hb, hml, hown, hts⟩ hz hj w (c_X8_line l J hst D ty o a b sn h t r sb va hs lf S M mm x hm0 hm1 hxx hmm hR v ml n hn31 f) (cwV 1 hts gL_line_X8_line rfl rfl rfl ⟨rfl, hdN_X8_line⟩ ⟨Nat.le_of_ble_eq_true rfl, Nat.le_of_ble_eq_true rfl⟩) [0, 1, 2, 3, 4, 5, 6, 7, 8] (nB := 9) (by decide) rfl rfl 0 rfl rfl (ci := 12) rfl rfl rfl hl.1 rfl (Nat.le_of_ble_eq_true rfl) dL_line_4 ⟨(Nat.le_of_ble_eq_true rfl), (Nat.le_of_ble_eq_true rfl)⟩ (fun q9 H locs hok hth w => ?_) (fun H locs hok w => ?_)
  · refine l_c1 hown htab (by decide) (by decide) (hts _ (List.mem_of_getElem? (i := 1) rfl)) (hz.1.1.use _ xk_IOB) hth ?_
    refine lv_astore_n (lv' := [(3, .ref q9), (0, .ref o), (1, .int v), (2, .ref oq)]) hx hb dL_line_12 rfl hl (by decide) rfl (fun ls hl => ?_)
    refine lv_iconst (v := 1) hx hb dL_line_13 (by decide) ?_
    exact l_end false hx hb hr hlocks w (Or.inr ⟨rfl, hok, rfl⟩) dL_line_14 (Nat.le_of_ble_eq_true rfl) (Nat.le_of_ble_eq_true rfl)
  · refine lv_i2l (v := ((nI ((lnS S (cN v)).length))).toInt64) hx hb dL_line_7 rfl ?_
    refine r_last hx hb w 8 0 rfl rfl 5 rfl 0 (by decide) (Nat.le_of_ble_eq_true rfl) rfl (ouB ty oq (vp_updL og 0 ((nI ((lnS S (cN v)).length)).toInt64))) rfl [ppB o (a 0) (b 0) (sn 0) (h 0) r (t 0) sb hs lf, stB a S, lnB ty a S, quB ty a S, weB a S, miB ty a M, soB sb va (if n = 0 then ml else 1) ((lnS S (cN v)).length), baB ty va (putL f 0 (lnS S (cN v))), ouB ty oq (vp_updL og 0 ((nI ((lnS S (cN v)).length)).toInt64))] rfl dL_line_8 (fun H locs w => ?_)
    refine lv_goto (tgt := 15) hx hb dL_line_9 (by decide) ?_
    refine lv_iconst (v := 0) hx hb dL_line_15 (by decide) ?_
    exact l_end true hx hb hr hlocks w (Or.inl ⟨rfl, hok, rfl⟩) dL_line_16 (Nat.le_of_ble_eq_true rfl) (Nat.le_of_ble_eq_true rfl)
theorem hdN_L_line : yL_line.cls ≠ "java/lang/invoke/MethodHandle" ∧ yL_line.cls ≠ "java/lang/invoke/VarHandle" ∧ (parseMethodDescriptor yL_line.desc).map (fun d => d.parameters.length) = some 3 := by decide +kernel

set_option maxRecDepth 100000 in
set_option maxHeartbeats 4000000 in
theorem c_L_character (l : Launch) (hst : l.stackTraces = false) (J : Nat → Nat) (D : va_G) (ty : Nat → ClassId) (o : Nat) (a b sn h t : Nat → Nat) (r sb va : Nat) (hs lf v ml : Int32) (n : Nat) (hn : n ≤ 16) (f : pS) (hf : ∀ i, i < n → ∃ q : Nat, q < 128 ∧ f i = nI q) (oq : Nat) (og : Nat → Int64) : Lx J l yL_character wsL_character (kR 7 151 1 6) D (kTY ty) [.ref o, .int v, .ref oq] [ppB o (a 0) (b 0) (sn 0) (h 0) r (t 0) sb hs lf, soB sb va ml n, baB ty va f, ouB ty oq og] (t1 (pHas v n) = 0) [ppB o (a 0) (b 0) (sn 0) (h 0) r (t 0) sb hs lf, soB sb va ml n, baB ty va f, ouB ty oq (vp_updL og 0 ((f (cN v)).toInt64))] [ppB o (a 0) (b 0) (sn 0) (h 0) r (t 0) sb hs lf, soB sb va ml n, baB ty va f, ouB ty oq og] 1 1 6 := by
  refine m_lx (cc := cL_character) (maxL := 4) (ret := (some .int)) (hh := [(0, 9, 12, 45)]) (by decide +kernel) rfl (Nat.le_of_ble_eq_true rfl) ?_
  intro p e s m below meth c A ls hx hb hml hr hlocks hown hts htab hnc hz hj w hl
  have hown : s.vm.findClass RL = some m.cls := hown
  have hl : lv_has ls 4 [(0, .ref o), (1, .int v), (2, .ref oq)] := hl
  refine lv_aload_n hx hb dL_character_0 rfl (lv_at hl 2 rfl) ?_
  refine lv_iconst (v := 0) hx hb dL_character_1 (by decide) ?_
  refine lv_aload_n hx hb dL_character_2 rfl (lv_at hl 0 rfl) ?_
  refine lv_iload_n hx hb dL_character_3 rfl (lv_at hl 1 rfl) ?_
  refine xc_ji (As := [.int v]) (rest := [.int 0, .ref oq]) (Rs := [ouB ty oq og]) ⟨hx, hb, hml, hown, hts⟩ hz hj w (c_X8_character l J hst D ty o a b sn h t r sb va hs lf v ml n hn f hf) (cwV 1 hts gL_character_X8_character rfl rfl rfl ⟨rfl, hdN_X8_character⟩ ⟨Nat.le_of_ble_eq_true rfl, Nat.le_of_ble_eq_true rfl⟩) [0, 1, 2, 3] (nB := 4) (by decide) rfl rfl 0 rfl rfl (ci := 12) rfl rfl rfl hl.1 rfl (Nat.le_of_ble_eq_true rfl) dL_character_4 ⟨(Nat.le_of_ble_eq_true rfl), (Nat.le_of_ble_eq_true rfl)⟩ (fun q9 H locs hok hth w => ?_) (fun H locs hok w => ?_)
  · refine l_c1 hown htab (by decide) (by decide) (hts _ (List.mem_of_getElem? (i := 1) rfl)) (hz.1.1.use _ xk_IOB) hth ?_
    refine lv_astore_n (lv' := [(3, .ref q9), (0, .ref o), (1, .int v), (2, .ref oq)]) hx hb dL_character_12 rfl hl (by decide) rfl (fun ls hl => ?_)
    refine lv_iconst (v := 1) hx hb dL_character_13 (by decide) ?_
    exact l_end false hx hb hr hlocks w (Or.inr ⟨rfl, hok, rfl⟩) dL_character_14 (Nat.le_of_ble_eq_true rfl) (Nat.le_of_ble_eq_true rfl)
  · refine lv_i2l (v := ((f (cN v))).toInt64) hx hb dL_character_7 rfl ?_
    refine r_last hx hb w 3 0 rfl rfl 5 rfl 0 (by decide) (Nat.le_of_ble_eq_true rfl) rfl (ouB ty oq (vp_updL og 0 ((f (cN v)).toInt64))) rfl [ppB o (a 0) (b 0) (sn 0) (h 0) r (t 0) sb hs lf, soB sb va ml n, baB ty va f, ouB ty oq (vp_updL og 0 ((f (cN v)).toInt64))] rfl dL_character_8 (fun H locs w => ?_)
    refine lv_goto (tgt := 15) hx hb dL_character_9 (by decide) ?_
    refine lv_iconst (v := 0) hx hb dL_character_15 (by decide) ?_
    exact l_end true hx hb hr hlocks w (Or.inl ⟨rfl, hok, rfl⟩) dL_character_16 (Nat.le_of_ble_eq_true rfl) (Nat.le_of_ble_eq_true rfl)
theorem hdN_L_character : yL_character.cls ≠ "java/lang/invoke/MethodHandle" ∧ yL_character.cls ≠ "java/lang/invoke/VarHandle" ∧ (parseMethodDescriptor yL_character.desc).map (fun d => d.parameters.length) = some 3 := by decide +kernel

set_option maxRecDepth 100000 in
set_option maxHeartbeats 4000000 in
theorem c_L_meanTemper (l : Launch) (hst : l.stackTraces = false) (J : Nat → Nat) (D : va_G) (ty : Nat → ClassId) (o : Nat) (a b sn h t : Nat → Nat) (r sb : Nat) (hs lf : Int32) (S M : pS) (n q : Nat) (hA : IA S n q) (oq : Nat) (og : Nat → UInt64) : Lx J l yL_meanTemper wsL_meanTemper (kR 7 150 1 6) D (kTY ty) [.ref o, .ref oq] [ppB o (a 0) (b 0) (sn 0) (h 0) r (t 0) sb hs lf, stB a S, lnB ty a S, quB ty a S, weB a S, miB ty a M, odB ty oq og] (tMean n = 0) [ppB o (a 0) (b 0) (sn 0) (h 0) r (t 0) sb hs lf, stB a S, lnB ty a S, quB ty a S, weB a S, miB ty a M, odB ty oq (vf_upd og 0 (FP.f2d (vMean S n)))] [ppB o (a 0) (b 0) (sn 0) (h 0) r (t 0) sb hs lf, stB a S, lnB ty a S, quB ty a S, weB a S, miB ty a M, odB ty oq og] 1 1 6 := by
  refine m_lx (cc := cL_meanTemper) (maxL := 3) (ret := (some .int)) (hh := [(0, 8, 11, 107)]) (by decide +kernel) rfl (Nat.le_of_ble_eq_true rfl) ?_
  intro p e s m below meth c A ls hx hb hml hr hlocks hown hts htab hnc hz hj w hl
  have hown : s.vm.findClass RL = some m.cls := hown
  have hl : lv_has ls 3 [(0, .ref o), (1, .ref oq)] := hl
  refine lv_aload_n hx hb dL_meanTemper_0 rfl (lv_at hl 1 rfl) ?_
  refine lv_iconst (v := 0) hx hb dL_meanTemper_1 (by decide) ?_
  refine lv_aload_n hx hb dL_meanTemper_2 rfl (lv_at hl 0 rfl) ?_
  refine xc_f (As := []) (rest := [.int 0, .ref oq]) (Rs := [odB ty oq og]) ⟨hx, hb, hml, hown, hts⟩ hz hj w (c_X8_meanTemper l hst D ty o a b sn h t r sb hs lf S M n q hA) (cwV 0 hts gL_meanTemper_X8_meanTemper rfl rfl rfl ⟨rfl, hdN_X8_meanTemper⟩ ⟨Nat.le_of_ble_eq_true rfl, Nat.le_of_ble_eq_true rfl⟩) [0, 1, 2, 3, 4, 5, 6] (nB := 7) (by decide) rfl rfl 0 rfl rfl (ci := 12) rfl rfl rfl hl.1 rfl (Nat.le_of_ble_eq_true rfl) dL_meanTemper_3 ⟨(Nat.le_of_ble_eq_true rfl), (Nat.le_of_ble_eq_true rfl)⟩ (fun q9 H locs hok hth w => ?_) (fun H locs hok w => ?_)
  · refine l_c1 hown htab (by decide) (by decide) (hts _ (List.mem_of_getElem? (i := 1) rfl)) (hz.1.1.use _ xk_ARI) hth ?_
    refine lv_astore_n (lv' := [(2, .ref q9), (0, .ref o), (1, .ref oq)]) hx hb dL_meanTemper_11 rfl hl (by decide) rfl (fun ls hl => ?_)
    refine lv_iconst (v := 1) hx hb dL_meanTemper_12 (by decide) ?_
    exact l_end false hx hb hr hlocks w (Or.inr ⟨rfl, hok, rfl⟩) dL_meanTemper_13 (Nat.le_of_ble_eq_true rfl) (Nat.le_of_ble_eq_true rfl)
  · refine lv_f2d hx hb dL_meanTemper_6 (fl_w (vMean_n hA.1.2.1)) ?_
    refine r_dast hx hb w 6 0 rfl rfl 6 rfl 0 (by decide) (Nat.le_of_ble_eq_true rfl) rfl (odB ty oq (vf_upd og 0 (FP.f2d (vMean S n)))) rfl [ppB o (a 0) (b 0) (sn 0) (h 0) r (t 0) sb hs lf, stB a S, lnB ty a S, quB ty a S, weB a S, miB ty a M, odB ty oq (vf_upd og 0 (FP.f2d (vMean S n)))] rfl dL_meanTemper_7 (fun H locs w => ?_)
    refine lv_goto (tgt := 14) hx hb dL_meanTemper_8 (by decide) ?_
    refine lv_iconst (v := 0) hx hb dL_meanTemper_14 (by decide) ?_
    exact l_end true hx hb hr hlocks w (Or.inl ⟨rfl, hok, rfl⟩) dL_meanTemper_15 (Nat.le_of_ble_eq_true rfl) (Nat.le_of_ble_eq_true rfl)
theorem hdN_L_meanTemper : yL_meanTemper.cls ≠ "java/lang/invoke/MethodHandle" ∧ yL_meanTemper.cls ≠ "java/lang/invoke/VarHandle" ∧ (parseMethodDescriptor yL_meanTemper.desc).map (fun d => d.parameters.length) = some 2 := by decide +kernel

set_option maxRecDepth 100000 in
set_option maxHeartbeats 4000000 in
theorem c_L_share (l : Launch) (hst : l.stackTraces = false) (J : Nat → Nat) (D : va_G) (ty : Nat → ClassId) (o : Nat) (a b sn h t : Nat → Nat) (r sb : Nat) (hs lf : Int32) (S M : pS) (n q : Nat) (hA : IA S n q) (v : Int32) (oq : Nat) (og : Nat → UInt64) : Lx J l yL_share wsL_share (kR 7 151 1 6) D (kTY ty) [.ref o, .int v, .ref oq] [ppB o (a 0) (b 0) (sn 0) (h 0) r (t 0) sb hs lf, stB a S, lnB ty a S, quB ty a S, weB a S, miB ty a M, odB ty oq og] (tShare S n v = 0) [ppB o (a 0) (b 0) (sn 0) (h 0) r (t 0) sb hs lf, stB a S, lnB ty a S, quB ty a S, weB a S, miB ty a M, odB ty oq (vf_upd og 0 (vShare S v))] [ppB o (a 0) (b 0) (sn 0) (h 0) r (t 0) sb hs lf, stB a S, lnB ty a S, quB ty a S, weB a S, miB ty a M, odB ty oq og] (if tShare S n v = 2 then 2 else 1) 1 6 := by
  refine m_lx (cc := cL_share) (maxL := 4) (ret := (some .int)) (hh := [(0, 8, 11, 45), (0, 8, 14, 107)]) (by decide +kernel) rfl (Nat.le_of_ble_eq_true rfl) ?_
  intro p e s m below meth c A ls hx hb hml hr hlocks hown hts htab hnc hz hj w hl
  have hown : s.vm.findClass RL = some m.cls := hown
  have hl : lv_has ls 4 [(0, .ref o), (1, .int v), (2, .ref oq)] := hl
  refine lv_aload_n hx hb dL_share_0 rfl (lv_at hl 2 rfl) ?_
  refine lv_iconst (v := 0) hx hb dL_share_1 (by decide) ?_
  refine lv_aload_n hx hb dL_share_2 rfl (lv_at hl 0 rfl) ?_
  refine lv_iload_n hx hb dL_share_3 rfl (lv_at hl 1 rfl) ?_
  refine xc_d (As := [.int v]) (rest := [.int 0, .ref oq]) (Rs := [odB ty oq og]) ⟨hx, hb, hml, hown, hts⟩ hz hj w (c_X8_share l hst D ty o a b sn h t r sb hs lf S M n q hA v) (cwV 1 hts gL_share_X8_share rfl rfl rfl ⟨rfl, hdN_X8_share⟩ ⟨Nat.le_of_ble_eq_true rfl, Nat.le_of_ble_eq_true rfl⟩) [0, 1, 2, 3, 4, 5, 6] (nB := 7) (by decide) rfl rfl 0 rfl rfl (ci := 12) rfl rfl rfl hl.1 rfl (Nat.le_of_ble_eq_true rfl) dL_share_4 ⟨(Nat.le_of_ble_eq_true rfl), (Nat.le_of_ble_eq_true rfl)⟩ (fun q9 H locs hok hth w => ?_) (fun H locs hok w => ?_)
  · by_cases ht : tShare S n v = 2
    · rw [if_pos ht] at hth
      refine l_c2 hown htab (by decide) (hts _ (List.mem_of_getElem? (i := 1) rfl)) hnc.2.2.2.2.2 (by decide) (by decide) (hnc.1.use 3 rfl) (hz.1.1.use _ xk_ARI) hth ?_
      refine lv_astore_n (lv' := [(3, .ref q9), (0, .ref o), (1, .int v), (2, .ref oq)]) hx hb dL_share_14 rfl hl (by decide) rfl (fun ls hl => ?_)
      refine lv_iconst (v := 2) hx hb dL_share_15 (by decide) ?_
      exact l_end false hx hb hr hlocks w (Or.inr ⟨rfl, hok, (if_pos ht).symm⟩) dL_share_16 (Nat.le_of_ble_eq_true rfl) (Nat.le_of_ble_eq_true rfl)
    · rw [if_neg ht] at hth
      refine l_c1 hown htab (by decide) (by decide) (hts _ (List.mem_of_getElem? (i := 1) rfl)) (hz.1.1.use _ xk_IOB) hth ?_
      refine lv_astore_n (lv' := [(3, .ref q9), (0, .ref o), (1, .int v), (2, .ref oq)]) hx hb dL_share_11 rfl hl (by decide) rfl (fun ls hl => ?_)
      refine lv_iconst (v := 1) hx hb dL_share_12 (by decide) ?_
      exact l_end false hx hb hr hlocks w (Or.inr ⟨rfl, hok, (if_neg ht).symm⟩) dL_share_13 (Nat.le_of_ble_eq_true rfl) (Nat.le_of_ble_eq_true rfl)
  · refine r_dast hx hb w 6 0 rfl rfl 6 rfl 0 (by decide) (Nat.le_of_ble_eq_true rfl) rfl (odB ty oq (vf_upd og 0 (vShare S v))) rfl [ppB o (a 0) (b 0) (sn 0) (h 0) r (t 0) sb hs lf, stB a S, lnB ty a S, quB ty a S, weB a S, miB ty a M, odB ty oq (vf_upd og 0 (vShare S v))] rfl dL_share_7 (fun H locs w => ?_)
    refine lv_goto (tgt := 17) hx hb dL_share_8 (by decide) ?_
    refine lv_iconst (v := 0) hx hb dL_share_17 (by decide) ?_
    exact l_end true hx hb hr hlocks w (Or.inl ⟨rfl, hok, rfl⟩) dL_share_18 (Nat.le_of_ble_eq_true rfl) (Nat.le_of_ble_eq_true rfl)
theorem hdN_L_share : yL_share.cls ≠ "java/lang/invoke/MethodHandle" ∧ yL_share.cls ≠ "java/lang/invoke/VarHandle" ∧ (parseMethodDescriptor yL_share.desc).map (fun d => d.parameters.length) = some 3 := by decide +kernel

set_option maxRecDepth 100000 in
set_option maxHeartbeats 4000000 in
theorem c_L_account (l : Launch) (hst : l.stackTraces = false) (J : Nat → Nat) (D : va_G) (ty : Nat → ClassId) (o : Nat) (a b sn h t : Nat → Nat) (r sb : Nat) (hs lf : Int32) (S M : pS) (n q : Nat) (hA : IA S n q) (ha : Nat → Nat → Nat) (sz nx ln cn : Int32) (ch le nu : Nat → Int32) (hM0 : M 0 = S 122) (y : Int32) (oq : Nat) (og : Nat → Int64) : Lx J l yL_account wsL_account (kR 7 151 1 6) D (kTY ty) [.ref o, .int y, .ref oq] [ppB o (a 0) (b 0) (sn 0) (h 0) r (t 0) sb hs lf, stB a S, lnB ty a S, quB ty a S, weB a S, miB ty a M, hiB ty h ha sz nx, txB ty t ln cn ch le nu, ouB ty oq og] (t1 (pIn y 0 15) = 0) [ppB o (a 0) (b 0) (sn 0) (h 0) r (t 0) sb hs lf, stB a S, lnB ty a S, quB ty a S, weB a S, miB ty a M, hiB ty h ha sz nx, txB ty t ln cn ch le nu, ouB ty oq (vp_updL og 0 ((acV (acF sz ln) S y).toInt64))] [ppB o (a 0) (b 0) (sn 0) (h 0) r (t 0) sb hs lf, stB a S, lnB ty a S, quB ty a S, weB a S, miB ty a M, hiB ty h ha sz nx, txB ty t ln cn ch le nu, ouB ty oq og] 1 1 6 := by
  refine m_lx (cc := cL_account) (maxL := 4) (ret := (some .int)) (hh := [(0, 9, 12, 47)]) (by decide +kernel) rfl (Nat.le_of_ble_eq_true rfl) ?_
  intro p e s m below meth c A ls hx hb hml hr hlocks hown hts htab hnc hz hj w hl
  have hown : s.vm.findClass RL = some m.cls := hown
  have hl : lv_has ls 4 [(0, .ref o), (1, .int y), (2, .ref oq)] := hl
  refine lv_aload_n hx hb dL_account_0 rfl (lv_at hl 2 rfl) ?_
  refine lv_iconst (v := 0) hx hb dL_account_1 (by decide) ?_
  refine lv_aload_n hx hb dL_account_2 rfl (lv_at hl 0 rfl) ?_
  refine lv_iload_n hx hb dL_account_3 rfl (lv_at hl 1 rfl) ?_
  refine xc_i (As := [.int y]) (rest := [.int 0, .ref oq]) (Rs := [ouB ty oq og]) ⟨hx, hb, hml, hown, hts⟩ hz hj w (c_X8_account l hst D ty o a b sn h t r sb hs lf S M n q hA ha sz nx ln cn ch le nu hM0 y) (cwV 1 hts gL_account_X8_account rfl rfl rfl ⟨rfl, hdN_X8_account⟩ ⟨Nat.le_of_ble_eq_true rfl, Nat.le_of_ble_eq_true rfl⟩) [0, 1, 2, 3, 4, 5, 6, 7, 8] (nB := 9) (by decide) rfl rfl 0 rfl rfl (ci := 12) rfl rfl rfl hl.1 rfl (Nat.le_of_ble_eq_true rfl) dL_account_4 ⟨(Nat.le_of_ble_eq_true rfl), (Nat.le_of_ble_eq_true rfl)⟩ (fun q9 H locs hok hth w => ?_) (fun H locs hok w => ?_)
  · refine l_c1 hown htab (by decide) (by decide) (hts _ (List.mem_of_getElem? (i := 1) rfl)) (hz.1.1.use _ xk_IAE) hth ?_
    refine lv_astore_n (lv' := [(3, .ref q9), (0, .ref o), (1, .int y), (2, .ref oq)]) hx hb dL_account_12 rfl hl (by decide) rfl (fun ls hl => ?_)
    refine lv_iconst (v := 1) hx hb dL_account_13 (by decide) ?_
    exact l_end false hx hb hr hlocks w (Or.inr ⟨rfl, hok, rfl⟩) dL_account_14 (Nat.le_of_ble_eq_true rfl) (Nat.le_of_ble_eq_true rfl)
  · refine lv_i2l (v := ((acV (acF sz ln) S y)).toInt64) hx hb dL_account_7 rfl ?_
    refine r_last hx hb w 8 0 rfl rfl 5 rfl 0 (by decide) (Nat.le_of_ble_eq_true rfl) rfl (ouB ty oq (vp_updL og 0 ((acV (acF sz ln) S y).toInt64))) rfl [ppB o (a 0) (b 0) (sn 0) (h 0) r (t 0) sb hs lf, stB a S, lnB ty a S, quB ty a S, weB a S, miB ty a M, hiB ty h ha sz nx, txB ty t ln cn ch le nu, ouB ty oq (vp_updL og 0 ((acV (acF sz ln) S y).toInt64))] rfl dL_account_8 (fun H locs w => ?_)
    refine lv_goto (tgt := 15) hx hb dL_account_9 (by decide) ?_
    refine lv_iconst (v := 0) hx hb dL_account_15 (by decide) ?_
    exact l_end true hx hb hr hlocks w (Or.inl ⟨rfl, hok, rfl⟩) dL_account_16 (Nat.le_of_ble_eq_true rfl) (Nat.le_of_ble_eq_true rfl)
theorem hdN_L_account : yL_account.cls ≠ "java/lang/invoke/MethodHandle" ∧ yL_account.cls ≠ "java/lang/invoke/VarHandle" ∧ (parseMethodDescriptor yL_account.desc).map (fun d => d.parameters.length) = some 3 := by decide +kernel

set_option maxRecDepth 100000 in
set_option maxHeartbeats 4000000 in
theorem c_L_undo (l : Launch) (hst : l.stackTraces = false) (J : Nat → Nat) (D : va_G) (ty : Nat → ClassId) (o : Nat) (a b sn h t : Nat → Nat) (ha : Nat → Nat → Nat) (HX : Nat → pX) (r sb : Nat) (hs lf : Int32) (z nx : Nat) (hz8 : z ≤ 8) (hnx : nx < 8) (S M : pS) (hdr : ∀ k, k < 8 → (HX k).1 207 = 0 ∨ (HX k).1 207 = 1) (oq : Nat) (og : Nat → Int64) : Lx J l yL_undo wsL_undo (kR 7 150 1 6) D (kTY ty) [.ref o, .ref oq] [ppB o (a 0) (b 0) (sn 0) (h 0) r (t 0) sb hs lf, stB a S, lnB ty a S, quB ty a S, weB a S, miB ty a M, hiB ty h ha (nI z) (nI nx), stF ty (ha 0) (HX 0), stF ty (ha 1) (HX 1), stF ty (ha 2) (HX 2), stF ty (ha 3) (HX 3), stF ty (ha 4) (HX 4), stF ty (ha 5) (HX 5), stF ty (ha 6) (HX 6), stF ty (ha 7) (HX 7), ouB ty oq og] (0 < z) [ppB o (a 0) (b 0) (sn 0) (h 0) r (t 0) sb hs lf, stB a ((HX ((nx + 7) % 8)).1), lnB ty a ((HX ((nx + 7) % 8)).1), quB ty a ((HX ((nx + 7) % 8)).1), weB a ((HX ((nx + 7) % 8)).1), miB ty a ((HX ((nx + 7) % 8)).2), hiB ty h ha (nI (z - 1)) (nI ((nx + 7) % 8)), stF ty (ha 0) (HX 0), stF ty (ha 1) (HX 1), stF ty (ha 2) (HX 2), stF ty (ha 3) (HX 3), stF ty (ha 4) (HX 4), stF ty (ha 5) (HX 5), stF ty (ha 6) (HX 6), stF ty (ha 7) (HX 7), ouB ty oq (vp_updL og 0 ((nI (z - 1)).toInt64))] [ppB o (a 0) (b 0) (sn 0) (h 0) r (t 0) sb hs lf, stB a S, lnB ty a S, quB ty a S, weB a S, miB ty a M, hiB ty h ha (nI z) (nI nx), stF ty (ha 0) (HX 0), stF ty (ha 1) (HX 1), stF ty (ha 2) (HX 2), stF ty (ha 3) (HX 3), stF ty (ha 4) (HX 4), stF ty (ha 5) (HX 5), stF ty (ha 6) (HX 6), stF ty (ha 7) (HX 7), ouB ty oq og] 1 1 6 := by
  refine m_lx (cc := cL_undo) (maxL := 3) (ret := (some .int)) (hh := [(0, 8, 11, 88)]) (by decide +kernel) rfl (Nat.le_of_ble_eq_true rfl) ?_
  intro p e s m below meth c A ls hx hb hml hr hlocks hown hts htab hnc hz hj w hl
  have hown : s.vm.findClass RL = some m.cls := hown
  have hl : lv_has ls 3 [(0, .ref o), (1, .ref oq)] := hl
  refine lv_aload_n hx hb dL_undo_0 rfl (lv_at hl 1 rfl) ?_
  refine lv_iconst (v := 0) hx hb dL_undo_1 (by decide) ?_
  refine lv_aload_n hx hb dL_undo_2 rfl (lv_at hl 0 rfl) ?_
  refine xc_i (As := []) (rest := [.int 0, .ref oq]) (Rs := [ouB ty oq og]) ⟨hx, hb, hml, hown, hts⟩ hz hj w (c_X8_undo l hst D ty o a b sn h t ha HX r sb hs lf z nx hz8 hnx S M hdr) (cwV 0 hts gL_undo_X8_undo rfl rfl rfl ⟨rfl, hdN_X8_undo⟩ ⟨Nat.le_of_ble_eq_true rfl, Nat.le_of_ble_eq_true rfl⟩) [0, 1, 2, 3, 4, 5, 6, 7, 8, 9, 10, 11, 12, 13, 14, 15] (nB := 16) (by decide) rfl rfl 0 rfl rfl (ci := 12) rfl rfl rfl hl.1 rfl (Nat.le_of_ble_eq_true rfl) dL_undo_3 ⟨(Nat.le_of_ble_eq_true rfl), (Nat.le_of_ble_eq_true rfl)⟩ (fun q9 H locs hok hth w => ?_) (fun H locs hok w => ?_)
  · refine l_c1 hown htab (by decide) (by decide) (hts _ (List.mem_of_getElem? (i := 1) rfl)) (hz.1.1.use _ xk_ISE) hth ?_
    refine lv_astore_n (lv' := [(2, .ref q9), (0, .ref o), (1, .ref oq)]) hx hb dL_undo_11 rfl hl (by decide) rfl (fun ls hl => ?_)
    refine lv_iconst (v := 1) hx hb dL_undo_12 (by decide) ?_
    exact l_end false hx hb hr hlocks w (Or.inr ⟨rfl, hok, rfl⟩) dL_undo_13 (Nat.le_of_ble_eq_true rfl) (Nat.le_of_ble_eq_true rfl)
  · refine lv_i2l (v := ((nI (z - 1))).toInt64) hx hb dL_undo_6 rfl ?_
    refine r_last hx hb w 15 0 rfl rfl 5 rfl 0 (by decide) (Nat.le_of_ble_eq_true rfl) rfl (ouB ty oq (vp_updL og 0 ((nI (z - 1)).toInt64))) rfl [ppB o (a 0) (b 0) (sn 0) (h 0) r (t 0) sb hs lf, stB a ((HX ((nx + 7) % 8)).1), lnB ty a ((HX ((nx + 7) % 8)).1), quB ty a ((HX ((nx + 7) % 8)).1), weB a ((HX ((nx + 7) % 8)).1), miB ty a ((HX ((nx + 7) % 8)).2), hiB ty h ha (nI (z - 1)) (nI ((nx + 7) % 8)), stF ty (ha 0) (HX 0), stF ty (ha 1) (HX 1), stF ty (ha 2) (HX 2), stF ty (ha 3) (HX 3), stF ty (ha 4) (HX 4), stF ty (ha 5) (HX 5), stF ty (ha 6) (HX 6), stF ty (ha 7) (HX 7), ouB ty oq (vp_updL og 0 ((nI (z - 1)).toInt64))] rfl dL_undo_7 (fun H locs w => ?_)
    refine lv_goto (tgt := 14) hx hb dL_undo_8 (by decide) ?_
    refine lv_iconst (v := 0) hx hb dL_undo_14 (by decide) ?_
    exact l_end true hx hb hr hlocks w (Or.inl ⟨rfl, hok, rfl⟩) dL_undo_15 (Nat.le_of_ble_eq_true rfl) (Nat.le_of_ble_eq_true rfl)
theorem hdN_L_undo : yL_undo.cls ≠ "java/lang/invoke/MethodHandle" ∧ yL_undo.cls ≠ "java/lang/invoke/VarHandle" ∧ (parseMethodDescriptor yL_undo.desc).map (fun d => d.parameters.length) = some 2 := by decide +kernel

set_option maxRecDepth 100000 in
set_option maxHeartbeats 4000000 in
theorem c_L_restore (l : Launch) (hst : l.stackTraces = false) (J : Nat → Nat) (D : va_G) (ty : Nat → ClassId) (o : Nat) (a b sn h t : Nat → Nat) (r sb : Nat) (lf sz nx : Int32) (bb : Bool) (S M V U : pS) (hdr : V 207 = 0 ∨ V 207 = 1) (ha : Nat → Nat → Nat) (oq : Nat) (og : Nat → Int64) : Lx J l yL_restore wsL_restore (kR 7 150 1 6) D (kTY ty) [.ref o, .ref oq] [ppB o (a 0) (b 0) (sn 0) (h 0) r (t 0) sb (bI bb) lf, stB a S, lnB ty a S, quB ty a S, weB a S, miB ty a M, stB sn V, lnB ty sn V, quB ty sn V, weB sn V, miB ty sn U, hiB ty h ha sz nx, ouB ty oq og] (bb = true) [ppB o (a 0) (b 0) (sn 0) (h 0) r (t 0) sb (bI bb) lf, stB a V, lnB ty a V, quB ty a V, weB a V, miB ty a U, stB sn V, lnB ty sn V, quB ty sn V, weB sn V, miB ty sn U, hiB ty h ha 0 nx, ouB ty oq (vp_updL og 0 ((V 206).toInt64))] [ppB o (a 0) (b 0) (sn 0) (h 0) r (t 0) sb (bI bb) lf, stB a S, lnB ty a S, quB ty a S, weB a S, miB ty a M, stB sn V, lnB ty sn V, quB ty sn V, weB sn V, miB ty sn U, hiB ty h ha sz nx, ouB ty oq og] 1 1 6 := by
  refine m_lx (cc := cL_restore) (maxL := 3) (ret := (some .int)) (hh := [(0, 8, 11, 88)]) (by decide +kernel) rfl (Nat.le_of_ble_eq_true rfl) ?_
  intro p e s m below meth c A ls hx hb hml hr hlocks hown hts htab hnc hz hj w hl
  have hown : s.vm.findClass RL = some m.cls := hown
  have hl : lv_has ls 3 [(0, .ref o), (1, .ref oq)] := hl
  refine lv_aload_n hx hb dL_restore_0 rfl (lv_at hl 1 rfl) ?_
  refine lv_iconst (v := 0) hx hb dL_restore_1 (by decide) ?_
  refine lv_aload_n hx hb dL_restore_2 rfl (lv_at hl 0 rfl) ?_
  refine xc_i (As := []) (rest := [.int 0, .ref oq]) (Rs := [ouB ty oq og]) ⟨hx, hb, hml, hown, hts⟩ hz hj w (c_X8_restore l hst D ty o a b sn h t r sb lf sz nx bb S M V U hdr ha) (cwV 0 hts gL_restore_X8_restore rfl rfl rfl ⟨rfl, hdN_X8_restore⟩ ⟨Nat.le_of_ble_eq_true rfl, Nat.le_of_ble_eq_true rfl⟩) [0, 1, 2, 3, 4, 5, 6, 7, 8, 9, 10, 11, 12] (nB := 13) (by decide) rfl rfl 0 rfl rfl (ci := 12) rfl rfl rfl hl.1 rfl (Nat.le_of_ble_eq_true rfl) dL_restore_3 ⟨(Nat.le_of_ble_eq_true rfl), (Nat.le_of_ble_eq_true rfl)⟩ (fun q9 H locs hok hth w => ?_) (fun H locs hok w => ?_)
  · refine l_c1 hown htab (by decide) (by decide) (hts _ (List.mem_of_getElem? (i := 1) rfl)) (hz.1.1.use _ xk_ISE) hth ?_
    refine lv_astore_n (lv' := [(2, .ref q9), (0, .ref o), (1, .ref oq)]) hx hb dL_restore_11 rfl hl (by decide) rfl (fun ls hl => ?_)
    refine lv_iconst (v := 1) hx hb dL_restore_12 (by decide) ?_
    exact l_end false hx hb hr hlocks w (Or.inr ⟨rfl, hok, rfl⟩) dL_restore_13 (Nat.le_of_ble_eq_true rfl) (Nat.le_of_ble_eq_true rfl)
  · refine lv_i2l (v := ((V 206)).toInt64) hx hb dL_restore_6 rfl ?_
    refine r_last hx hb w 12 0 rfl rfl 5 rfl 0 (by decide) (Nat.le_of_ble_eq_true rfl) rfl (ouB ty oq (vp_updL og 0 ((V 206).toInt64))) rfl [ppB o (a 0) (b 0) (sn 0) (h 0) r (t 0) sb (bI bb) lf, stB a V, lnB ty a V, quB ty a V, weB a V, miB ty a U, stB sn V, lnB ty sn V, quB ty sn V, weB sn V, miB ty sn U, hiB ty h ha 0 nx, ouB ty oq (vp_updL og 0 ((V 206).toInt64))] rfl dL_restore_7 (fun H locs w => ?_)
    refine lv_goto (tgt := 14) hx hb dL_restore_8 (by decide) ?_
    refine lv_iconst (v := 0) hx hb dL_restore_14 (by decide) ?_
    exact l_end true hx hb hr hlocks w (Or.inl ⟨rfl, hok, rfl⟩) dL_restore_15 (Nat.le_of_ble_eq_true rfl) (Nat.le_of_ble_eq_true rfl)
theorem hdN_L_restore : yL_restore.cls ≠ "java/lang/invoke/MethodHandle" ∧ yL_restore.cls ≠ "java/lang/invoke/VarHandle" ∧ (parseMethodDescriptor yL_restore.desc).map (fun d => d.parameters.length) = some 2 := by decide +kernel
