theorem in_X8_reason_X5 : ∀ w ∈ wsX50, w ∈ wsX8_reason := by decide +kernel
theorem in_X8_reason_X8 : ∀ w ∈ wsX80, w ∈ wsX8_reason := by decide +kernel
theorem inx_X8_reason_200 : ∀ w ∈ (vx_atS RX8 200 "java/lang/IllegalArgumentException" ["java/lang/RuntimeException", "java/lang/Exception"]).filter goodWord, w ∈ wsX8_reason := by decide +kernel
theorem inx_X8_reason_241 : ∀ w ∈ (ns_atS RX8 241).filter goodWord, w ∈ wsX8_reason := by decide +kernel
theorem hdN_X8_reason : yX8_reason.cls ≠ "java/lang/invoke/MethodHandle" ∧ yX8_reason.cls ≠ "java/lang/invoke/VarHandle" ∧ (parseMethodDescriptor yX8_reason.desc).map (fun d => d.parameters.length) = some 1 := by decide +kernel
set_option maxRecDepth 100000 in
set_option maxHeartbeats 4000000 in
theorem c_X8_reason (l : Launch) (hst : l.stackTraces = false) (D : va_G) (ty : Nat → ClassId) (o : Nat) (a b sn h t : Nat → Nat) (r sb : Nat) (hs lf f0 f1 f2 f3 v : Int32) : Xi l yX8_reason wsX8_reason (kR 6 90 1 6) D (kTY ty) [.ref o, .int v] [ppB o (a 0) (b 0) (sn 0) (h 0) r (t 0) sb hs lf, rfB r f0 f1 f2 f3] (tReason (rsF f0 f1 f2) v = 0) [ppB o (a 0) (b 0) (sn 0) (h 0) r (t 0) sb hs lf, rfB r f0 f1 f2 f3] (vReason (rsF f0 f1 f2) v) (if tReason (rsF f0 f1 f2) v = 2 then nsN else "java/lang/IllegalArgumentException") [ppB o (a 0) (b 0) (sn 0) (h 0) r (t 0) sb hs lf, rfB r f0 f1 f2 f3] 1 6 := by
  refine m_xi (cc := cX8_reason) (maxL := 2) (ret := (some .int)) (by decide +kernel) rfl (Nat.le_of_ble_eq_true rfl) ?_
  intro p e s m below meth c A ls hx hb hml hr hlocks hown hts hex hz w hl
  have hown : s.vm.findClass RX8 = some m.cls := hown
  have hl : lv_has ls 2 [(0, .ref o), (1, .int v)] := hl
  refine lv_iload_n hx hb dX8_reason_0 rfl (lv_at hl 1 rfl) ?_
  refine lv_iconst (v := 0) hx hb dX8_reason_1 (by decide) ?_
  refine lv_iconst (v := 2) hx hb dX8_reason_2 (by decide) ?_
  refine k_iS (As := [.int v, .int 0, .int 2]) (rest := []) (Rs := [ppB o (a 0) (b 0) (sn 0) (h 0) r (t 0) sb hs lf, rfB r f0 f1 f2 f3]) (Bs' := [ppB o (a 0) (b 0) (sn 0) (h 0) r (t 0) sb hs lf, rfB r f0 f1 f2 f3]) ⟨hx, hb, hml, hown, hts⟩ w (c_X8_isWithin l D ty v 0 2) (va_cwS 3 hts gX8_reason_X8_isWithin rfl rfl rfl hdN_X8_isWithin ⟨Nat.le_of_ble_eq_true rfl, Nat.le_of_ble_eq_true rfl⟩) [0, 1] (nB := 2) (by decide) rfl rfl rfl rfl rfl hl.1 rfl (Nat.le_of_ble_eq_true rfl) dX8_reason_3 ⟨(Nat.zero_le _), (Nat.zero_le _)⟩ (fun H locs w => ?_)
  refine lv_if_ne (tgt := 20) hx hb dX8_reason_6 (by decide) (fun c6 => ?_) (fun c6 => ?_)
  · have c6 := bI_1.mp c6
    refine lv_aload_n hx hb dX8_reason_20 rfl (lv_at hl 0 rfl) ?_
    refine r_get (v' := .ref r) hx hb hts in_X8_reason_X8 hown w 0 0 rfl rfl (ci := 12) rfl 5 (by decide) (hts _ (List.mem_of_getElem? (i := 5) rfl)) rfl rfl rfl dX8_reason_21 ?_
    refine r_getN (v' := .int f0) hx hb hts in_X8_reason_X5 hown w 1 0 rfl rfl (ci := 9) rfl 0 (by decide) (w.2.2.2.2.2 _ (List.mem_of_getElem? (i := 44) rfl)) rfl rfl rfl dX8_reason_24 ?_
    refine lv_if_ne (tgt := 41) hx hb dX8_reason_27 (by decide) (fun c27 => ?_) (fun c27 => ?_)
    · have hok : tReason (rsF f0 f1 f2) v = 0 := by rw [tReason, if_pos c6]; exact if_neg c27
      refine lv_iload_n hx hb dX8_reason_41 rfl (lv_at hl 1 rfl) ?_
      refine lv_if_ne (tgt := 53) hx hb dX8_reason_42 (by decide) (fun c42 => ?_) (fun c42 => ?_)
      · refine lv_iload_n hx hb dX8_reason_53 rfl (lv_at hl 1 rfl) ?_
        refine lv_iconst (v := 1) hx hb dX8_reason_54 (by decide) ?_
        refine lv_icmp_ne (tgt := 68) hx hb dX8_reason_55 (by decide) (fun c55 => ?_) (fun c55 => ?_)
        · refine lv_aload_n hx hb dX8_reason_68 rfl (lv_at hl 0 rfl) ?_
          refine r_get (v' := .ref r) hx hb hts in_X8_reason_X8 hown w 0 0 rfl rfl (ci := 12) rfl 5 (by decide) (hts _ (List.mem_of_getElem? (i := 5) rfl)) rfl rfl rfl dX8_reason_69 ?_
          refine r_getN (v' := .int f2) hx hb hts in_X8_reason_X5 hown w 1 0 rfl rfl (ci := 9) rfl 2 (by decide) (w.2.2.2.2.2 _ (List.mem_of_getElem? (i := 46) rfl)) rfl rfl rfl dX8_reason_72 ?_
          exact x_i hx hb hr hlocks w hok (by rw [vReason, if_neg c42, if_neg c55]; rfl) dX8_reason_75 (Nat.le_of_ble_eq_true rfl) (Nat.le_of_ble_eq_true rfl)
        · refine lv_aload_n hx hb dX8_reason_58 rfl (lv_at hl 0 rfl) ?_
          refine r_get (v' := .ref r) hx hb hts in_X8_reason_X8 hown w 0 0 rfl rfl (ci := 12) rfl 5 (by decide) (hts _ (List.mem_of_getElem? (i := 5) rfl)) rfl rfl rfl dX8_reason_59 ?_
          refine r_getN (v' := .int f1) hx hb hts in_X8_reason_X5 hown w 1 0 rfl rfl (ci := 9) rfl 1 (by decide) (w.2.2.2.2.2 _ (List.mem_of_getElem? (i := 45) rfl)) rfl rfl rfl dX8_reason_62 ?_
          refine lv_goto (tgt := 75) hx hb dX8_reason_65 (by decide) ?_
          exact x_i hx hb hr hlocks w hok (by rw [vReason, if_neg c42, if_pos c55]; rfl) dX8_reason_75 (Nat.le_of_ble_eq_true rfl) (Nat.le_of_ble_eq_true rfl)
      · refine lv_aload_n hx hb dX8_reason_45 rfl (lv_at hl 0 rfl) ?_
        refine r_get (v' := .ref r) hx hb hts in_X8_reason_X8 hown w 0 0 rfl rfl (ci := 12) rfl 5 (by decide) (hts _ (List.mem_of_getElem? (i := 5) rfl)) rfl rfl rfl dX8_reason_46 ?_
        refine r_getN (v' := .int f0) hx hb hts in_X8_reason_X5 hown w 1 0 rfl rfl (ci := 9) rfl 0 (by decide) (w.2.2.2.2.2 _ (List.mem_of_getElem? (i := 44) rfl)) rfl rfl rfl dX8_reason_49 ?_
        exact x_i hx hb hr hlocks w hok (by rw [vReason, if_pos c42]; rfl) dX8_reason_52 (Nat.le_of_ble_eq_true rfl) (Nat.le_of_ble_eq_true rfl)
    · have hno : tReason (rsF f0 f1 f2) v = 2 := by rw [tReason, if_pos c6]; exact if_pos c27
      exact x_nthrowW hx hb hst w hz (by rw [hno]; decide) (by rw [hno]; rfl) hown (hts _ (List.mem_of_getElem? (i := 3) rfl)) (hts _ (List.mem_of_getElem? (i := 4) rfl)) (hz.1.2 (325, "nothing was refused") (by decide)) (vx_hat (fun w hw => hts w (inx_X8_reason_241 w hw)) xb_241 hz.1.1.use) (xg_c xg_241) (hl.1.trans hml.symm) dX8_reason_30 dX8_reason_33 dX8_reason_34 dX8_reason_37 dX8_reason_40 hex (Nat.le_of_ble_eq_true rfl) (Nat.le_of_ble_eq_true rfl) (Nat.le_of_ble_eq_true rfl) (Nat.le_of_ble_eq_true rfl) hlocks (Nat.le_of_ble_eq_true rfl) (Nat.le_of_ble_eq_true rfl)
  · have c6 := bI_0.mp c6
    have hno : tReason (rsF f0 f1 f2) v = 1 := by rw [tReason, if_neg (bt_n c6)]
    exact x_throwW hx hb hst w hz (by rw [hno]; decide) (by rw [hno]; rfl) hown (by decide) (by decide) (hts _ (List.mem_of_getElem? (i := 1) rfl)) (hts _ (List.mem_of_getElem? (i := 2) rfl)) (hz.1.2 (320, "there is no such number of a reason") (by decide)) (vx_hat (fun w hw => hts w (inx_X8_reason_200 w hw)) xb_200 hz.1.1.use) (xg_c xg_200) (hl.1.trans hml.symm) dX8_reason_9 dX8_reason_12 dX8_reason_13 dX8_reason_16 dX8_reason_19 hex (Nat.le_of_ble_eq_true rfl) (Nat.le_of_ble_eq_true rfl) (Nat.le_of_ble_eq_true rfl) (Nat.le_of_ble_eq_true rfl) hlocks (Nat.le_of_ble_eq_true rfl) (Nat.le_of_ble_eq_true rfl)

theorem in_X8_turnIn_X6 : ∀ w ∈ wsX60, w ∈ wsX8_turnIn := by decide +kernel
theorem in_X8_turnIn_X8 : ∀ w ∈ wsX80, w ∈ wsX8_turnIn := by decide +kernel
theorem inx_X8_turnIn_161 : ∀ w ∈ (vx_atS RX8 161 "java/lang/IndexOutOfBoundsException" ["java/lang/RuntimeException", "java/lang/Exception"]).filter goodWord, w ∈ wsX8_turnIn := by decide +kernel
theorem inx_X8_turnIn_241 : ∀ w ∈ (ns_atS RX8 241).filter goodWord, w ∈ wsX8_turnIn := by decide +kernel
theorem hdN_X8_turnIn : yX8_turnIn.cls ≠ "java/lang/invoke/MethodHandle" ∧ yX8_turnIn.cls ≠ "java/lang/invoke/VarHandle" ∧ (parseMethodDescriptor yX8_turnIn.desc).map (fun d => d.parameters.length) = some 1 := by decide +kernel
set_option maxRecDepth 100000 in
set_option maxHeartbeats 4000000 in
theorem c_X8_turnIn (l : Launch) (hst : l.stackTraces = false) (D : va_G) (ty : Nat → ClassId) (o : Nat) (a b sn h t : Nat → Nat) (r sb : Nat) (hs lf : Int32) (S M : pS) (n q : Nat) (hA : IA S n q) (v : Int32) : Xi l yX8_turnIn wsX8_turnIn (kR 6 90 1 6) D (kTY ty) [.ref o, .int v] [ppB o (a 0) (b 0) (sn 0) (h 0) r (t 0) sb hs lf, stB a S, lnB ty a S, quB ty a S, weB a S, miB ty a M] (tTurn S n q v = 0) [ppB o (a 0) (b 0) (sn 0) (h 0) r (t 0) sb hs lf, stB a S, lnB ty a S, quB ty a S, weB a S, miB ty a M] (pPl S v q + 1) (if tTurn S n q v = 2 then nsN else "java/lang/IndexOutOfBoundsException") [ppB o (a 0) (b 0) (sn 0) (h 0) r (t 0) sb hs lf, stB a S, lnB ty a S, quB ty a S, weB a S, miB ty a M] 1 6 := by
  refine m_xi (cc := cX8_turnIn) (maxL := 3) (ret := (some .int)) (by decide +kernel) rfl (Nat.le_of_ble_eq_true rfl) ?_
  intro p e s m below meth c A ls hx hb hml hr hlocks hown hts hex hz w hl
  have hown : s.vm.findClass RX8 = some m.cls := hown
  have hl : lv_has ls 3 [(0, .ref o), (1, .int v)] := hl
  have hI := hA.1
  obtain ⟨h0, hn, h1, hq, he, hd, hdr, hwr⟩ := id hI
  refine lv_aload_n hx hb dX8_turnIn_0 rfl (lv_at hl 0 rfl) ?_
  refine r_get (v' := .ref (a 0)) hx hb hts in_X8_turnIn_X8 hown w 0 0 rfl rfl (ci := 12) rfl 0 (by decide) (hts _ (List.mem_of_getElem? (i := 5) rfl)) rfl rfl rfl dX8_turnIn_1 ?_
  refine r_getN (v' := .ref (a 1)) hx hb hts in_X8_turnIn_X6 hown w 1 0 rfl rfl (ci := 10) rfl 0 (by decide) (w.2.2.2.2.2 _ (List.mem_of_getElem? (i := 33) rfl)) rfl rfl rfl dX8_turnIn_4 ?_
  refine lv_iload_n hx hb dX8_turnIn_7 rfl (lv_at hl 1 rfl) ?_
  refine k_iVN (As := [.int v]) (rest := []) (Rs := [ppB o (a 0) (b 0) (sn 0) (h 0) r (t 0) sb hs lf, stB a S, quB ty a S, weB a S, miB ty a M]) (Bs' := [ppB o (a 0) (b 0) (sn 0) (h 0) r (t 0) sb hs lf, stB a S, lnB ty a S, quB ty a S, weB a S, miB ty a M]) ⟨hx, hb, hml, hown, hts⟩ w (c_X2_has l D ty a S n (hI).1 (hI).2.1 v) ⟨va_cnB 1 hts gX8_turnIn_X2_has_n153 rfl rfl rfl (w.2.2.2.2.2 _ (List.mem_of_getElem? (i := 95) rfl)) (hts _ (List.mem_of_getElem? (i := 7) rfl)) hdN_X2_has ⟨Nat.le_of_ble_eq_true rfl, Nat.le_of_ble_eq_true rfl⟩, (hts _ (List.mem_of_getElem? (i := 6) rfl)), (hts _ (List.mem_of_getElem? (i := 8) rfl))⟩ [2, 0, 1, 3, 4, 5] (nB := 6) (by decide) rfl rfl rfl rfl 2 rfl rfl (ci := 6) rfl rfl rfl hl.1 rfl (Nat.le_of_ble_eq_true rfl) dX8_turnIn_8 ⟨(Nat.zero_le _), (Nat.zero_le _)⟩ (fun H locs w => ?_)
  refine lv_if_ne (tgt := 24) hx hb dX8_turnIn_11 (by decide) (fun c11 => ?_) (fun c11 => ?_)
  · have c11 := bI_1.mp c11
    refine lv_aload_n hx hb dX8_turnIn_24 rfl (lv_at hl 0 rfl) ?_
    refine r_get (v' := .ref (a 0)) hx hb hts in_X8_turnIn_X8 hown w 0 0 rfl rfl (ci := 12) rfl 0 (by decide) (hts _ (List.mem_of_getElem? (i := 5) rfl)) rfl rfl rfl dX8_turnIn_25 ?_
    refine r_getN (v' := .ref (a 17)) hx hb hts in_X8_turnIn_X6 hown w 1 0 rfl rfl (ci := 10) rfl 1 (by decide) (w.2.2.2.2.2 _ (List.mem_of_getElem? (i := 34) rfl)) rfl rfl rfl dX8_turnIn_28 ?_
    refine lv_iload_n hx hb dX8_turnIn_31 rfl (lv_at hl 1 rfl) ?_
    refine k_iVN (As := [.int v]) (rest := []) (Rs := [ppB o (a 0) (b 0) (sn 0) (h 0) r (t 0) sb hs lf, stB a S, lnB ty a S, weB a S, miB ty a M]) (Bs' := [ppB o (a 0) (b 0) (sn 0) (h 0) r (t 0) sb hs lf, stB a S, lnB ty a S, quB ty a S, weB a S, miB ty a M]) ⟨hx, hb, hml, hown, hts⟩ w (c_X4_placeOf l D ty a S q (hI).2.2.1 (hI).2.2.2.1 (hI).2.2.2.2.2.1 v) ⟨va_cnB 1 hts gX8_turnIn_X4_placeOf_n191 rfl rfl rfl (w.2.2.2.2.2 _ (List.mem_of_getElem? (i := 98) rfl)) (hts _ (List.mem_of_getElem? (i := 12) rfl)) hdN_X4_placeOf ⟨Nat.le_of_ble_eq_true rfl, Nat.le_of_ble_eq_true rfl⟩, (hts _ (List.mem_of_getElem? (i := 11) rfl)), (hts _ (List.mem_of_getElem? (i := 13) rfl))⟩ [3, 0, 1, 2, 4, 5] (nB := 6) (by decide) rfl rfl rfl rfl 3 rfl rfl (ci := 8) rfl rfl rfl hl.1 rfl (Nat.le_of_ble_eq_true rfl) dX8_turnIn_32 ⟨(Nat.zero_le _), (Nat.zero_le _)⟩ (fun H locs w => ?_)
    refine lv_istore_n (lv' := [(2, .int (pPl S v q)), (0, .ref o), (1, .int v)]) hx hb dX8_turnIn_35 rfl hl (by decide) rfl (fun ls hl => ?_)
    refine lv_iload_n hx hb dX8_turnIn_36 rfl (lv_at hl 0 rfl) ?_
    refine lv_iconst (v := (-1)) hx hb dX8_turnIn_37 (by decide) ?_
    refine lv_icmp_ne (tgt := 51) hx hb dX8_turnIn_38 (by decide) (fun c38 => ?_) (fun c38 => ?_)
    · refine lv_iload_n hx hb dX8_turnIn_51 rfl (lv_at hl 0 rfl) ?_
      refine lv_iconst (v := 1) hx hb dX8_turnIn_52 (by decide) ?_
      refine lv_iadd hx hb dX8_turnIn_53 ?_
      exact x_i hx hb hr hlocks w (by rw [tTurn, if_pos c11, if_neg c38]) rfl dX8_turnIn_54 (Nat.le_of_ble_eq_true rfl) (Nat.le_of_ble_eq_true rfl)
    · have hno : tTurn S n q v = 2 := by rw [tTurn, if_pos c11, if_pos c38]
      exact x_nthrow hx hb hst w hz (by rw [hno]; decide) (by rw [hno]; rfl) hown (hts _ (List.mem_of_getElem? (i := 3) rfl)) (hts _ (List.mem_of_getElem? (i := 4) rfl)) (hz.1.2 (239, "the household does not wait") (by decide)) (vx_hat (fun w hw => hts w (inx_X8_turnIn_241 w hw)) xb_241 hz.1.1.use) (xg_c xg_241) (hl.1.trans hml.symm) dX8_turnIn_41 dX8_turnIn_44 dX8_turnIn_45 dX8_turnIn_47 dX8_turnIn_50 hex (Nat.le_of_ble_eq_true rfl) (Nat.le_of_ble_eq_true rfl) (Nat.le_of_ble_eq_true rfl) (Nat.le_of_ble_eq_true rfl) hlocks (Nat.le_of_ble_eq_true rfl) (Nat.le_of_ble_eq_true rfl)
  · have c11 := bI_0.mp c11
    have hno : tTurn S n q v = 1 := by rw [tTurn, if_neg (bt_n c11)]
    exact x_throw hx hb hst w hz (by rw [hno]; decide) (by rw [hno]; rfl) hown (by decide) (by decide) (hts _ (List.mem_of_getElem? (i := 1) rfl)) (hts _ (List.mem_of_getElem? (i := 2) rfl)) (hz.1.2 (159, "there is no such household") (by decide)) (vx_hat (fun w hw => hts w (inx_X8_turnIn_161 w hw)) xb_161 hz.1.1.use) (xg_c xg_161) (hl.1.trans hml.symm) dX8_turnIn_14 dX8_turnIn_17 dX8_turnIn_18 dX8_turnIn_20 dX8_turnIn_23 hex (Nat.le_of_ble_eq_true rfl) (Nat.le_of_ble_eq_true rfl) (Nat.le_of_ble_eq_true rfl) (Nat.le_of_ble_eq_true rfl) hlocks (Nat.le_of_ble_eq_true rfl) (Nat.le_of_ble_eq_true rfl)

theorem in_X8_droughtIn_X6 : ∀ w ∈ wsX60, w ∈ wsX8_droughtIn := by decide +kernel
theorem in_X8_droughtIn_X8 : ∀ w ∈ wsX80, w ∈ wsX8_droughtIn := by decide +kernel
theorem inx_X8_droughtIn_200 : ∀ w ∈ (vx_atS RX8 200 "java/lang/IllegalArgumentException" ["java/lang/RuntimeException", "java/lang/Exception"]).filter goodWord, w ∈ wsX8_droughtIn := by decide +kernel
theorem inx_X8_droughtIn_241 : ∀ w ∈ (ns_atS RX8 241).filter goodWord, w ∈ wsX8_droughtIn := by decide +kernel
theorem hdN_X8_droughtIn : yX8_droughtIn.cls ≠ "java/lang/invoke/MethodHandle" ∧ yX8_droughtIn.cls ≠ "java/lang/invoke/VarHandle" ∧ (parseMethodDescriptor yX8_droughtIn.desc).map (fun d => d.parameters.length) = some 1 := by decide +kernel
set_option maxRecDepth 100000 in
set_option maxHeartbeats 4000000 in
theorem c_X8_droughtIn (l : Launch) (hst : l.stackTraces = false) (D : va_G) (ty : Nat → ClassId) (o : Nat) (a b sn h t : Nat → Nat) (r sb : Nat) (hs lf : Int32) (S M : pS) (n q : Nat) (hA : IA S n q) (v : Int32) : Xi l yX8_droughtIn wsX8_droughtIn (kR 6 90 1 6) D (kTY ty) [.ref o, .int v] [ppB o (a 0) (b 0) (sn 0) (h 0) r (t 0) sb hs lf, stB a S, lnB ty a S, quB ty a S, weB a S, miB ty a M] (tDr S v = 0) [ppB o (a 0) (b 0) (sn 0) (h 0) r (t 0) sb hs lf, stB a S, lnB ty a S, quB ty a S, weB a S, miB ty a M] (pDrR S v) (if tDr S v = 2 then nsN else "java/lang/IllegalArgumentException") [ppB o (a 0) (b 0) (sn 0) (h 0) r (t 0) sb hs lf, stB a S, lnB ty a S, quB ty a S, weB a S, miB ty a M] 1 6 := by
  refine m_xi (cc := cX8_droughtIn) (maxL := 3) (ret := (some .int)) (by decide +kernel) rfl (Nat.le_of_ble_eq_true rfl) ?_
  intro p e s m below meth c A ls hx hb hml hr hlocks hown hts hex hz w hl
  have hown : s.vm.findClass RX8 = some m.cls := hown
  have hl : lv_has ls 3 [(0, .ref o), (1, .int v)] := hl
  have hI := hA.1
  obtain ⟨h0, hn, h1, hq, he, hd, hdr, hwr⟩ := id hI
  refine lv_iload_n hx hb dX8_droughtIn_0 rfl (lv_at hl 1 rfl) ?_
  refine lv_iconst (v := 0) hx hb dX8_droughtIn_1 (by decide) ?_
  refine lv_sipush (v := 999) hx hb dX8_droughtIn_2 (by decide) ?_
  refine k_iS (As := [.int v, .int 0, .int 999]) (rest := []) (Rs := [ppB o (a 0) (b 0) (sn 0) (h 0) r (t 0) sb hs lf, stB a S, lnB ty a S, quB ty a S, weB a S, miB ty a M]) (Bs' := [ppB o (a 0) (b 0) (sn 0) (h 0) r (t 0) sb hs lf, stB a S, lnB ty a S, quB ty a S, weB a S, miB ty a M]) ⟨hx, hb, hml, hown, hts⟩ w (c_X8_isWithin l D ty v 0 999) (va_cwS 3 hts gX8_droughtIn_X8_isWithin rfl rfl rfl hdN_X8_isWithin ⟨Nat.le_of_ble_eq_true rfl, Nat.le_of_ble_eq_true rfl⟩) [0, 1, 2, 3, 4, 5] (nB := 6) (by decide) rfl rfl rfl rfl rfl hl.1 rfl (Nat.le_of_ble_eq_true rfl) dX8_droughtIn_5 ⟨(Nat.zero_le _), (Nat.zero_le _)⟩ (fun H locs w => ?_)
  refine lv_if_ne (tgt := 21) hx hb dX8_droughtIn_8 (by decide) (fun c8 => ?_) (fun c8 => ?_)
  · have c8 := bI_1.mp c8
    refine lv_aload_n hx hb dX8_droughtIn_21 rfl (lv_at hl 0 rfl) ?_
    refine r_get (v' := .ref (a 0)) hx hb hts in_X8_droughtIn_X8 hown w 0 0 rfl rfl (ci := 12) rfl 0 (by decide) (hts _ (List.mem_of_getElem? (i := 5) rfl)) rfl rfl rfl dX8_droughtIn_22 ?_
    refine r_getN (v' := .ref (a 19)) hx hb hts in_X8_droughtIn_X6 hown w 1 0 rfl rfl (ci := 10) rfl 2 (by decide) (w.2.2.2.2.2 _ (List.mem_of_getElem? (i := 35) rfl)) rfl rfl rfl dX8_droughtIn_25 ?_
    refine lv_iload_n hx hb dX8_droughtIn_28 rfl (lv_at hl 1 rfl) ?_
    refine k_iVN (As := [.int v]) (rest := []) (Rs := [ppB o (a 0) (b 0) (sn 0) (h 0) r (t 0) sb hs lf, stB a S, lnB ty a S, quB ty a S, miB ty a M]) (Bs' := [ppB o (a 0) (b 0) (sn 0) (h 0) r (t 0) sb hs lf, stB a S, lnB ty a S, quB ty a S, weB a S, miB ty a M]) ⟨hx, hb, hml, hown, hts⟩ w (c_X7_nightsToDrought l D ty a S v) ⟨va_cnB 1 hts gX8_droughtIn_X7_nightsToDrought_n257 rfl rfl rfl (w.2.2.2.2.2 _ (List.mem_of_getElem? (i := 107) rfl)) (hts _ (List.mem_of_getElem? (i := 11) rfl)) hdN_X7_nightsToDrought ⟨Nat.le_of_ble_eq_true rfl, Nat.le_of_ble_eq_true rfl⟩, (hts _ (List.mem_of_getElem? (i := 10) rfl)), (hts _ (List.mem_of_getElem? (i := 12) rfl))⟩ [4, 0, 1, 2, 3, 5] (nB := 6) (by decide) rfl rfl rfl rfl 4 rfl rfl (ci := 11) rfl rfl rfl hl.1 rfl (Nat.le_of_ble_eq_true rfl) dX8_droughtIn_29 ⟨(Nat.zero_le _), (Nat.zero_le _)⟩ (fun H locs w => ?_)
    refine r_eq (y := (pDrR S v)) (dr_eq hdr) ?_
    refine lv_istore_n (lv' := [(2, .int (pDrR S v)), (0, .ref o), (1, .int v)]) hx hb dX8_droughtIn_32 rfl hl (by decide) rfl (fun ls hl => ?_)
    refine lv_iload_n hx hb dX8_droughtIn_33 rfl (lv_at hl 0 rfl) ?_
    refine lv_iconst (v := (-1)) hx hb dX8_droughtIn_34 (by decide) ?_
    refine lv_icmp_ne (tgt := 49) hx hb dX8_droughtIn_35 (by decide) (fun c35 => ?_) (fun c35 => ?_)
    · refine lv_iload_n hx hb dX8_droughtIn_49 rfl (lv_at hl 0 rfl) ?_
      exact x_i hx hb hr hlocks w (by rw [tDr, if_pos c8, if_neg c35]) rfl dX8_droughtIn_50 (Nat.le_of_ble_eq_true rfl) (Nat.le_of_ble_eq_true rfl)
    · have hno : tDr S v = 2 := by rw [tDr, if_pos c8, if_pos c35]
      exact x_nthrowW hx hb hst w hz (by rw [hno]; decide) (by rw [hno]; rfl) hown (hts _ (List.mem_of_getElem? (i := 3) rfl)) (hts _ (List.mem_of_getElem? (i := 4) rfl)) (hz.1.2 (260, "there would be no drought") (by decide)) (vx_hat (fun w hw => hts w (inx_X8_droughtIn_241 w hw)) xb_241 hz.1.1.use) (xg_c xg_241) (hl.1.trans hml.symm) dX8_droughtIn_38 dX8_droughtIn_41 dX8_droughtIn_42 dX8_droughtIn_45 dX8_droughtIn_48 hex (Nat.le_of_ble_eq_true rfl) (Nat.le_of_ble_eq_true rfl) (Nat.le_of_ble_eq_true rfl) (Nat.le_of_ble_eq_true rfl) hlocks (Nat.le_of_ble_eq_true rfl) (Nat.le_of_ble_eq_true rfl)
  · have c8 := bI_0.mp c8
    have hno : tDr S v = 1 := by rw [tDr, if_neg (bt_n c8)]
    exact x_throw hx hb hst w hz (by rw [hno]; decide) (by rw [hno]; rfl) hown (by decide) (by decide) (hts _ (List.mem_of_getElem? (i := 1) rfl)) (hts _ (List.mem_of_getElem? (i := 2) rfl)) (hz.1.2 (255, "the water is out of range") (by decide)) (vx_hat (fun w hw => hts w (inx_X8_droughtIn_200 w hw)) xb_200 hz.1.1.use) (xg_c xg_200) (hl.1.trans hml.symm) dX8_droughtIn_11 dX8_droughtIn_14 dX8_droughtIn_15 dX8_droughtIn_17 dX8_droughtIn_20 hex (Nat.le_of_ble_eq_true rfl) (Nat.le_of_ble_eq_true rfl) (Nat.le_of_ble_eq_true rfl) (Nat.le_of_ble_eq_true rfl) hlocks (Nat.le_of_ble_eq_true rfl) (Nat.le_of_ble_eq_true rfl)
