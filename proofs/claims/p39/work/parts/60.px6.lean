theorem in_X8_turnIn_X6 : ∀ w ∈ wsX60, w ∈ wsX8_turnIn := by decide +kernel
theorem in_X8_turnIn_X8 : ∀ w ∈ wsX80, w ∈ wsX8_turnIn := by decide +kernel
theorem inx_X8_turnIn_161 : ∀ w ∈ (vx_atS RX8 161 "java/lang/IndexOutOfBoundsException" ["java/lang/RuntimeException", "java/lang/Exception"]).filter goodWord, w ∈ wsX8_turnIn := by decide +kernel
theorem inx_X8_turnIn_241 : ∀ w ∈ (ns_atS RX8 241).filter goodWord, w ∈ wsX8_turnIn := by decide +kernel
theorem hdN_X8_turnIn : yX8_turnIn.cls ≠ "java/lang/invoke/MethodHandle" ∧ yX8_turnIn.cls ≠ "java/lang/invoke/VarHandle" ∧ (parseMethodDescriptor yX8_turnIn.desc).map (fun d => d.parameters.length) = some 1 := by decide +kernel
set_option maxRecDepth 100000 in
set_option maxHeartbeats 4000000 in
theorem c_X8_turnIn (l : Launch) (hst : l.stackTraces = false) (D : va_G) (ty : Nat → ClassId) (o : Nat) (a b sn h t : Nat → Nat) (r sb : Nat) (hs lf : Int32) (S M : pS) (n q : Nat) (hA : IA S n q) (v : Int32) : Xi l yX8_turnIn wsX8_turnIn (kR 6 90 1 6) D (kTY ty) [.ref o, .int v] [ppB o (a 0) (b 0) (sn 0) (h 0) r (t 0) sb hs lf, stB a S, lnB ty a S, quB ty a S, weB a S, miB ty a M] (tTurn S n q v = 0) [ppB o (a 0) (b 0) (sn 0) (h 0) r (t 0) sb hs lf, stB a S, lnB ty a S, quB ty a S, weB a S, miB ty a M] (pPl S v q + 1) (if tTurn S n q v = 2 then nsN else "java/lang/IndexOutOfBoundsException") [ppB o (a 0) (b 0) (sn 0) (h 0) r (t 0) sb hs lf, stB a S, lnB ty a S, quB ty a S, weB a S, miB ty a M] 1 6 := by
  refine m_xi (cc := cX8_turnIn) (maxL := 3) (ret := (some .int)) (by decide +kernel) rfl (Nat.le_of_ble_eq_true rfl) ?_
  intro p e s m below meth c A ls hx hb hml hr hlocks hown hts hex hz w hl
  have hown : s.vm.findClass RX8 = some m.cls := hown
  have hl : lv_has ls 3 [(0, .ref o), (1, .int v)] := hl
  have hI := hA.1
  obtain ⟨h0, hn, h1, hq, he, hd, hdr, hwr⟩ := id hI
  refine lv_aload_n hx hb dX8_turnIn_0 rfl (lv_at hl 0 rfl) ?_
  refine r_get (v' := .ref (a 0)) hx hb hts in_X8_turnIn_X8 hown w 0 0 rfl rfl (ci := 12) rfl 0 (by decide) (hts _ (List.mem_of_getElem? (i := 5) rfl)) rfl rfl rfl dX8_turnIn_1 ?_
  refine r_getN (v' := .ref (a 1)) hx hb hts in_X8_turnIn_X6 hown w 1 0 rfl rfl (ci := 10) rfl 0 (by decide) (w.2.2.2.2.2 _ (List.mem_of_getElem? (i := 33) rfl)) rfl rfl rfl dX8_turnIn_4 ?_
  refine lv_iload_n hx hb dX8_turnIn_7 rfl (lv_at hl 1 rfl) ?_
  refine k_iVN (As := [.int v]) (rest := []) (Rs := [ppB o (a 0) (b 0) (sn 0) (h 0) r (t 0) sb hs lf, stB a S, quB ty a S, weB a S, miB ty a M]) (Bs' := [ppB o (a 0) (b 0) (sn 0) (h 0) r (t 0) sb hs lf, stB a S, lnB ty a S, quB ty a S, weB a S, miB ty a M]) ⟨hx, hb, hml, hown, hts⟩ w (c_X2_has l D ty a S n (hI).1 (hI).2.1 v) ⟨va_cnB 1 hts gX8_turnIn_X2_has_n153 rfl rfl rfl (w.2.2.2.2.2 _ (List.mem_of_getElem? (i := 86) rfl)) (hts _ (List.mem_of_getElem? (i := 7) rfl)) hdN_X2_has ⟨Nat.le_of_ble_eq_true rfl, Nat.le_of_ble_eq_true rfl⟩, (hts _ (List.mem_of_getElem? (i := 6) rfl)), (hts _ (List.mem_of_getElem? (i := 8) rfl))⟩ [2, 0, 1, 3, 4, 5] (nB := 6) (by decide) rfl rfl rfl rfl 2 rfl rfl (ci := 6) rfl rfl rfl hl.1 rfl (Nat.le_of_ble_eq_true rfl) dX8_turnIn_8 ⟨(Nat.zero_le _), (Nat.zero_le _)⟩ (fun H locs w => ?_)
  refine lv_if_ne (tgt := 24) hx hb dX8_turnIn_11 (by decide) (fun c11 => ?_) (fun c11 => ?_)
  · have c11 := bI_1.mp c11
    refine lv_aload_n hx hb dX8_turnIn_24 rfl (lv_at hl 0 rfl) ?_
    refine r_get (v' := .ref (a 0)) hx hb hts in_X8_turnIn_X8 hown w 0 0 rfl rfl (ci := 12) rfl 0 (by decide) (hts _ (List.mem_of_getElem? (i := 5) rfl)) rfl rfl rfl dX8_turnIn_25 ?_
    refine r_getN (v' := .ref (a 17)) hx hb hts in_X8_turnIn_X6 hown w 1 0 rfl rfl (ci := 10) rfl 1 (by decide) (w.2.2.2.2.2 _ (List.mem_of_getElem? (i := 34) rfl)) rfl rfl rfl dX8_turnIn_28 ?_
    refine lv_iload_n hx hb dX8_turnIn_31 rfl (lv_at hl 1 rfl) ?_
    refine k_iVN (As := [.int v]) (rest := []) (Rs := [ppB o (a 0) (b 0) (sn 0) (h 0) r (t 0) sb hs lf, stB a S, lnB ty a S, weB a S, miB ty a M]) (Bs' := [ppB o (a 0) (b 0) (sn 0) (h 0) r (t 0) sb hs lf, stB a S, lnB ty a S, quB ty a S, weB a S, miB ty a M]) ⟨hx, hb, hml, hown, hts⟩ w (c_X4_placeOf l D ty a S q (hI).2.2.1 (hI).2.2.2.1 (hI).2.2.2.2.2.1 v) ⟨va_cnB 1 hts gX8_turnIn_X4_placeOf_n191 rfl rfl rfl (w.2.2.2.2.2 _ (List.mem_of_getElem? (i := 90) rfl)) (hts _ (List.mem_of_getElem? (i := 12) rfl)) hdN_X4_placeOf ⟨Nat.le_of_ble_eq_true rfl, Nat.le_of_ble_eq_true rfl⟩, (hts _ (List.mem_of_getElem? (i := 11) rfl)), (hts _ (List.mem_of_getElem? (i := 13) rfl))⟩ [3, 0, 1, 2, 4, 5] (nB := 6) (by decide) rfl rfl rfl rfl 3 rfl rfl (ci := 8) rfl rfl rfl hl.1 rfl (Nat.le_of_ble_eq_true rfl) dX8_turnIn_32 ⟨(Nat.zero_le _), (Nat.zero_le _)⟩ (fun H locs w => ?_)
    refine lv_istore_n (lv' := [(2, .int (pPl S v q)), (0, .ref o), (1, .int v)]) hx hb dX8_turnIn_35 rfl hl (by decide) rfl (fun ls hl => ?_)
    refine lv_iload_n hx hb dX8_turnIn_36 rfl (lv_at hl 0 rfl) ?_
    refine lv_iconst (v := (-1)) hx hb dX8_turnIn_37 (by decide) ?_
    refine lv_icmp_ne (tgt := 51) hx hb dX8_turnIn_38 (by decide) (fun c38 => ?_) (fun c38 => ?_)
    · refine lv_iload_n hx hb dX8_turnIn_51 rfl (lv_at hl 0 rfl) ?_
      refine lv_iconst (v := 1) hx hb dX8_turnIn_52 (by decide) ?_
      refine lv_iadd hx hb dX8_turnIn_53 ?_
      exact x_i hx hb hr hlocks w (by rw [tTurn, if_pos c11, if_neg c38]) rfl dX8_turnIn_54 (Nat.le_of_ble_eq_true rfl) (Nat.le_of_ble_eq_true rfl)
    · have hno : tTurn S n q v = 2 := by rw [tTurn, if_pos c11, if_pos c38]
      exact x_nthrow hx hb hst w hz (by rw [hno]; decide) (by rw [hno]; rfl) hown (hts _ (List.mem_of_getElem? (i := 3) rfl)) (hts _ (List.mem_of_getElem? (i := 4) rfl)) (hz.1.2 (239, "the household does not wait") (by decide)) (vx_hat (fun w hw => hts w (inx_X8_turnIn_241 w hw)) xb_241 hz.1.1.use) (xg_c xg_241) (hl.1.trans hml.symm) dX8_turnIn_41 dX8_turnIn_44 dX8_turnIn_45 dX8_turnIn_47 dX8_turnIn_50 hex (Nat.le_of_ble_eq_true rfl) (Nat.le_of_ble_eq_true rfl) (Nat.le_of_ble_eq_true rfl) (Nat.le_of_ble_eq_true rfl) hlocks (Nat.le_of_ble_eq_true rfl) (Nat.le_of_ble_eq_true rfl)
  · have c11 := bI_0.mp c11
    have hno : tTurn S n q v = 1 := by rw [tTurn, if_neg (bt_n c11)]
    exact x_throw hx hb hst w hz (by rw [hno]; decide) (by rw [hno]; rfl) hown (by decide) (by decide) (hts _ (List.mem_of_getElem? (i := 1) rfl)) (hts _ (List.mem_of_getElem? (i := 2) rfl)) (hz.1.2 (159, "there is no such household") (by decide)) (vx_hat (fun w hw => hts w (inx_X8_turnIn_161 w hw)) xb_161 hz.1.1.use) (xg_c xg_161) (hl.1.trans hml.symm) dX8_turnIn_14 dX8_turnIn_17 dX8_turnIn_18 dX8_turnIn_20 dX8_turnIn_23 hex (Nat.le_of_ble_eq_true rfl) (Nat.le_of_ble_eq_true rfl) (Nat.le_of_ble_eq_true rfl) (Nat.le_of_ble_eq_true rfl) hlocks (Nat.le_of_ble_eq_true rfl) (Nat.le_of_ble_eq_true rfl)
