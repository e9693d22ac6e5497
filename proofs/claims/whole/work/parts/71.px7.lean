theorem in_X8_line_X6 : ∀ w ∈ wsX60, w ∈ wsX8_line := by decide +kernel
theorem in_X8_line_X8 : ∀ w ∈ wsX80, w ∈ wsX8_line := by decide +kernel
theorem inx_X8_line_161 : ∀ w ∈ (vx_atS RX8 161 "java/lang/IndexOutOfBoundsException" ["java/lang/RuntimeException", "java/lang/Exception"]).filter goodWord, w ∈ wsX8_line := by decide +kernel
theorem hdN_X8_line : yX8_line.cls ≠ "java/lang/invoke/MethodHandle" ∧ yX8_line.cls ≠ "java/lang/invoke/VarHandle" ∧ (parseMethodDescriptor yX8_line.desc).map (fun d => d.parameters.length) = some 1 := by decide +kernel
set_option maxRecDepth 100000 in
set_option maxHeartbeats 4000000 in
theorem c_X8_line (l : Launch) (J : Nat → Nat) (hst : l.stackTraces = false) (D : va_G) (ty : Nat → ClassId) (o : Nat) (a b sn h t : Nat → Nat) (r sb va : Nat) (hs lf : Int32) (S M : pS) (mm x : Nat) (hm0 : M 0 = nI mm) (hm1 : M 1 = nI x) (hxx : x < 20) (hmm : mm ≤ 20) (hR : ∀ j, j < mm → ∃ kd dd da db, mEn M ((x + 20 - mm + j) % 20) kd dd da db ∧ lnS S j = lnT kd dd da db) (v ml : Int32) (n : Nat) (hn31 : n < 2 ^ 31) (f : pS) : XJi J l yX8_line wsX8_line (kR 6 131 1 6) D (kTY ty) [.ref o, .int v] [ppB o (a 0) (b 0) (sn 0) (h 0) r (t 0) sb hs lf, stB a S, lnB ty a S, quB ty a S, weB a S, miB ty a M, soB sb va ml n, baB ty va f] (t1 (pHas v mm) = 0) [ppB o (a 0) (b 0) (sn 0) (h 0) r (t 0) sb hs lf, stB a S, lnB ty a S, quB ty a S, weB a S, miB ty a M, soB sb va (if n = 0 then ml else 1) ((lnS S (cN v)).length), baB ty va (putL f 0 (lnS S (cN v)))] (nI ((lnS S (cN v)).length)) "java/lang/IndexOutOfBoundsException" [ppB o (a 0) (b 0) (sn 0) (h 0) r (t 0) sb hs lf, stB a S, lnB ty a S, quB ty a S, weB a S, miB ty a M, soB sb va ml n, baB ty va f] 1 6 := by
  refine m_xji (J := J) (cc := cX8_line) (maxL := 2) (ret := (some .int)) (by decide +kernel) rfl (Nat.le_of_ble_eq_true rfl) ?_
  intro p e s m below meth c A ls hx hb hml hr hlocks hown hts hex hz hj w hl
  have hown : s.vm.findClass RX8 = some m.cls := hown
  have hl : lv_has ls 2 [(0, .ref o), (1, .int v)] := hl
  refine lv_aload_n hx hb dX8_line_0 rfl (lv_at hl 0 rfl) ?_
  refine r_get (v' := .ref (a 0)) hx hb hts in_X8_line_X8 hown w 0 0 rfl rfl (ci := 12) rfl 0 (by decide) (hts _ (List.mem_of_getElem? (i := 3) rfl)) rfl rfl rfl dX8_line_1 ?_
  refine r_getN (v' := .ref (a 20)) hx hb hts in_X8_line_X6 hown w 1 0 rfl rfl (ci := 10) rfl 3 (by decide) (w.2.2.2.2.2 _ (List.mem_of_getElem? (i := 36) rfl)) rfl rfl rfl dX8_line_4 ?_
  refine lv_iload_n hx hb dX8_line_7 rfl (lv_at hl 1 rfl) ?_
  refine k_iVN (As := [.int v]) (rest := []) (Rs := [ppB o (a 0) (b 0) (sn 0) (h 0) r (t 0) sb hs lf, stB a S, lnB ty a S, quB ty a S, weB a S, soB sb va ml n, baB ty va f]) (Bs' := [ppB o (a 0) (b 0) (sn 0) (h 0) r (t 0) sb hs lf, stB a S, lnB ty a S, quB ty a S, weB a S, miB ty a M, soB sb va ml n, baB ty va f]) ⟨hx, hb, hml, hown, hts⟩ w (c_X3_has l D ty a M mm hm0 hmm v) ⟨va_cnB 1 hts gX8_line_X3_has_n337 rfl rfl rfl (w.2.2.2.2.2 _ (List.mem_of_getElem? (i := 112) rfl)) (hts _ (List.mem_of_getElem? (i := 6) rfl)) hdN_X3_has ⟨Nat.le_of_ble_eq_true rfl, Nat.le_of_ble_eq_true rfl⟩, (hts _ (List.mem_of_getElem? (i := 5) rfl)), (hts _ (List.mem_of_getElem? (i := 7) rfl))⟩ [5, 0, 1, 2, 3, 4, 6, 7] (nB := 8) (by decide) rfl rfl rfl rfl 5 rfl rfl (ci := 7) rfl rfl rfl hl.1 rfl (Nat.le_of_ble_eq_true rfl) dX8_line_8 ⟨(Nat.zero_le _), (Nat.zero_le _)⟩ (fun H locs w => ?_)
  refine lv_if_ne (tgt := 25) hx hb dX8_line_11 (by decide) (fun c11 => ?_) (fun c11 => ?_)
  · have c11 := bI_1.mp c11
    obtain ⟨i, ggi, rfl⟩ := (pHas_iff (by omega)).mp c11
    obtain ⟨kd, dd, da, db, hE, hT⟩ := hR i ggi
    have hv2 : cN (nI i) = i := cN_nI (by omega)
    refine lv_aload_n hx hb dX8_line_25 rfl (lv_at hl 0 rfl) ?_
    refine r_get (v' := .ref (a 0)) hx hb hts in_X8_line_X8 hown w 0 0 rfl rfl (ci := 12) rfl 0 (by decide) (hts _ (List.mem_of_getElem? (i := 3) rfl)) rfl rfl rfl dX8_line_26 ?_
    refine r_getN (v' := .ref (a 20)) hx hb hts in_X8_line_X6 hown w 1 0 rfl rfl (ci := 10) rfl 3 (by decide) (w.2.2.2.2.2 _ (List.mem_of_getElem? (i := 36) rfl)) rfl rfl rfl dX8_line_29 ?_
    refine lv_iload_n hx hb dX8_line_32 rfl (lv_at hl 1 rfl) ?_
    refine lv_aload_n hx hb dX8_line_33 rfl (lv_at hl 0 rfl) ?_
    refine r_get (v' := .ref sb) hx hb hts in_X8_line_X8 hown w 0 0 rfl rfl (ci := 12) rfl 8 (by decide) (hts _ (List.mem_of_getElem? (i := 4) rfl)) rfl rfl rfl dX8_line_34 ?_
    refine j_vVN (As := [.int (nI i), .ref sb]) (rest := []) (Rs := [ppB o (a 0) (b 0) (sn 0) (h 0) r (t 0) sb hs lf, stB a S, lnB ty a S, quB ty a S, weB a S]) (Bs' := [ppB o (a 0) (b 0) (sn 0) (h 0) r (t 0) sb hs lf, stB a S, lnB ty a S, quB ty a S, weB a S, miB ty a M, soB sb va (if n = 0 then ml else 1) ((lnT kd dd da db).length), baB ty va (putL f 0 (lnT kd dd da db))]) ⟨hx, hb, hml, hown, hts⟩ hj w (c_X3_write l J D ty a M mm x hm0 hm1 hxx hmm i ((x + 20 - mm + i) % 20) (by omega) rfl kd dd da db hE sb va ml n hn31 f) ⟨va_cnB 2 hts gX8_line_X3_write_n342 rfl rfl rfl (w.2.2.2.2.2 _ (List.mem_of_getElem? (i := 113) rfl)) (hts _ (List.mem_of_getElem? (i := 6) rfl)) hdN_X3_write ⟨Nat.le_of_ble_eq_true rfl, Nat.le_of_ble_eq_true rfl⟩, (hts _ (List.mem_of_getElem? (i := 10) rfl)), (hts _ (List.mem_of_getElem? (i := 11) rfl))⟩ [5, 6, 7, 0, 1, 2, 3, 4] (nB := 8) (by decide) rfl rfl rfl rfl 5 rfl rfl (ci := 7) rfl rfl rfl hl.1 rfl (Nat.le_of_ble_eq_true rfl) dX8_line_37 ⟨(Nat.zero_le _), (Nat.zero_le _)⟩ (fun H locs w => ?_)
    refine lv_aload_n hx hb dX8_line_40 rfl (lv_at hl 0 rfl) ?_
    refine r_get (v' := .ref sb) hx hb hts in_X8_line_X8 hown w 0 0 rfl rfl (ci := 12) rfl 8 (by decide) (hts _ (List.mem_of_getElem? (i := 4) rfl)) rfl rfl rfl dX8_line_41 ?_
    refine j_iV (As := []) (rest := []) (Rs := [ppB o (a 0) (b 0) (sn 0) (h 0) r (t 0) sb hs lf, stB a S, lnB ty a S, quB ty a S, weB a S, miB ty a M, baB ty va (putL f 0 (lnT kd dd da db))]) (Bs' := [ppB o (a 0) (b 0) (sn 0) (h 0) r (t 0) sb hs lf, stB a S, lnB ty a S, quB ty a S, weB a S, miB ty a M, soB sb va (if n = 0 then ml else 1) ((lnT kd dd da db).length), baB ty va (putL f 0 (lnT kd dd da db))]) ⟨hx, hb, hml, hown, hts⟩ hj w (c_J4_length_8abf5 l J D ty sb va (if n = 0 then ml else 1) ((lnT kd dd da db).length)) (cwV 0 hts gX8_line_J4_length_8abf5 rfl rfl rfl ⟨rfl, hdN_J4_length_8abf5⟩ ⟨Nat.le_of_ble_eq_true rfl, Nat.le_of_ble_eq_true rfl⟩) [6, 0, 1, 2, 3, 4, 5, 7] (nB := 8) (by decide) rfl rfl rfl rfl 6 rfl rfl (ci := 1) rfl rfl rfl hl.1 rfl (Nat.le_of_ble_eq_true rfl) dX8_line_44 ⟨(Nat.zero_le _), (Nat.zero_le _)⟩ (fun H locs w => ?_)
    exact x_i hx hb hr hlocks (w.cast (by rw [hv2, hT])) (if_pos c11) (by rw [hv2, hT]) dX8_line_47 (Nat.le_of_ble_eq_true rfl) (Nat.le_of_ble_eq_true rfl)
  · have c11 := bI_0.mp c11
    exact x_throwW hx hb hst w hz (by rw [t1, if_neg (bt_n c11)]; decide) rfl hown (by decide) (by decide) (hts _ (List.mem_of_getElem? (i := 1) rfl)) (hts _ (List.mem_of_getElem? (i := 2) rfl)) (hz.1.2 (340, "there is no such minute") (by decide)) (vx_hat (fun w hw => hts w (inx_X8_line_161 w hw)) xb_161 hz.1.1.use) (xg_c xg_161) (hl.1.trans hml.symm) dX8_line_14 dX8_line_17 dX8_line_18 dX8_line_21 dX8_line_24 hex (Nat.le_of_ble_eq_true rfl) (Nat.le_of_ble_eq_true rfl) (Nat.le_of_ble_eq_true rfl) (Nat.le_of_ble_eq_true rfl) hlocks (Nat.le_of_ble_eq_true rfl) (Nat.le_of_ble_eq_true rfl)

theorem in_X8_character_X8 : ∀ w ∈ wsX80, w ∈ wsX8_character := by decide +kernel
theorem inx_X8_character_161 : ∀ w ∈ (vx_atS RX8 161 "java/lang/IndexOutOfBoundsException" ["java/lang/RuntimeException", "java/lang/Exception"]).filter goodWord, w ∈ wsX8_character := by decide +kernel
theorem hdN_X8_character : yX8_character.cls ≠ "java/lang/invoke/MethodHandle" ∧ yX8_character.cls ≠ "java/lang/invoke/VarHandle" ∧ (parseMethodDescriptor yX8_character.desc).map (fun d => d.parameters.length) = some 1 := by decide +kernel
set_option maxRecDepth 100000 in
set_option maxHeartbeats 4000000 in
theorem c_X8_character (l : Launch) (J : Nat → Nat) (hst : l.stackTraces = false) (D : va_G) (ty : Nat → ClassId) (o : Nat) (a b sn h t : Nat → Nat) (r sb va : Nat) (hs lf v ml : Int32) (n : Nat) (hn : n ≤ 16) (f : pS) (hf : ∀ i, i < n → ∃ q : Nat, q < 128 ∧ f i = nI q) : XJi J l yX8_character wsX8_character (kR 6 90 1 6) D (kTY ty) [.ref o, .int v] [ppB o (a 0) (b 0) (sn 0) (h 0) r (t 0) sb hs lf, soB sb va ml n, baB ty va f] (t1 (pHas v n) = 0) [ppB o (a 0) (b 0) (sn 0) (h 0) r (t 0) sb hs lf, soB sb va ml n, baB ty va f] (f (cN v)) "java/lang/IndexOutOfBoundsException" [ppB o (a 0) (b 0) (sn 0) (h 0) r (t 0) sb hs lf, soB sb va ml n, baB ty va f] 1 6 := by
  refine m_xji (J := J) (cc := cX8_character) (maxL := 2) (ret := (some .char)) (by decide +kernel) rfl (Nat.le_of_ble_eq_true rfl) ?_
  intro p e s m below meth c A ls hx hb hml hr hlocks hown hts hex hz hj w hl
  have hown : s.vm.findClass RX8 = some m.cls := hown
  have hl : lv_has ls 2 [(0, .ref o), (1, .int v)] := hl
  refine lv_iload_n hx hb dX8_character_0 rfl (lv_at hl 1 rfl) ?_
  refine lv_iconst (v := 0) hx hb dX8_character_1 (by decide) ?_
  refine lv_aload_n hx hb dX8_character_2 rfl (lv_at hl 0 rfl) ?_
  refine r_get (v' := .ref sb) hx hb hts in_X8_character_X8 hown w 0 0 rfl rfl (ci := 12) rfl 8 (by decide) (hts _ (List.mem_of_getElem? (i := 3) rfl)) rfl rfl rfl dX8_character_3 ?_
  refine j_iV (As := []) (rest := [.int 0, .int v]) (Rs := [ppB o (a 0) (b 0) (sn 0) (h 0) r (t 0) sb hs lf, baB ty va f]) (Bs' := [ppB o (a 0) (b 0) (sn 0) (h 0) r (t 0) sb hs lf, soB sb va ml n, baB ty va f]) ⟨hx, hb, hml, hown, hts⟩ hj w (c_J4_length_8abf5 l J D ty sb va ml n) (cwV 0 hts gX8_character_J4_length_8abf5 rfl rfl rfl ⟨rfl, hdN_J4_length_8abf5⟩ ⟨Nat.le_of_ble_eq_true rfl, Nat.le_of_ble_eq_true rfl⟩) [1, 0, 2] (nB := 3) (by decide) rfl rfl rfl rfl 1 rfl rfl (ci := 1) rfl rfl rfl hl.1 rfl (Nat.le_of_ble_eq_true rfl) dX8_character_6 ⟨(Nat.zero_le _), (Nat.zero_le _)⟩ (fun H locs w => ?_)
  refine lv_iconst (v := 1) hx hb dX8_character_9 (by decide) ?_
  refine lv_isub hx hb dX8_character_10 ?_
  refine k_iS (As := [.int v, .int 0, .int ((nI n) - 1)]) (rest := []) (Rs := [ppB o (a 0) (b 0) (sn 0) (h 0) r (t 0) sb hs lf, soB sb va ml n, baB ty va f]) (Bs' := [ppB o (a 0) (b 0) (sn 0) (h 0) r (t 0) sb hs lf, soB sb va ml n, baB ty va f]) ⟨hx, hb, hml, hown, hts⟩ w (c_X8_isWithin l D ty v 0 ((nI n) - 1)) (va_cwS 3 hts gX8_character_X8_isWithin rfl rfl rfl hdN_X8_isWithin ⟨Nat.le_of_ble_eq_true rfl, Nat.le_of_ble_eq_true rfl⟩) [0, 1, 2] (nB := 3) (by decide) rfl rfl rfl rfl rfl hl.1 rfl (Nat.le_of_ble_eq_true rfl) dX8_character_11 ⟨(Nat.zero_le _), (Nat.zero_le _)⟩ (fun H locs w => ?_)
  refine lv_if_ne (tgt := 28) hx hb dX8_character_14 (by decide) (fun c14 => ?_) (fun c14 => ?_)
  · have c14 := bI_1.mp c14
    rw [pIn_hasN (show n ≤ 1000 by omega)] at c14
    obtain ⟨i, ggi, rfl⟩ := (pHas_iff (by omega)).mp c14
    refine lv_aload_n hx hb dX8_character_28 rfl (lv_at hl 0 rfl) ?_
    refine r_get (v' := .ref sb) hx hb hts in_X8_character_X8 hown w 0 0 rfl rfl (ci := 12) rfl 8 (by decide) (hts _ (List.mem_of_getElem? (i := 3) rfl)) rfl rfl rfl dX8_character_29 ?_
    refine lv_iload_n hx hb dX8_character_32 rfl (lv_at hl 1 rfl) ?_
    refine j_iV (As := [.int (nI i)]) (rest := []) (Rs := [ppB o (a 0) (b 0) (sn 0) (h 0) r (t 0) sb hs lf]) (Bs' := [ppB o (a 0) (b 0) (sn 0) (h 0) r (t 0) sb hs lf, soB sb va ml n, baB ty va f]) ⟨hx, hb, hml, hown, hts⟩ hj w (c_J4_charAt_5068e l J D ty sb va ml n f i (by omega) hn (hf i (by omega))) (cwV 1 hts gX8_character_J4_charAt_5068e rfl rfl rfl ⟨rfl, hdN_J4_charAt_5068e⟩ ⟨Nat.le_of_ble_eq_true rfl, Nat.le_of_ble_eq_true rfl⟩) [1, 2, 0] (nB := 3) (by decide) rfl rfl rfl rfl 1 rfl rfl (ci := 1) rfl rfl rfl hl.1 rfl (Nat.le_of_ble_eq_true rfl) dX8_character_33 ⟨(Nat.zero_le _), (Nat.zero_le _)⟩ (fun H locs w => ?_)
    exact x_z hx hb hr (by obtain ⟨q, hq, e9⟩ := hf i (by omega); rw [e9]; exact jb_cnar q hq) hlocks w (if_pos c14) (by rw [cN_nI (show i < 2 ^ 31 by omega)]) dX8_character_36 (Nat.le_of_ble_eq_true rfl) (Nat.le_of_ble_eq_true rfl)
  · have c14 := bI_0.mp c14
    rw [pIn_hasN (show n ≤ 1000 by omega)] at c14
    exact x_throwW hx hb hst w hz (by rw [t1, if_neg (bt_n c14)]; decide) rfl hown (by decide) (by decide) (hts _ (List.mem_of_getElem? (i := 1) rfl)) (hts _ (List.mem_of_getElem? (i := 2) rfl)) (hz.1.2 (348, "there is no such index in the line") (by decide)) (vx_hat (fun w hw => hts w (inx_X8_character_161 w hw)) xb_161 hz.1.1.use) (xg_c xg_161) (hl.1.trans hml.symm) dX8_character_17 dX8_character_20 dX8_character_21 dX8_character_24 dX8_character_27 hex (Nat.le_of_ble_eq_true rfl) (Nat.le_of_ble_eq_true rfl) (Nat.le_of_ble_eq_true rfl) (Nat.le_of_ble_eq_true rfl) hlocks (Nat.le_of_ble_eq_true rfl) (Nat.le_of_ble_eq_true rfl)
