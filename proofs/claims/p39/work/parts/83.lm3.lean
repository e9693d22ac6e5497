theorem hdN_L_acts : yL_acts.cls ≠ "java/lang/invoke/MethodHandle" ∧ yL_acts.cls ≠ "java/lang/invoke/VarHandle" ∧ (parseMethodDescriptor yL_acts.desc).map (fun d => d.parameters.length) = some 4 := by decide +kernel
set_option maxRecDepth 100000 in
set_option maxHeartbeats 4000000 in
theorem c_L_acts (l : Launch) (hst : l.stackTraces = false) (D : va_G) (ty : Nat → ClassId) (b9 L9 : Nat) (xs : Nat → Int32) (o : Nat) (a b sn h t : Nat → Nat) (ha : Nat → Nat → Nat) (r sb : Nat) (hs lf ln cn : Int32) (ch le nu : Nat → Int32) (S M : pS) (HX : Nat → pX) (sz : Int32) (nx : Nat) (f : Nat → Int32) (B n : Nat) (hJ : LJ B n (S, M)) (hnx : nx < 8) (hn1 : 1 ≤ n) (hB : B + 50 < 10 ^ 7) (i : Nat) (hi : i < 900) (v : Int32) : Sx b9 L9 xs l yL_acts wsL_acts (kR 8 157 1 6) D (kTY ty) [.ref o, .ref b9, .int (nI i), .int v] [ppB o (a 0) (b 0) (sn 0) (h 0) r (t 0) sb hs lf, rfB r (f 0) (f 1) (f 2) (f 3), stB a S, lnB ty a S, quB ty a S, weB a S, miB ty a M, hiB ty h ha sz (nI nx), stF ty (ha 0) (HX 0), stF ty (ha 1) (HX 1), stF ty (ha 2) (HX 2), stF ty (ha 3) (HX 3), stF ty (ha 4) (HX 4), stF ty (ha 5) (HX 5), stF ty (ha 6) (HX 6), stF ty (ha 7) (HX 7), txB ty t ln cn ch le nu] (fun _ (u : LU) => LI (B + 50) n u) (luW ty o a b sn h t ha r sb hs lf ln cn ch le nu) 1 6 := by
  refine m_sw (cc := cL_acts) (maxL := 5) (ret := (some .int)) (hh := [(0, 7, 8, 61)]) (by decide +kernel) rfl (Nat.le_of_ble_eq_true rfl) ?_
  intro p e s m below meth c A ls hx hb hml hr hlocks hown hts htab hz hs9 w hl
  have hown : s.vm.findClass RL = some m.cls := hown
  have hL9 := hs9.2.2.2
  have hl : lv_has ls 5 [(0, .ref o), (1, .ref b9), (2, .int (nI i)), (3, .int v)] := hl
  refine lv_aload_n hx hb dL_acts_0 rfl (lv_at hl 0 rfl) ?_
  refine lv_aload_n hx hb dL_acts_1 rfl (lv_at hl 1 rfl) ?_
  refine lv_iload_n hx hb dL_acts_2 rfl (lv_at hl 2 rfl) ?_
  refine lv_iload_n hx hb dL_acts_3 rfl (lv_at hl 3 rfl) ?_
  refine l_cSd (As := [.ref o, .ref b9, .int (nI i), .int v]) (rest := []) (Cs := [ppB o (a 0) (b 0) (sn 0) (h 0) r (t 0) sb hs lf, rfB r (f 0) (f 1) (f 2) (f 3), stB a S, lnB ty a S, quB ty a S, weB a S, miB ty a M, hiB ty h ha sz (nI nx), stF ty (ha 0) (HX 0), stF ty (ha 1) (HX 1), stF ty (ha 2) (HX 2), stF ty (ha 3) (HX 3), stF ty (ha 4) (HX 4), stF ty (ha 5) (HX 5), stF ty (ha 6) (HX 6), stF ty (ha 7) (HX 7), txB ty t ln cn ch le nu]) (Rs := []) ⟨hx, hb, hml, hown, hts⟩ hz hs9 w (c_L_done l hst D ty b9 L9 xs o a b sn h t ha r sb hs lf ln cn ch le nu S M HX sz nx f B n hJ hnx hn1 hB i hi v) (va_cwS 4 hts gL_acts_L_done rfl rfl rfl hdN_L_done ⟨(Nat.le_of_ble_eq_true rfl), (Nat.le_of_ble_eq_true rfl)⟩) rfl hl.1 rfl (Nat.le_of_ble_eq_true rfl) dL_acts_4 ⟨(Nat.le_of_ble_eq_true rfl), (Nat.le_of_ble_eq_true rfl)⟩ (fun u4 q9 H locs hu4 hth w => ?_) (fun r4 u4 H locs hu4 w => ?_)
  · refine l_c1 hown htab (by decide) (by decide) (hts _ (List.mem_of_getElem? (i := 1) rfl)) (hz.1.1.use _ xk_UOE) hth ?_
    refine lv_astore (lv' := [(4, .ref q9), (0, .ref o), (1, .ref b9), (2, .int (nI i)), (3, .int v)]) hx hb dL_acts_8 hl (by decide) rfl (fun ls hl => ?_)
    refine lv_bipush (v := (-9)) hx hb dL_acts_10 (by decide) ?_
    exact e_s hx hb hr hlocks w u4 hu4 (List.append_nil _) dL_acts_12 (Nat.le_of_ble_eq_true rfl) (Nat.le_of_ble_eq_true rfl)
  exact e_s hx hb hr hlocks w u4 hu4 (List.append_nil _) dL_acts_7 (Nat.le_of_ble_eq_true rfl) (Nat.le_of_ble_eq_true rfl)

theorem hdN_L_any : yL_any.cls ≠ "java/lang/invoke/MethodHandle" ∧ yL_any.cls ≠ "java/lang/invoke/VarHandle" ∧ (parseMethodDescriptor yL_any.desc).map (fun d => d.parameters.length) = some 3 := by decide +kernel
set_option maxRecDepth 100000 in
set_option maxHeartbeats 4000000 in
theorem c_L_any (l : Launch) (hst : l.stackTraces = false) (D : va_G) (ty : Nat → ClassId) (b9 L9 : Nat) (xs : Nat → Int32) (o : Nat) (a b sn h t : Nat → Nat) (ha : Nat → Nat → Nat) (r sb : Nat) (hs lf ln cn : Int32) (ch le nu : Nat → Int32) (S M : pS) (HX : Nat → pX) (sz : Int32) (nx : Nat) (f : Nat → Int32) (B n : Nat) (hJ : LJ B n (S, M)) (hnx : nx < 8) (hn1 : 1 ≤ n) (hB : B + 50 < 10 ^ 7) (i : Nat) (hi : i < 900) : Sx b9 L9 xs l yL_any wsL_any (kR 9 181 1 6) D (kTY ty) [.ref o, .ref b9, .int (nI i)] [ppB o (a 0) (b 0) (sn 0) (h 0) r (t 0) sb hs lf, rfB r (f 0) (f 1) (f 2) (f 3), stB a S, lnB ty a S, quB ty a S, weB a S, miB ty a M, hiB ty h ha sz (nI nx), stF ty (ha 0) (HX 0), stF ty (ha 1) (HX 1), stF ty (ha 2) (HX 2), stF ty (ha 3) (HX 3), stF ty (ha 4) (HX 4), stF ty (ha 5) (HX 5), stF ty (ha 6) (HX 6), stF ty (ha 7) (HX 7), txB ty t ln cn ch le nu] (fun _ (u : LU) => LI (B + 50) n u) (luW ty o a b sn h t ha r sb hs lf ln cn ch le nu) 1 6 := by
  refine m_s (cc := cL_any) (maxL := 3) (ret := (some .int)) (by decide +kernel) rfl (Nat.le_of_ble_eq_true rfl) ?_
  intro p e s m below meth c A ls hx hb hml hr hlocks hown hts hz hs9 w hl
  have hown : s.vm.findClass RL = some m.cls := hown
  have hL9 := hs9.2.2.2
  have hl : lv_has ls 3 [(0, .ref o), (1, .ref b9), (2, .int (nI i))] := hl
  refine lv_aload_n hx hb dL_any_0 rfl (lv_at hl 0 rfl) ?_
  refine lv_aload_n hx hb dL_any_1 rfl (lv_at hl 1 rfl) ?_
  refine lv_iload_n hx hb dL_any_2 rfl (lv_at hl 2 rfl) ?_
  refine lv_aload_n hx hb dL_any_3 rfl (lv_at hl 1 rfl) ?_
  refine lv_iload_n hx hb dL_any_4 rfl (lv_at hl 2 rfl) ?_
  refine lv_bipush (v := 14) hx hb dL_any_5 (by decide) ?_
  refine l_cS (As := [.ref b9, .int (nI i), .int 14]) (rest := [.int (nI i), .ref b9, .ref o]) (Cs := []) (Rs := [ppB o (a 0) (b 0) (sn 0) (h 0) r (t 0) sb hs lf, rfB r (f 0) (f 1) (f 2) (f 3), stB a S, lnB ty a S, quB ty a S, weB a S, miB ty a M, hiB ty h ha sz (nI nx), stF ty (ha 0) (HX 0), stF ty (ha 1) (HX 1), stF ty (ha 2) (HX 2), stF ty (ha 3) (HX 3), stF ty (ha 4) (HX 4), stF ty (ha 5) (HX 5), stF ty (ha 6) (HX 6), stF ty (ha 7) (HX 7), txB ty t ln cn ch le nu]) ⟨hx, hb, hml, hown, hts⟩ hz hs9 w (c_L_pick l D ty b9 L9 xs i 14 (by omega) (by omega) (by omega)) (va_cwS 3 hts gL_any_L_pick rfl rfl rfl hdN_L_pick ⟨(Nat.le_of_ble_eq_true rfl), (Nat.le_of_ble_eq_true rfl)⟩) rfl hl.1 rfl (Nat.le_of_ble_eq_true rfl) dL_any_7 ⟨(Nat.le_of_ble_eq_true rfl), (Nat.le_of_ble_eq_true rfl)⟩ (fun r7 u7 H locs hu7 w => ?_)
  obtain ⟨rfl, hj7⟩ := hu7
  have w := w.cast (Bs' := [ppB o (a 0) (b 0) (sn 0) (h 0) r (t 0) sb hs lf, rfB r (f 0) (f 1) (f 2) (f 3), stB a S, lnB ty a S, quB ty a S, weB a S, miB ty a M, hiB ty h ha sz (nI nx), stF ty (ha 0) (HX 0), stF ty (ha 1) (HX 1), stF ty (ha 2) (HX 2), stF ty (ha 3) (HX 3), stF ty (ha 4) (HX 4), stF ty (ha 5) (HX 5), stF ty (ha 6) (HX 6), stF ty (ha 7) (HX 7), txB ty t ln cn ch le nu]) rfl
  refine l_cSW (As := [.ref o, .ref b9, .int (nI i), .int (nI u7)]) (rest := []) (Cs := [ppB o (a 0) (b 0) (sn 0) (h 0) r (t 0) sb hs lf, rfB r (f 0) (f 1) (f 2) (f 3), stB a S, lnB ty a S, quB ty a S, weB a S, miB ty a M, hiB ty h ha sz (nI nx), stF ty (ha 0) (HX 0), stF ty (ha 1) (HX 1), stF ty (ha 2) (HX 2), stF ty (ha 3) (HX 3), stF ty (ha 4) (HX 4), stF ty (ha 5) (HX 5), stF ty (ha 6) (HX 6), stF ty (ha 7) (HX 7), txB ty t ln cn ch le nu]) (Rs := []) ⟨hx, hb, hml, hown, hts⟩ hz hs9 w (c_L_acts l hst D ty b9 L9 xs o a b sn h t ha r sb hs lf ln cn ch le nu S M HX sz nx f B n hJ hnx hn1 hB i hi (nI u7)) (vx_cwSW 4 hts gL_any_L_acts rfl rfl rfl hdN_L_acts ⟨(Nat.le_of_ble_eq_true rfl), (Nat.le_of_ble_eq_true rfl)⟩) rfl hl.1 rfl (Nat.le_of_ble_eq_true rfl) dL_any_10 ⟨(Nat.le_of_ble_eq_true rfl), (Nat.le_of_ble_eq_true rfl)⟩ (fun r10 u10 H locs hu10 w => ?_)
  exact e_s hx hb hr hlocks w u10 hu10 (List.append_nil _) dL_any_13 (Nat.le_of_ble_eq_true rfl) (Nat.le_of_ble_eq_true rfl)
