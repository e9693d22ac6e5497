set_option maxRecDepth 100000 in
set_option maxHeartbeats 4000000 in
theorem c_L_household (l : Launch) (hst : l.stackTraces = false) (J : Nat → Nat) (D : va_G) (ty : Nat → ClassId) (o : Nat) (a b sn h t : Nat → Nat) (ha : Nat → Nat → Nat) (HX : Nat → pX) (r sb : Nat) (hs lf f0 f1 f2 f3 sz : Int32) (nx : Nat) (hnx : nx < 8) (S M : pS) (B : Nat) (hB : B < 10 ^ 7) (hV : IV B (S, M)) (v y z : Int32) (oq : Nat) (og : Nat → Int64) : Lx J l yL_household wsL_household (kR 7 153 1 6) D (kTY ty) [.ref o, .int v, .int y, .int z, .ref oq] [ppB o (a 0) (b 0) (sn 0) (h 0) r (t 0) sb hs lf, rfB r f0 f1 f2 f3, stB a S, lnB ty a S, quB ty a S, weB a S, miB ty a M, hiB ty h ha sz (nI nx), stF ty (ha 0) (HX 0), stF ty (ha 1) (HX 1), stF ty (ha 2) (HX 2), stF ty (ha 3) (HX 3), stF ty (ha 4) (HX 4), stF ty (ha 5) (HX 5), stF ty (ha 6) (HX 6), stF ty (ha 7) (HX 7), ouB ty oq og] ((wHouse S v y z).1 = 0) [ppB o (a 0) (b 0) (sn 0) (h 0) r (t 0) sb hs lf, rfW r (wHouse S v y z) f0 f1 f2 f3, stB a (sHouse S (cN (S 0)) v y z), lnB ty a (sHouse S (cN (S 0)) v y z), quB ty a (sHouse S (cN (S 0)) v y z), weB a (sHouse S (cN (S 0)) v y z), miB ty a M, hiB ty h ha (jmin 8 (sz + 1)) (nI ((nx + 1) % 8)), stF ty (ha 0) (va_up HX nx (S, M) 0), stF ty (ha 1) (va_up HX nx (S, M) 1), stF ty (ha 2) (va_up HX nx (S, M) 2), stF ty (ha 3) (va_up HX nx (S, M) 3), stF ty (ha 4) (va_up HX nx (S, M) 4), stF ty (ha 5) (va_up HX nx (S, M) 5), stF ty (ha 6) (va_up HX nx (S, M) 6), stF ty (ha 7) (va_up HX nx (S, M) 7), ouB ty oq (vp_updL og 0 ((S 0).toInt64))] [ppB o (a 0) (b 0) (sn 0) (h 0) r (t 0) sb hs lf, rfW r (wHouse S v y z) f0 f1 f2 f3, stB a S, lnB ty a S, quB ty a S, weB a S, miB ty a M, hiB ty h ha sz (nI nx), stF ty (ha 0) (HX 0), stF ty (ha 1) (HX 1), stF ty (ha 2) (HX 2), stF ty (ha 3) (HX 3), stF ty (ha 4) (HX 4), stF ty (ha 5) (HX 5), stF ty (ha 6) (HX 6), stF ty (ha 7) (HX 7), ouB ty oq og] 1 1 6 := by
  refine m_lx (cc := cL_household) (maxL := 6) (ret := (some .int)) (hh := [(0, 12, 15, 13)]) (by decide +kernel) rfl (Nat.le_of_ble_eq_true rfl) ?_
  intro p e s m below meth c A ls hx hb hml hr hlocks hown hts htab hnc hz hj w hl
  have hown : s.vm.findClass RL = some m.cls := hown
  have hl : lv_has ls 6 [(0, .ref o), (1, .int v), (2, .int y), (3, .int z), (4, .ref oq)] := hl
  refine lv_aload hx hb dL_household_0 (lv_at hl 4 rfl) ?_
  refine lv_iconst (v := 0) hx hb dL_household_2 (by decide) ?_
  refine lv_aload_n hx hb dL_household_3 rfl (lv_at hl 0 rfl) ?_
  refine lv_iload_n hx hb dL_household_4 rfl (lv_at hl 1 rfl) ?_
  refine lv_iload_n hx hb dL_household_5 rfl (lv_at hl 2 rfl) ?_
  refine lv_iload_n hx hb dL_household_6 rfl (lv_at hl 3 rfl) ?_
  refine xc_i (As := [.int v, .int y, .int z]) (rest := [.int 0, .ref oq]) (Rs := [ouB ty oq og]) ⟨hx, hb, hml, hown, hts⟩ hz hj w (c_X8_household l hst D ty o a b sn h t ha HX r sb hs lf f0 f1 f2 f3 sz nx hnx S M B hB hV v y z) (cwV 3 hts gL_household_X8_household rfl rfl rfl ⟨rfl, hdN_X8_household⟩ ⟨Nat.le_of_ble_eq_true rfl, Nat.le_of_ble_eq_true rfl⟩) [0, 1, 2, 3, 4, 5, 6, 7, 8, 9, 10, 11, 12, 13, 14, 15, 16] (nB := 17) (by decide) rfl rfl 0 rfl rfl (ci := 12) rfl rfl rfl hl.1 rfl (Nat.le_of_ble_eq_true rfl) dL_household_7 ⟨(Nat.le_of_ble_eq_true rfl), (Nat.le_of_ble_eq_true rfl)⟩ (fun q9 H locs hok hth w => ?_) (fun H locs hok w => ?_)
  · refine l_c1 hown htab (by decide) (by decide) (hts _ (List.mem_of_getElem? (i := 1) rfl)) (hz.1.1.use _ xk_UOE) hth ?_
    refine lv_astore (lv' := [(5, .ref q9), (0, .ref o), (1, .int v), (2, .int y), (3, .int z), (4, .ref oq)]) hx hb dL_household_15 hl (by decide) rfl (fun ls hl => ?_)
    refine lv_iconst (v := 1) hx hb dL_household_17 (by decide) ?_
    exact l_end false hx hb hr hlocks w (Or.inr ⟨rfl, hok, rfl⟩) dL_household_18 (Nat.le_of_ble_eq_true rfl) (Nat.le_of_ble_eq_true rfl)
  · refine lv_i2l (v := ((S 0)).toInt64) hx hb dL_household_10 rfl ?_
    refine r_last hx hb w 16 0 rfl rfl 5 rfl 0 (by decide) (Nat.le_of_ble_eq_true rfl) rfl (ouB ty oq (vp_updL og 0 ((S 0).toInt64))) rfl [ppB o (a 0) (b 0) (sn 0) (h 0) r (t 0) sb hs lf, rfW r (wHouse S v y z) f0 f1 f2 f3, stB a (sHouse S (cN (S 0)) v y z), lnB ty a (sHouse S (cN (S 0)) v y z), quB ty a (sHouse S (cN (S 0)) v y z), weB a (sHouse S (cN (S 0)) v y z), miB ty a M, hiB ty h ha (jmin 8 (sz + 1)) (nI ((nx + 1) % 8)), stF ty (ha 0) (va_up HX nx (S, M) 0), stF ty (ha 1) (va_up HX nx (S, M) 1), stF ty (ha 2) (va_up HX nx (S, M) 2), stF ty (ha 3) (va_up HX nx (S, M) 3), stF ty (ha 4) (va_up HX nx (S, M) 4), stF ty (ha 5) (va_up HX nx (S, M) 5), stF ty (ha 6) (va_up HX nx (S, M) 6), stF ty (ha 7) (va_up HX nx (S, M) 7), ouB ty oq (vp_updL og 0 ((S 0).toInt64))] rfl dL_household_11 (fun H locs w => ?_)
    refine lv_goto (tgt := 19) hx hb dL_household_12 (by decide) ?_
    refine lv_iconst (v := 0) hx hb dL_household_19 (by decide) ?_
    exact l_end true hx hb hr hlocks w (Or.inl ⟨rfl, hok, rfl⟩) dL_household_20 (Nat.le_of_ble_eq_true rfl) (Nat.le_of_ble_eq_true rfl)
theorem hdN_L_household : yL_household.cls ≠ "java/lang/invoke/MethodHandle" ∧ yL_household.cls ≠ "java/lang/invoke/VarHandle" ∧ (parseMethodDescriptor yL_household.desc).map (fun d => d.parameters.length) = some 5 := by decide +kernel

set_option maxRecDepth 100000 in
set_option maxHeartbeats 4000000 in
theorem c_L_join (l : Launch) (hst : l.stackTraces = false) (J : Nat → Nat) (D : va_G) (ty : Nat → ClassId) (o : Nat) (a b sn h t : Nat → Nat) (ha : Nat → Nat → Nat) (HX : Nat → pX) (r sb : Nat) (hs lf f0 f1 f2 f3 sz : Int32) (nx : Nat) (hnx : nx < 8) (S M : pS) (B : Nat) (hB : B < 10 ^ 7) (hV : IV B (S, M)) (v : Int32) (oq : Nat) (og : Nat → Int64) : Lx J l yL_join wsL_join (kR 7 151 1 6) D (kTY ty) [.ref o, .int v, .ref oq] [ppB o (a 0) (b 0) (sn 0) (h 0) r (t 0) sb hs lf, rfB r f0 f1 f2 f3, stB a S, lnB ty a S, quB ty a S, weB a S, miB ty a M, hiB ty h ha sz (nI nx), stF ty (ha 0) (HX 0), stF ty (ha 1) (HX 1), stF ty (ha 2) (HX 2), stF ty (ha 3) (HX 3), stF ty (ha 4) (HX 4), stF ty (ha 5) (HX 5), stF ty (ha 6) (HX 6), stF ty (ha 7) (HX 7), ouB ty oq og] ((wJoin S v).1 = 0) [ppB o (a 0) (b 0) (sn 0) (h 0) r (t 0) sb hs lf, rfW r (wJoin S v) f0 f1 f2 f3, stB a (((oJL (cN (S 0)) (cN v) (cN (S 49)) (S, M)).2).1), lnB ty a (((oJL (cN (S 0)) (cN v) (cN (S 49)) (S, M)).2).1), quB ty a (((oJL (cN (S 0)) (cN v) (cN (S 49)) (S, M)).2).1), weB a (((oJL (cN (S 0)) (cN v) (cN (S 49)) (S, M)).2).1), miB ty a (((oJL (cN (S 0)) (cN v) (cN (S 49)) (S, M)).2).2), hiB ty h ha (jmin 8 (sz + 1)) (nI ((nx + 1) % 8)), stF ty (ha 0) (va_up HX nx (S, M) 0), stF ty (ha 1) (va_up HX nx (S, M) 1), stF ty (ha 2) (va_up HX nx (S, M) 2), stF ty (ha 3) (va_up HX nx (S, M) 3), stF ty (ha 4) (va_up HX nx (S, M) 4), stF ty (ha 5) (va_up HX nx (S, M) 5), stF ty (ha 6) (va_up HX nx (S, M) 6), stF ty (ha 7) (va_up HX nx (S, M) 7), ouB ty oq (vp_updL og 0 (((oJL (cN (S 0)) (cN v) (cN (S 49)) (S, M)).1).toInt64))] [ppB o (a 0) (b 0) (sn 0) (h 0) r (t 0) sb hs lf, rfW r (wJoin S v) f0 f1 f2 f3, stB a S, lnB ty a S, quB ty a S, weB a S, miB ty a M, hiB ty h ha sz (nI nx), stF ty (ha 0) (HX 0), stF ty (ha 1) (HX 1), stF ty (ha 2) (HX 2), stF ty (ha 3) (HX 3), stF ty (ha 4) (HX 4), stF ty (ha 5) (HX 5), stF ty (ha 6) (HX 6), stF ty (ha 7) (HX 7), ouB ty oq og] 1 1 6 := by
  refine m_lx (cc := cL_join) (maxL := 4) (ret := (some .int)) (hh := [(0, 9, 12, 13)]) (by decide +kernel) rfl (Nat.le_of_ble_eq_true rfl) ?_
  intro p e s m below meth c A ls hx hb hml hr hlocks hown hts htab hnc hz hj w hl
  have hown : s.vm.findClass RL = some m.cls := hown
  have hl : lv_has ls 4 [(0, .ref o), (1, .int v), (2, .ref oq)] := hl
  refine lv_aload_n hx hb dL_join_0 rfl (lv_at hl 2 rfl) ?_
  refine lv_iconst (v := 0) hx hb dL_join_1 (by decide) ?_
  refine lv_aload_n hx hb dL_join_2 rfl (lv_at hl 0 rfl) ?_
  refine lv_iload_n hx hb dL_join_3 rfl (lv_at hl 1 rfl) ?_
  refine xc_i (As := [.int v]) (rest := [.int 0, .ref oq]) (Rs := [ouB ty oq og]) ⟨hx, hb, hml, hown, hts⟩ hz hj w (c_X8_join l hst D ty o a b sn h t ha HX r sb hs lf f0 f1 f2 f3 sz nx hnx S M B hB hV v) (cwV 1 hts gL_join_X8_join rfl rfl rfl ⟨rfl, hdN_X8_join⟩ ⟨Nat.le_of_ble_eq_true rfl, Nat.le_of_ble_eq_true rfl⟩) [0, 1, 2, 3, 4, 5, 6, 7, 8, 9, 10, 11, 12, 13, 14, 15, 16] (nB := 17) (by decide) rfl rfl 0 rfl rfl (ci := 12) rfl rfl rfl hl.1 rfl (Nat.le_of_ble_eq_true rfl) dL_join_4 ⟨(Nat.le_of_ble_eq_true rfl), (Nat.le_of_ble_eq_true rfl)⟩ (fun q9 H locs hok hth w => ?_) (fun H locs hok w => ?_)
  · refine l_c1 hown htab (by decide) (by decide) (hts _ (List.mem_of_getElem? (i := 1) rfl)) (hz.1.1.use _ xk_UOE) hth ?_
    refine lv_astore_n (lv' := [(3, .ref q9), (0, .ref o), (1, .int v), (2, .ref oq)]) hx hb dL_join_12 rfl hl (by decide) rfl (fun ls hl => ?_)
    refine lv_iconst (v := 1) hx hb dL_join_13 (by decide) ?_
    exact l_end false hx hb hr hlocks w (Or.inr ⟨rfl, hok, rfl⟩) dL_join_14 (Nat.le_of_ble_eq_true rfl) (Nat.le_of_ble_eq_true rfl)
  · refine lv_i2l (v := (((oJL (cN (S 0)) (cN v) (cN (S 49)) (S, M)).1)).toInt64) hx hb dL_join_7 rfl ?_
    refine r_last hx hb w 16 0 rfl rfl 5 rfl 0 (by decide) (Nat.le_of_ble_eq_true rfl) rfl (ouB ty oq (vp_updL og 0 (((oJL (cN (S 0)) (cN v) (cN (S 49)) (S, M)).1).toInt64))) rfl [ppB o (a 0) (b 0) (sn 0) (h 0) r (t 0) sb hs lf, rfW r (wJoin S v) f0 f1 f2 f3, stB a (((oJL (cN (S 0)) (cN v) (cN (S 49)) (S, M)).2).1), lnB ty a (((oJL (cN (S 0)) (cN v) (cN (S 49)) (S, M)).2).1), quB ty a (((oJL (cN (S 0)) (cN v) (cN (S 49)) (S, M)).2).1), weB a (((oJL (cN (S 0)) (cN v) (cN (S 49)) (S, M)).2).1), miB ty a (((oJL (cN (S 0)) (cN v) (cN (S 49)) (S, M)).2).2), hiB ty h ha (jmin 8 (sz + 1)) (nI ((nx + 1) % 8)), stF ty (ha 0) (va_up HX nx (S, M) 0), stF ty (ha 1) (va_up HX nx (S, M) 1), stF ty (ha 2) (va_up HX nx (S, M) 2), stF ty (ha 3) (va_up HX nx (S, M) 3), stF ty (ha 4) (va_up HX nx (S, M) 4), stF ty (ha 5) (va_up HX nx (S, M) 5), stF ty (ha 6) (va_up HX nx (S, M) 6), stF ty (ha 7) (va_up HX nx (S, M) 7), ouB ty oq (vp_updL og 0 (((oJL (cN (S 0)) (cN v) (cN (S 49)) (S, M)).1).toInt64))] rfl dL_join_8 (fun H locs w => ?_)
    refine lv_goto (tgt := 15) hx hb dL_join_9 (by decide) ?_
    refine lv_iconst (v := 0) hx hb dL_join_15 (by decide) ?_
    exact l_end true hx hb hr hlocks w (Or.inl ⟨rfl, hok, rfl⟩) dL_join_16 (Nat.le_of_ble_eq_true rfl) (Nat.le_of_ble_eq_true rfl)
theorem hdN_L_join : yL_join.cls ≠ "java/lang/invoke/MethodHandle" ∧ yL_join.cls ≠ "java/lang/invoke/VarHandle" ∧ (parseMethodDescriptor yL_join.desc).map (fun d => d.parameters.length) = some 3 := by decide +kernel

set_option maxRecDepth 100000 in
set_option maxHeartbeats 4000000 in
theorem c_L_leave (l : Launch) (hst : l.stackTraces = false) (J : Nat → Nat) (D : va_G) (ty : Nat → ClassId) (o : Nat) (a b sn h t : Nat → Nat) (ha : Nat → Nat → Nat) (HX : Nat → pX) (r sb : Nat) (hs lf f0 f1 f2 f3 sz : Int32) (nx : Nat) (hnx : nx < 8) (S M : pS) (B : Nat) (hB : B < 10 ^ 7) (hV : IV B (S, M)) (v : Int32) (oq : Nat) (og : Nat → Int64) : Lx J l yL_leave wsL_leave (kR 7 151 1 6) D (kTY ty) [.ref o, .int v, .ref oq] [ppB o (a 0) (b 0) (sn 0) (h 0) r (t 0) sb hs lf, rfB r f0 f1 f2 f3, stB a S, lnB ty a S, quB ty a S, weB a S, miB ty a M, hiB ty h ha sz (nI nx), stF ty (ha 0) (HX 0), stF ty (ha 1) (HX 1), stF ty (ha 2) (HX 2), stF ty (ha 3) (HX 3), stF ty (ha 4) (HX 4), stF ty (ha 5) (HX 5), stF ty (ha 6) (HX 6), stF ty (ha 7) (HX 7), ouB ty oq og] ((wLeave S v).1 = 0) [ppB o (a 0) (b 0) (sn 0) (h 0) r (t 0) sb hs lf, rfW r (wLeave S v) f0 f1 f2 f3, stB a (sGo S (cN (S 49)) (cN (pPl S v (cN (S 49))))), lnB ty a (sGo S (cN (S 49)) (cN (pPl S v (cN (S 49))))), quB ty a (sGo S (cN (S 49)) (cN (pPl S v (cN (S 49))))), weB a (sGo S (cN (S 49)) (cN (pPl S v (cN (S 49))))), miB ty a M, hiB ty h ha (jmin 8 (sz + 1)) (nI ((nx + 1) % 8)), stF ty (ha 0) (va_up HX nx (S, M) 0), stF ty (ha 1) (va_up HX nx (S, M) 1), stF ty (ha 2) (va_up HX nx (S, M) 2), stF ty (ha 3) (va_up HX nx (S, M) 3), stF ty (ha 4) (va_up HX nx (S, M) 4), stF ty (ha 5) (va_up HX nx (S, M) 5), stF ty (ha 6) (va_up HX nx (S, M) 6), stF ty (ha 7) (va_up HX nx (S, M) 7), ouB ty oq (vp_updL og 0 ((pPl S v (cN (S 49))).toInt64))] [ppB o (a 0) (b 0) (sn 0) (h 0) r (t 0) sb hs lf, rfW r (wLeave S v) f0 f1 f2 f3, stB a S, lnB ty a S, quB ty a S, weB a S, miB ty a M, hiB ty h ha sz (nI nx), stF ty (ha 0) (HX 0), stF ty (ha 1) (HX 1), stF ty (ha 2) (HX 2), stF ty (ha 3) (HX 3), stF ty (ha 4) (HX 4), stF ty (ha 5) (HX 5), stF ty (ha 6) (HX 6), stF ty (ha 7) (HX 7), ouB ty oq og] 1 1 6 := by
  refine m_lx (cc := cL_leave) (maxL := 4) (ret := (some .int)) (hh := [(0, 9, 12, 13)]) (by decide +kernel) rfl (Nat.le_of_ble_eq_true rfl) ?_
  intro p e s m below meth c A ls hx hb hml hr hlocks hown hts htab hnc hz hj w hl
  have hown : s.vm.findClass RL = some m.cls := hown
  have hl : lv_has ls 4 [(0, .ref o), (1, .int v), (2, .ref oq)] := hl
  refine lv_aload_n hx hb dL_leave_0 rfl (lv_at hl 2 rfl) ?_
  refine lv_iconst (v := 0) hx hb dL_leave_1 (by decide) ?_
  refine lv_aload_n hx hb dL_leave_2 rfl (lv_at hl 0 rfl) ?_
  refine lv_iload_n hx hb dL_leave_3 rfl (lv_at hl 1 rfl) ?_
  refine xc_i (As := [.int v]) (rest := [.int 0, .ref oq]) (Rs := [ouB ty oq og]) ⟨hx, hb, hml, hown, hts⟩ hz hj w (c_X8_leave l hst D ty o a b sn h t ha HX r sb hs lf f0 f1 f2 f3 sz nx hnx S M B hB hV v) (cwV 1 hts gL_leave_X8_leave rfl rfl rfl ⟨rfl, hdN_X8_leave⟩ ⟨Nat.le_of_ble_eq_true rfl, Nat.le_of_ble_eq_true rfl⟩) [0, 1, 2, 3, 4, 5, 6, 7, 8, 9, 10, 11, 12, 13, 14, 15, 16] (nB := 17) (by decide) rfl rfl 0 rfl rfl (ci := 12) rfl rfl rfl hl.1 rfl (Nat.le_of_ble_eq_true rfl) dL_leave_4 ⟨(Nat.le_of_ble_eq_true rfl), (Nat.le_of_ble_eq_true rfl)⟩ (fun q9 H locs hok hth w => ?_) (fun H locs hok w => ?_)
  · refine l_c1 hown htab (by decide) (by decide) (hts _ (List.mem_of_getElem? (i := 1) rfl)) (hz.1.1.use _ xk_UOE) hth ?_
    refine lv_astore_n (lv' := [(3, .ref q9), (0, .ref o), (1, .int v), (2, .ref oq)]) hx hb dL_leave_12 rfl hl (by decide) rfl (fun ls hl => ?_)
    refine lv_iconst (v := 1) hx hb dL_leave_13 (by decide) ?_
    exact l_end false hx hb hr hlocks w (Or.inr ⟨rfl, hok, rfl⟩) dL_leave_14 (Nat.le_of_ble_eq_true rfl) (Nat.le_of_ble_eq_true rfl)
  · refine lv_i2l (v := ((pPl S v (cN (S 49)))).toInt64) hx hb dL_leave_7 rfl ?_
    refine r_last hx hb w 16 0 rfl rfl 5 rfl 0 (by decide) (Nat.le_of_ble_eq_true rfl) rfl (ouB ty oq (vp_updL og 0 ((pPl S v (cN (S 49))).toInt64))) rfl [ppB o (a 0) (b 0) (sn 0) (h 0) r (t 0) sb hs lf, rfW r (wLeave S v) f0 f1 f2 f3, stB a (sGo S (cN (S 49)) (cN (pPl S v (cN (S 49))))), lnB ty a (sGo S (cN (S 49)) (cN (pPl S v (cN (S 49))))), quB ty a (sGo S (cN (S 49)) (cN (pPl S v (cN (S 49))))), weB a (sGo S (cN (S 49)) (cN (pPl S v (cN (S 49))))), miB ty a M, hiB ty h ha (jmin 8 (sz + 1)) (nI ((nx + 1) % 8)), stF ty (ha 0) (va_up HX nx (S, M) 0), stF ty (ha 1) (va_up HX nx (S, M) 1), stF ty (ha 2) (va_up HX nx (S, M) 2), stF ty (ha 3) (va_up HX nx (S, M) 3), stF ty (ha 4) (va_up HX nx (S, M) 4), stF ty (ha 5) (va_up HX nx (S, M) 5), stF ty (ha 6) (va_up HX nx (S, M) 6), stF ty (ha 7) (va_up HX nx (S, M) 7), ouB ty oq (vp_updL og 0 ((pPl S v (cN (S 49))).toInt64))] rfl dL_leave_8 (fun H locs w => ?_)
    refine lv_goto (tgt := 15) hx hb dL_leave_9 (by decide) ?_
    refine lv_iconst (v := 0) hx hb dL_leave_15 (by decide) ?_
    exact l_end true hx hb hr hlocks w (Or.inl ⟨rfl, hok, rfl⟩) dL_leave_16 (Nat.le_of_ble_eq_true rfl) (Nat.le_of_ble_eq_true rfl)
theorem hdN_L_leave : yL_leave.cls ≠ "java/lang/invoke/MethodHandle" ∧ yL_leave.cls ≠ "java/lang/invoke/VarHandle" ∧ (parseMethodDescriptor yL_leave.desc).map (fun d => d.parameters.length) = some 3 := by decide +kernel

set_option maxRecDepth 100000 in
set_option maxHeartbeats 4000000 in
theorem c_L_draw (l : Launch) (hst : l.stackTraces = false) (J : Nat → Nat) (D : va_G) (ty : Nat → ClassId) (o : Nat) (a b sn h t : Nat → Nat) (ha : Nat → Nat → Nat) (HX : Nat → pX) (r sb : Nat) (hs lf f0 f1 f2 f3 sz : Int32) (nx : Nat) (hnx : nx < 8) (S M : pS) (B : Nat) (hB : B < 10 ^ 7) (hV : IV B (S, M)) (v : Int32) (oq : Nat) (og : Nat → Int64) : Lx J l yL_draw wsL_draw (kR 7 171 1 6) D (kTY ty) [.ref o, .int v, .ref oq] [ppB o (a 0) (b 0) (sn 0) (h 0) r (t 0) sb hs lf, rfB r f0 f1 f2 f3, stB a S, lnB ty a S, quB ty a S, weB a S, miB ty a M, hiB ty h ha sz (nI nx), stF ty (ha 0) (HX 0), stF ty (ha 1) (HX 1), stF ty (ha 2) (HX 2), stF ty (ha 3) (HX 3), stF ty (ha 4) (HX 4), stF ty (ha 5) (HX 5), stF ty (ha 6) (HX 6), stF ty (ha 7) (HX 7), ouB ty oq og] ((wDraw S v).1 = 0) [ppB o (a 0) (b 0) (sn 0) (h 0) r (t 0) sb hs lf, rfW r (wDraw S v) f0 f1 f2 f3, stB a (((oDrawN (cN v) (S, M)).2).1), lnB ty a (((oDrawN (cN v) (S, M)).2).1), quB ty a (((oDrawN (cN v) (S, M)).2).1), weB a (((oDrawN (cN v) (S, M)).2).1), miB ty a (((oDrawN (cN v) (S, M)).2).2), hiB ty h ha (jmin 8 (sz + 1)) (nI ((nx + 1) % 8)), stF ty (ha 0) (va_up HX nx (S, M) 0), stF ty (ha 1) (va_up HX nx (S, M) 1), stF ty (ha 2) (va_up HX nx (S, M) 2), stF ty (ha 3) (va_up HX nx (S, M) 3), stF ty (ha 4) (va_up HX nx (S, M) 4), stF ty (ha 5) (va_up HX nx (S, M) 5), stF ty (ha 6) (va_up HX nx (S, M) 6), stF ty (ha 7) (va_up HX nx (S, M) 7), ouB ty oq (vp_updL og 0 (((oDrawN (cN v) (S, M)).1).toInt64))] [ppB o (a 0) (b 0) (sn 0) (h 0) r (t 0) sb hs lf, rfW r (wDraw S v) f0 f1 f2 f3, stB a S, lnB ty a S, quB ty a S, weB a S, miB ty a M, hiB ty h ha sz (nI nx), stF ty (ha 0) (HX 0), stF ty (ha 1) (HX 1), stF ty (ha 2) (HX 2), stF ty (ha 3) (HX 3), stF ty (ha 4) (HX 4), stF ty (ha 5) (HX 5), stF ty (ha 6) (HX 6), stF ty (ha 7) (HX 7), ouB ty oq og] 1 1 6 := by
  refine m_lx (cc := cL_draw) (maxL := 4) (ret := (some .int)) (hh := [(0, 9, 12, 13)]) (by decide +kernel) rfl (Nat.le_of_ble_eq_true rfl) ?_
  intro p e s m below meth c A ls hx hb hml hr hlocks hown hts htab hnc hz hj w hl
  have hown : s.vm.findClass RL = some m.cls := hown
  have hl : lv_has ls 4 [(0, .ref o), (1, .int v), (2, .ref oq)] := hl
  refine lv_aload_n hx hb dL_draw_0 rfl (lv_at hl 2 rfl) ?_
  refine lv_iconst (v := 0) hx hb dL_draw_1 (by decide) ?_
  refine lv_aload_n hx hb dL_draw_2 rfl (lv_at hl 0 rfl) ?_
  refine lv_iload_n hx hb dL_draw_3 rfl (lv_at hl 1 rfl) ?_
  refine xc_i (As := [.int v]) (rest := [.int 0, .ref oq]) (Rs := [ouB ty oq og]) ⟨hx, hb, hml, hown, hts⟩ hz hj w (c_X8_draw l hst D ty o a b sn h t ha HX r sb hs lf f0 f1 f2 f3 sz nx hnx S M B hB hV v) (cwV 1 hts gL_draw_X8_draw rfl rfl rfl ⟨rfl, hdN_X8_draw⟩ ⟨Nat.le_of_ble_eq_true rfl, Nat.le_of_ble_eq_true rfl⟩) [0, 1, 2, 3, 4, 5, 6, 7, 8, 9, 10, 11, 12, 13, 14, 15, 16] (nB := 17) (by decide) rfl rfl 0 rfl rfl (ci := 12) rfl rfl rfl hl.1 rfl (Nat.le_of_ble_eq_true rfl) dL_draw_4 ⟨(Nat.le_of_ble_eq_true rfl), (Nat.le_of_ble_eq_true rfl)⟩ (fun q9 H locs hok hth w => ?_) (fun H locs hok w => ?_)
  · refine l_c1 hown htab (by decide) (by decide) (hts _ (List.mem_of_getElem? (i := 1) rfl)) (hz.1.1.use _ xk_UOE) hth ?_
    refine lv_astore_n (lv' := [(3, .ref q9), (0, .ref o), (1, .int v), (2, .ref oq)]) hx hb dL_draw_12 rfl hl (by decide) rfl (fun ls hl => ?_)
    refine lv_iconst (v := 1) hx hb dL_draw_13 (by decide) ?_
    exact l_end false hx hb hr hlocks w (Or.inr ⟨rfl, hok, rfl⟩) dL_draw_14 (Nat.le_of_ble_eq_true rfl) (Nat.le_of_ble_eq_true rfl)
  · refine lv_i2l (v := (((oDrawN (cN v) (S, M)).1)).toInt64) hx hb dL_draw_7 rfl ?_
    refine r_last hx hb w 16 0 rfl rfl 5 rfl 0 (by decide) (Nat.le_of_ble_eq_true rfl) rfl (ouB ty oq (vp_updL og 0 (((oDrawN (cN v) (S, M)).1).toInt64))) rfl [ppB o (a 0) (b 0) (sn 0) (h 0) r (t 0) sb hs lf, rfW r (wDraw S v) f0 f1 f2 f3, stB a (((oDrawN (cN v) (S, M)).2).1), lnB ty a (((oDrawN (cN v) (S, M)).2).1), quB ty a (((oDrawN (cN v) (S, M)).2).1), weB a (((oDrawN (cN v) (S, M)).2).1), miB ty a (((oDrawN (cN v) (S, M)).2).2), hiB ty h ha (jmin 8 (sz + 1)) (nI ((nx + 1) % 8)), stF ty (ha 0) (va_up HX nx (S, M) 0), stF ty (ha 1) (va_up HX nx (S, M) 1), stF ty (ha 2) (va_up HX nx (S, M) 2), stF ty (ha 3) (va_up HX nx (S, M) 3), stF ty (ha 4) (va_up HX nx (S, M) 4), stF ty (ha 5) (va_up HX nx (S, M) 5), stF ty (ha 6) (va_up HX nx (S, M) 6), stF ty (ha 7) (va_up HX nx (S, M) 7), ouB ty oq (vp_updL og 0 (((oDrawN (cN v) (S, M)).1).toInt64))] rfl dL_draw_8 (fun H locs w => ?_)
    refine lv_goto (tgt := 15) hx hb dL_draw_9 (by decide) ?_
    refine lv_iconst (v := 0) hx hb dL_draw_15 (by decide) ?_
    exact l_end true hx hb hr hlocks w (Or.inl ⟨rfl, hok, rfl⟩) dL_draw_16 (Nat.le_of_ble_eq_true rfl) (Nat.le_of_ble_eq_true rfl)
theorem hdN_L_draw : yL_draw.cls ≠ "java/lang/invoke/MethodHandle" ∧ yL_draw.cls ≠ "java/lang/invoke/VarHandle" ∧ (parseMethodDescriptor yL_draw.desc).map (fun d => d.parameters.length) = some 3 := by decide +kernel

set_option maxRecDepth 100000 in
set_option maxHeartbeats 4000000 in
theorem c_L_vote (l : Launch) (hst : l.stackTraces = false) (J : Nat → Nat) (D : va_G) (ty : Nat → ClassId) (o : Nat) (a b sn h t : Nat → Nat) (ha : Nat → Nat → Nat) (HX : Nat → pX) (r sb : Nat) (hs lf f0 f1 f2 f3 sz : Int32) (nx : Nat) (hnx : nx < 8) (S M : pS) (B : Nat) (hB : B < 10 ^ 7) (hV : IV B (S, M)) (oq : Nat) (og : Nat → Int64) : Lx J l yL_vote wsL_vote (kR 7 173 1 6) D (kTY ty) [.ref o, .ref oq] [ppB o (a 0) (b 0) (sn 0) (h 0) r (t 0) sb hs lf, rfB r f0 f1 f2 f3, stB a S, lnB ty a S, quB ty a S, weB a S, miB ty a M, hiB ty h ha sz (nI nx), stF ty (ha 0) (HX 0), stF ty (ha 1) (HX 1), stF ty (ha 2) (HX 2), stF ty (ha 3) (HX 3), stF ty (ha 4) (HX 4), stF ty (ha 5) (HX 5), stF ty (ha 6) (HX 6), stF ty (ha 7) (HX 7), ouB ty oq og] ((wVote S).1 = 0) [ppB o (a 0) (b 0) (sn 0) (h 0) r (t 0) sb hs lf, rfW r (wVote S) f0 f1 f2 f3, stB a (((oVote (S, M)).2).1), lnB ty a (((oVote (S, M)).2).1), quB ty a (((oVote (S, M)).2).1), weB a (((oVote (S, M)).2).1), miB ty a (((oVote (S, M)).2).2), hiB ty h ha (jmin 8 (sz + 1)) (nI ((nx + 1) % 8)), stF ty (ha 0) (va_up HX nx (S, M) 0), stF ty (ha 1) (va_up HX nx (S, M) 1), stF ty (ha 2) (va_up HX nx (S, M) 2), stF ty (ha 3) (va_up HX nx (S, M) 3), stF ty (ha 4) (va_up HX nx (S, M) 4), stF ty (ha 5) (va_up HX nx (S, M) 5), stF ty (ha 6) (va_up HX nx (S, M) 6), stF ty (ha 7) (va_up HX nx (S, M) 7), ouB ty oq (vp_updL og 0 (((oVote (S, M)).1).toInt64))] [ppB o (a 0) (b 0) (sn 0) (h 0) r (t 0) sb hs lf, rfW r (wVote S) f0 f1 f2 f3, stB a S, lnB ty a S, quB ty a S, weB a S, miB ty a M, hiB ty h ha sz (nI nx), stF ty (ha 0) (HX 0), stF ty (ha 1) (HX 1), stF ty (ha 2) (HX 2), stF ty (ha 3) (HX 3), stF ty (ha 4) (HX 4), stF ty (ha 5) (HX 5), stF ty (ha 6) (HX 6), stF ty (ha 7) (HX 7), ouB ty oq og] 1 1 6 := by
  refine m_lx (cc := cL_vote) (maxL := 3) (ret := (some .int)) (hh := [(0, 8, 11, 13)]) (by decide +kernel) rfl (Nat.le_of_ble_eq_true rfl) ?_
  intro p e s m below meth c A ls hx hb hml hr hlocks hown hts htab hnc hz hj w hl
  have hown : s.vm.findClass RL = some m.cls := hown
  have hl : lv_has ls 3 [(0, .ref o), (1, .ref oq)] := hl
  refine lv_aload_n hx hb dL_vote_0 rfl (lv_at hl 1 rfl) ?_
  refine lv_iconst (v := 0) hx hb dL_vote_1 (by decide) ?_
  refine lv_aload_n hx hb dL_vote_2 rfl (lv_at hl 0 rfl) ?_
  refine xc_i (As := []) (rest := [.int 0, .ref oq]) (Rs := [ouB ty oq og]) ⟨hx, hb, hml, hown, hts⟩ hz hj w (c_X8_vote l hst D ty o a b sn h t ha HX r sb hs lf f0 f1 f2 f3 sz nx hnx S M B hB hV) (cwV 0 hts gL_vote_X8_vote rfl rfl rfl ⟨rfl, hdN_X8_vote⟩ ⟨Nat.le_of_ble_eq_true rfl, Nat.le_of_ble_eq_true rfl⟩) [0, 1, 2, 3, 4, 5, 6, 7, 8, 9, 10, 11, 12, 13, 14, 15, 16] (nB := 17) (by decide) rfl rfl 0 rfl rfl (ci := 12) rfl rfl rfl hl.1 rfl (Nat.le_of_ble_eq_true rfl) dL_vote_3 ⟨(Nat.le_of_ble_eq_true rfl), (Nat.le_of_ble_eq_true rfl)⟩ (fun q9 H locs hok hth w => ?_) (fun H locs hok w => ?_)
  · refine l_c1 hown htab (by decide) (by decide) (hts _ (List.mem_of_getElem? (i := 1) rfl)) (hz.1.1.use _ xk_UOE) hth ?_
    refine lv_astore_n (lv' := [(2, .ref q9), (0, .ref o), (1, .ref oq)]) hx hb dL_vote_11 rfl hl (by decide) rfl (fun ls hl => ?_)
    refine lv_iconst (v := 1) hx hb dL_vote_12 (by decide) ?_
    exact l_end false hx hb hr hlocks w (Or.inr ⟨rfl, hok, rfl⟩) dL_vote_13 (Nat.le_of_ble_eq_true rfl) (Nat.le_of_ble_eq_true rfl)
  · refine lv_i2l (v := (((oVote (S, M)).1)).toInt64) hx hb dL_vote_6 rfl ?_
    refine r_last hx hb w 16 0 rfl rfl 5 rfl 0 (by decide) (Nat.le_of_ble_eq_true rfl) rfl (ouB ty oq (vp_updL og 0 (((oVote (S, M)).1).toInt64))) rfl [ppB o (a 0) (b 0) (sn 0) (h 0) r (t 0) sb hs lf, rfW r (wVote S) f0 f1 f2 f3, stB a (((oVote (S, M)).2).1), lnB ty a (((oVote (S, M)).2).1), quB ty a (((oVote (S, M)).2).1), weB a (((oVote (S, M)).2).1), miB ty a (((oVote (S, M)).2).2), hiB ty h ha (jmin 8 (sz + 1)) (nI ((nx + 1) % 8)), stF ty (ha 0) (va_up HX nx (S, M) 0), stF ty (ha 1) (va_up HX nx (S, M) 1), stF ty (ha 2) (va_up HX nx (S, M) 2), stF ty (ha 3) (va_up HX nx (S, M) 3), stF ty (ha 4) (va_up HX nx (S, M) 4), stF ty (ha 5) (va_up HX nx (S, M) 5), stF ty (ha 6) (va_up HX nx (S, M) 6), stF ty (ha 7) (va_up HX nx (S, M) 7), ouB ty oq (vp_updL og 0 (((oVote (S, M)).1).toInt64))] rfl dL_vote_7 (fun H locs w => ?_)
    refine lv_goto (tgt := 14) hx hb dL_vote_8 (by decide) ?_
    refine lv_iconst (v := 0) hx hb dL_vote_14 (by decide) ?_
    exact l_end true hx hb hr hlocks w (Or.inl ⟨rfl, hok, rfl⟩) dL_vote_15 (Nat.le_of_ble_eq_true rfl) (Nat.le_of_ble_eq_true rfl)
theorem hdN_L_vote : yL_vote.cls ≠ "java/lang/invoke/MethodHandle" ∧ yL_vote.cls ≠ "java/lang/invoke/VarHandle" ∧ (parseMethodDescriptor yL_vote.desc).map (fun d => d.parameters.length) = some 2 := by decide +kernel

set_option maxRecDepth 100000 in
set_option maxHeartbeats 4000000 in
theorem c_L_rain (l : Launch) (hst : l.stackTraces = false) (J : Nat → Nat) (D : va_G) (ty : Nat → ClassId) (o : Nat) (a b sn h t : Nat → Nat) (ha : Nat → Nat → Nat) (HX : Nat → pX) (r sb : Nat) (hs lf f0 f1 f2 f3 sz : Int32) (nx : Nat) (hnx : nx < 8) (S M : pS) (B : Nat) (hB : B < 10 ^ 7) (hV : IV B (S, M)) (v : Int32) (oq : Nat) (og : Nat → Int64) : Lx J l yL_rain wsL_rain (kR 7 151 1 6) D (kTY ty) [.ref o, .int v, .ref oq] [ppB o (a 0) (b 0) (sn 0) (h 0) r (t 0) sb hs lf, rfB r f0 f1 f2 f3, stB a S, lnB ty a S, quB ty a S, weB a S, miB ty a M, hiB ty h ha sz (nI nx), stF ty (ha 0) (HX 0), stF ty (ha 1) (HX 1), stF ty (ha 2) (HX 2), stF ty (ha 3) (HX 3), stF ty (ha 4) (HX 4), stF ty (ha 5) (HX 5), stF ty (ha 6) (HX 6), stF ty (ha 7) (HX 7), ouB ty oq og] ((wRain v).1 = 0) [ppB o (a 0) (b 0) (sn 0) (h 0) r (t 0) sb hs lf, rfW r (wRain v) f0 f1 f2 f3, stB a (upd S 208 v), lnB ty a (upd S 208 v), quB ty a (upd S 208 v), weB a (upd S 208 v), miB ty a M, hiB ty h ha (jmin 8 (sz + 1)) (nI ((nx + 1) % 8)), stF ty (ha 0) (va_up HX nx (S, M) 0), stF ty (ha 1) (va_up HX nx (S, M) 1), stF ty (ha 2) (va_up HX nx (S, M) 2), stF ty (ha 3) (va_up HX nx (S, M) 3), stF ty (ha 4) (va_up HX nx (S, M) 4), stF ty (ha 5) (va_up HX nx (S, M) 5), stF ty (ha 6) (va_up HX nx (S, M) 6), stF ty (ha 7) (va_up HX nx (S, M) 7), ouB ty oq (vp_updL og 0 ((S 208).toInt64))] [ppB o (a 0) (b 0) (sn 0) (h 0) r (t 0) sb hs lf, rfW r (wRain v) f0 f1 f2 f3, stB a S, lnB ty a S, quB ty a S, weB a S, miB ty a M, hiB ty h ha sz (nI nx), stF ty (ha 0) (HX 0), stF ty (ha 1) (HX 1), stF ty (ha 2) (HX 2), stF ty (ha 3) (HX 3), stF ty (ha 4) (HX 4), stF ty (ha 5) (HX 5), stF ty (ha 6) (HX 6), stF ty (ha 7) (HX 7), ouB ty oq og] 1 1 6 := by
  refine m_lx (cc := cL_rain) (maxL := 4) (ret := (some .int)) (hh := [(0, 9, 12, 13)]) (by decide +kernel) rfl (Nat.le_of_ble_eq_true rfl) ?_
  intro p e s m below meth c A ls hx hb hml hr hlocks hown hts htab hnc hz hj w hl
  have hown : s.vm.findClass RL = some m.cls := hown
  have hl : lv_has ls 4 [(0, .ref o), (1, .int v), (2, .ref oq)] := hl
  refine lv_aload_n hx hb dL_rain_0 rfl (lv_at hl 2 rfl) ?_
  refine lv_iconst (v := 0) hx hb dL_rain_1 (by decide) ?_
  refine lv_aload_n hx hb dL_rain_2 rfl (lv_at hl 0 rfl) ?_
  refine lv_iload_n hx hb dL_rain_3 rfl (lv_at hl 1 rfl) ?_
  refine xc_i (As := [.int v]) (rest := [.int 0, .ref oq]) (Rs := [ouB ty oq og]) ⟨hx, hb, hml, hown, hts⟩ hz hj w (c_X8_rain l hst D ty o a b sn h t ha HX r sb hs lf f0 f1 f2 f3 sz nx hnx S M B hB hV v) (cwV 1 hts gL_rain_X8_rain rfl rfl rfl ⟨rfl, hdN_X8_rain⟩ ⟨Nat.le_of_ble_eq_true rfl, Nat.le_of_ble_eq_true rfl⟩) [0, 1, 2, 3, 4, 5, 6, 7, 8, 9, 10, 11, 12, 13, 14, 15, 16] (nB := 17) (by decide) rfl rfl 0 rfl rfl (ci := 12) rfl rfl rfl hl.1 rfl (Nat.le_of_ble_eq_true rfl) dL_rain_4 ⟨(Nat.le_of_ble_eq_true rfl), (Nat.le_of_ble_eq_true rfl)⟩ (fun q9 H locs hok hth w => ?_) (fun H locs hok w => ?_)
  · refine l_c1 hown htab (by decide) (by decide) (hts _ (List.mem_of_getElem? (i := 1) rfl)) (hz.1.1.use _ xk_UOE) hth ?_
    refine lv_astore_n (lv' := [(3, .ref q9), (0, .ref o), (1, .int v), (2, .ref oq)]) hx hb dL_rain_12 rfl hl (by decide) rfl (fun ls hl => ?_)
    refine lv_iconst (v := 1) hx hb dL_rain_13 (by decide) ?_
    exact l_end false hx hb hr hlocks w (Or.inr ⟨rfl, hok, rfl⟩) dL_rain_14 (Nat.le_of_ble_eq_true rfl) (Nat.le_of_ble_eq_true rfl)
  · refine lv_i2l (v := ((S 208)).toInt64) hx hb dL_rain_7 rfl ?_
    refine r_last hx hb w 16 0 rfl rfl 5 rfl 0 (by decide) (Nat.le_of_ble_eq_true rfl) rfl (ouB ty oq (vp_updL og 0 ((S 208).toInt64))) rfl [ppB o (a 0) (b 0) (sn 0) (h 0) r (t 0) sb hs lf, rfW r (wRain v) f0 f1 f2 f3, stB a (upd S 208 v), lnB ty a (upd S 208 v), quB ty a (upd S 208 v), weB a (upd S 208 v), miB ty a M, hiB ty h ha (jmin 8 (sz + 1)) (nI ((nx + 1) % 8)), stF ty (ha 0) (va_up HX nx (S, M) 0), stF ty (ha 1) (va_up HX nx (S, M) 1), stF ty (ha 2) (va_up HX nx (S, M) 2), stF ty (ha 3) (va_up HX nx (S, M) 3), stF ty (ha 4) (va_up HX nx (S, M) 4), stF ty (ha 5) (va_up HX nx (S, M) 5), stF ty (ha 6) (va_up HX nx (S, M) 6), stF ty (ha 7) (va_up HX nx (S, M) 7), ouB ty oq (vp_updL og 0 ((S 208).toInt64))] rfl dL_rain_8 (fun H locs w => ?_)
    refine lv_goto (tgt := 15) hx hb dL_rain_9 (by decide) ?_
    refine lv_iconst (v := 0) hx hb dL_rain_15 (by decide) ?_
    exact l_end true hx hb hr hlocks w (Or.inl ⟨rfl, hok, rfl⟩) dL_rain_16 (Nat.le_of_ble_eq_true rfl) (Nat.le_of_ble_eq_true rfl)
theorem hdN_L_rain : yL_rain.cls ≠ "java/lang/invoke/MethodHandle" ∧ yL_rain.cls ≠ "java/lang/invoke/VarHandle" ∧ (parseMethodDescriptor yL_rain.desc).map (fun d => d.parameters.length) = some 3 := by decide +kernel

set_option maxRecDepth 100000 in
set_option maxHeartbeats 4000000 in
theorem c_L_night (l : Launch) (hst : l.stackTraces = false) (J : Nat → Nat) (D : va_G) (ty : Nat → ClassId) (o : Nat) (a b sn h t : Nat → Nat) (ha : Nat → Nat → Nat) (HX : Nat → pX) (r sb : Nat) (hs lf f0 f1 f2 f3 sz : Int32) (nx : Nat) (hnx : nx < 8) (S M : pS) (B : Nat) (hB : B < 10 ^ 7) (hV : IV B (S, M)) (v : Int32) (oq : Nat) (og : Nat → Int64) : Lx J l yL_night wsL_night (kR 7 151 1 6) D (kTY ty) [.ref o, .int v, .ref oq] [ppB o (a 0) (b 0) (sn 0) (h 0) r (t 0) sb hs lf, rfB r f0 f1 f2 f3, stB a S, lnB ty a S, quB ty a S, weB a S, miB ty a M, hiB ty h ha sz (nI nx), stF ty (ha 0) (HX 0), stF ty (ha 1) (HX 1), stF ty (ha 2) (HX 2), stF ty (ha 3) (HX 3), stF ty (ha 4) (HX 4), stF ty (ha 5) (HX 5), stF ty (ha 6) (HX 6), stF ty (ha 7) (HX 7), ouB ty oq og] ((wNight v).1 = 0) [ppB o (a 0) (b 0) (sn 0) (h 0) r (t 0) sb hs lf, rfW r (wNight v) f0 f1 f2 f3, stB a (sNightN (cN (S 0)) (cN v) S), lnB ty a (sNightN (cN (S 0)) (cN v) S), quB ty a (sNightN (cN (S 0)) (cN v) S), weB a (sNightN (cN (S 0)) (cN v) S), miB ty a M, hiB ty h ha (jmin 8 (sz + 1)) (nI ((nx + 1) % 8)), stF ty (ha 0) (va_up HX nx (S, M) 0), stF ty (ha 1) (va_up HX nx (S, M) 1), stF ty (ha 2) (va_up HX nx (S, M) 2), stF ty (ha 3) (va_up HX nx (S, M) 3), stF ty (ha 4) (va_up HX nx (S, M) 4), stF ty (ha 5) (va_up HX nx (S, M) 5), stF ty (ha 6) (va_up HX nx (S, M) 6), stF ty (ha 7) (va_up HX nx (S, M) 7), ouB ty oq (vp_updL og 0 ((sNightN (cN (S 0)) (cN v) S 204).toInt64))] [ppB o (a 0) (b 0) (sn 0) (h 0) r (t 0) sb hs lf, rfW r (wNight v) f0 f1 f2 f3, stB a S, lnB ty a S, quB ty a S, weB a S, miB ty a M, hiB ty h ha sz (nI nx), stF ty (ha 0) (HX 0), stF ty (ha 1) (HX 1), stF ty (ha 2) (HX 2), stF ty (ha 3) (HX 3), stF ty (ha 4) (HX 4), stF ty (ha 5) (HX 5), stF ty (ha 6) (HX 6), stF ty (ha 7) (HX 7), ouB ty oq og] 1 1 6 := by
  refine m_lx (cc := cL_night) (maxL := 4) (ret := (some .int)) (hh := [(0, 9, 12, 13)]) (by decide +kernel) rfl (Nat.le_of_ble_eq_true rfl) ?_
  intro p e s m below meth c A ls hx hb hml hr hlocks hown hts htab hnc hz hj w hl
  have hown : s.vm.findClass RL = some m.cls := hown
  have hl : lv_has ls 4 [(0, .ref o), (1, .int v), (2, .ref oq)] := hl
  refine lv_aload_n hx hb dL_night_0 rfl (lv_at hl 2 rfl) ?_
  refine lv_iconst (v := 0) hx hb dL_night_1 (by decide) ?_
  refine lv_aload_n hx hb dL_night_2 rfl (lv_at hl 0 rfl) ?_
  refine lv_iload_n hx hb dL_night_3 rfl (lv_at hl 1 rfl) ?_
  refine xc_i (As := [.int v]) (rest := [.int 0, .ref oq]) (Rs := [ouB ty oq og]) ⟨hx, hb, hml, hown, hts⟩ hz hj w (c_X8_night l hst D ty o a b sn h t ha HX r sb hs lf f0 f1 f2 f3 sz nx hnx S M B hB hV v) (cwV 1 hts gL_night_X8_night rfl rfl rfl ⟨rfl, hdN_X8_night⟩ ⟨Nat.le_of_ble_eq_true rfl, Nat.le_of_ble_eq_true rfl⟩) [0, 1, 2, 3, 4, 5, 6, 7, 8, 9, 10, 11, 12, 13, 14, 15, 16] (nB := 17) (by decide) rfl rfl 0 rfl rfl (ci := 12) rfl rfl rfl hl.1 rfl (Nat.le_of_ble_eq_true rfl) dL_night_4 ⟨(Nat.le_of_ble_eq_true rfl), (Nat.le_of_ble_eq_true rfl)⟩ (fun q9 H locs hok hth w => ?_) (fun H locs hok w => ?_)
  · refine l_c1 hown htab (by decide) (by decide) (hts _ (List.mem_of_getElem? (i := 1) rfl)) (hz.1.1.use _ xk_UOE) hth ?_
    refine lv_astore_n (lv' := [(3, .ref q9), (0, .ref o), (1, .int v), (2, .ref oq)]) hx hb dL_night_12 rfl hl (by decide) rfl (fun ls hl => ?_)
    refine lv_iconst (v := 1) hx hb dL_night_13 (by decide) ?_
    exact l_end false hx hb hr hlocks w (Or.inr ⟨rfl, hok, rfl⟩) dL_night_14 (Nat.le_of_ble_eq_true rfl) (Nat.le_of_ble_eq_true rfl)
  · refine lv_i2l (v := ((sNightN (cN (S 0)) (cN v) S 204)).toInt64) hx hb dL_night_7 rfl ?_
    refine r_last hx hb w 16 0 rfl rfl 5 rfl 0 (by decide) (Nat.le_of_ble_eq_true rfl) rfl (ouB ty oq (vp_updL og 0 ((sNightN (cN (S 0)) (cN v) S 204).toInt64))) rfl [ppB o (a 0) (b 0) (sn 0) (h 0) r (t 0) sb hs lf, rfW r (wNight v) f0 f1 f2 f3, stB a (sNightN (cN (S 0)) (cN v) S), lnB ty a (sNightN (cN (S 0)) (cN v) S), quB ty a (sNightN (cN (S 0)) (cN v) S), weB a (sNightN (cN (S 0)) (cN v) S), miB ty a M, hiB ty h ha (jmin 8 (sz + 1)) (nI ((nx + 1) % 8)), stF ty (ha 0) (va_up HX nx (S, M) 0), stF ty (ha 1) (va_up HX nx (S, M) 1), stF ty (ha 2) (va_up HX nx (S, M) 2), stF ty (ha 3) (va_up HX nx (S, M) 3), stF ty (ha 4) (va_up HX nx (S, M) 4), stF ty (ha 5) (va_up HX nx (S, M) 5), stF ty (ha 6) (va_up HX nx (S, M) 6), stF ty (ha 7) (va_up HX nx (S, M) 7), ouB ty oq (vp_updL og 0 ((sNightN (cN (S 0)) (cN v) S 204).toInt64))] rfl dL_night_8 (fun H locs w => ?_)
    refine lv_goto (tgt := 15) hx hb dL_night_9 (by decide) ?_
    refine lv_iconst (v := 0) hx hb dL_night_15 (by decide) ?_
    exact l_end true hx hb hr hlocks w (Or.inl ⟨rfl, hok, rfl⟩) dL_night_16 (Nat.le_of_ble_eq_true rfl) (Nat.le_of_ble_eq_true rfl)
theorem hdN_L_night : yL_night.cls ≠ "java/lang/invoke/MethodHandle" ∧ yL_night.cls ≠ "java/lang/invoke/VarHandle" ∧ (parseMethodDescriptor yL_night.desc).map (fun d => d.parameters.length) = some 3 := by decide +kernel

set_option maxRecDepth 100000 in
set_option maxHeartbeats 4000000 in
theorem c_L_collect (l : Launch) (hst : l.stackTraces = false) (J : Nat → Nat) (D : va_G) (ty : Nat → ClassId) (o : Nat) (a b sn h t : Nat → Nat) (ha : Nat → Nat → Nat) (HX : Nat → pX) (r sb : Nat) (hs lf f0 f1 f2 f3 sz : Int32) (nx : Nat) (hnx : nx < 8) (S M : pS) (B : Nat) (hB : B < 10 ^ 7) (hV : IV B (S, M)) (v : Int32) (oq : Nat) (og : Nat → Int64) : Lx J l yL_collect wsL_collect (kR 7 151 1 6) D (kTY ty) [.ref o, .int v, .ref oq] [ppB o (a 0) (b 0) (sn 0) (h 0) r (t 0) sb hs lf, rfB r f0 f1 f2 f3, stB a S, lnB ty a S, quB ty a S, weB a S, miB ty a M, hiB ty h ha sz (nI nx), stF ty (ha 0) (HX 0), stF ty (ha 1) (HX 1), stF ty (ha 2) (HX 2), stF ty (ha 3) (HX 3), stF ty (ha 4) (HX 4), stF ty (ha 5) (HX 5), stF ty (ha 6) (HX 6), stF ty (ha 7) (HX 7), ouB ty oq og] ((wCoins S v).1 = 0) [ppB o (a 0) (b 0) (sn 0) (h 0) r (t 0) sb hs lf, rfW r (wCoins S v) f0 f1 f2 f3, stB a (upd S 209 (S 209 + v)), lnB ty a (upd S 209 (S 209 + v)), quB ty a (upd S 209 (S 209 + v)), weB a (upd S 209 (S 209 + v)), miB ty a M, hiB ty h ha (jmin 8 (sz + 1)) (nI ((nx + 1) % 8)), stF ty (ha 0) (va_up HX nx (S, M) 0), stF ty (ha 1) (va_up HX nx (S, M) 1), stF ty (ha 2) (va_up HX nx (S, M) 2), stF ty (ha 3) (va_up HX nx (S, M) 3), stF ty (ha 4) (va_up HX nx (S, M) 4), stF ty (ha 5) (va_up HX nx (S, M) 5), stF ty (ha 6) (va_up HX nx (S, M) 6), stF ty (ha 7) (va_up HX nx (S, M) 7), ouB ty oq (vp_updL og 0 ((S 209 + v).toInt64))] [ppB o (a 0) (b 0) (sn 0) (h 0) r (t 0) sb hs lf, rfW r (wCoins S v) f0 f1 f2 f3, stB a S, lnB ty a S, quB ty a S, weB a S, miB ty a M, hiB ty h ha sz (nI nx), stF ty (ha 0) (HX 0), stF ty (ha 1) (HX 1), stF ty (ha 2) (HX 2), stF ty (ha 3) (HX 3), stF ty (ha 4) (HX 4), stF ty (ha 5) (HX 5), stF ty (ha 6) (HX 6), stF ty (ha 7) (HX 7), ouB ty oq og] 1 1 6 := by
  refine m_lx (cc := cL_collect) (maxL := 4) (ret := (some .int)) (hh := [(0, 9, 12, 13)]) (by decide +kernel) rfl (Nat.le_of_ble_eq_true rfl) ?_
  intro p e s m below meth c A ls hx hb hml hr hlocks hown hts htab hnc hz hj w hl
  have hown : s.vm.findClass RL = some m.cls := hown
  have hl : lv_has ls 4 [(0, .ref o), (1, .int v), (2, .ref oq)] := hl
  refine lv_aload_n hx hb dL_collect_0 rfl (lv_at hl 2 rfl) ?_
  refine lv_iconst (v := 0) hx hb dL_collect_1 (by decide) ?_
  refine lv_aload_n hx hb dL_collect_2 rfl (lv_at hl 0 rfl) ?_
  refine lv_iload_n hx hb dL_collect_3 rfl (lv_at hl 1 rfl) ?_
  refine xc_i (As := [.int v]) (rest := [.int 0, .ref oq]) (Rs := [ouB ty oq og]) ⟨hx, hb, hml, hown, hts⟩ hz hj w (c_X8_collect l hst D ty o a b sn h t ha HX r sb hs lf f0 f1 f2 f3 sz nx hnx S M B hB hV v) (cwV 1 hts gL_collect_X8_collect rfl rfl rfl ⟨rfl, hdN_X8_collect⟩ ⟨Nat.le_of_ble_eq_true rfl, Nat.le_of_ble_eq_true rfl⟩) [0, 1, 2, 3, 4, 5, 6, 7, 8, 9, 10, 11, 12, 13, 14, 15, 16] (nB := 17) (by decide) rfl rfl 0 rfl rfl (ci := 12) rfl rfl rfl hl.1 rfl (Nat.le_of_ble_eq_true rfl) dL_collect_4 ⟨(Nat.le_of_ble_eq_true rfl), (Nat.le_of_ble_eq_true rfl)⟩ (fun q9 H locs hok hth w => ?_) (fun H locs hok w => ?_)
  · refine l_c1 hown htab (by decide) (by decide) (hts _ (List.mem_of_getElem? (i := 1) rfl)) (hz.1.1.use _ xk_UOE) hth ?_
    refine lv_astore_n (lv' := [(3, .ref q9), (0, .ref o), (1, .int v), (2, .ref oq)]) hx hb dL_collect_12 rfl hl (by decide) rfl (fun ls hl => ?_)
    refine lv_iconst (v := 1) hx hb dL_collect_13 (by decide) ?_
    exact l_end false hx hb hr hlocks w (Or.inr ⟨rfl, hok, rfl⟩) dL_collect_14 (Nat.le_of_ble_eq_true rfl) (Nat.le_of_ble_eq_true rfl)
  · refine lv_i2l (v := ((S 209 + v)).toInt64) hx hb dL_collect_7 rfl ?_
    refine r_last hx hb w 16 0 rfl rfl 5 rfl 0 (by decide) (Nat.le_of_ble_eq_true rfl) rfl (ouB ty oq (vp_updL og 0 ((S 209 + v).toInt64))) rfl [ppB o (a 0) (b 0) (sn 0) (h 0) r (t 0) sb hs lf, rfW r (wCoins S v) f0 f1 f2 f3, stB a (upd S 209 (S 209 + v)), lnB ty a (upd S 209 (S 209 + v)), quB ty a (upd S 209 (S 209 + v)), weB a (upd S 209 (S 209 + v)), miB ty a M, hiB ty h ha (jmin 8 (sz + 1)) (nI ((nx + 1) % 8)), stF ty (ha 0) (va_up HX nx (S, M) 0), stF ty (ha 1) (va_up HX nx (S, M) 1), stF ty (ha 2) (va_up HX nx (S, M) 2), stF ty (ha 3) (va_up HX nx (S, M) 3), stF ty (ha 4) (va_up HX nx (S, M) 4), stF ty (ha 5) (va_up HX nx (S, M) 5), stF ty (ha 6) (va_up HX nx (S, M) 6), stF ty (ha 7) (va_up HX nx (S, M) 7), ouB ty oq (vp_updL og 0 ((S 209 + v).toInt64))] rfl dL_collect_8 (fun H locs w => ?_)
    refine lv_goto (tgt := 15) hx hb dL_collect_9 (by decide) ?_
    refine lv_iconst (v := 0) hx hb dL_collect_15 (by decide) ?_
    exact l_end true hx hb hr hlocks w (Or.inl ⟨rfl, hok, rfl⟩) dL_collect_16 (Nat.le_of_ble_eq_true rfl) (Nat.le_of_ble_eq_true rfl)
theorem hdN_L_collect : yL_collect.cls ≠ "java/lang/invoke/MethodHandle" ∧ yL_collect.cls ≠ "java/lang/invoke/VarHandle" ∧ (parseMethodDescriptor yL_collect.desc).map (fun d => d.parameters.length) = some 3 := by decide +kernel

set_option maxRecDepth 100000 in
set_option maxHeartbeats 4000000 in
theorem c_L_leather (l : Launch) (hst : l.stackTraces = false) (J : Nat → Nat) (D : va_G) (ty : Nat → ClassId) (o : Nat) (a b sn h t : Nat → Nat) (ha : Nat → Nat → Nat) (HX : Nat → pX) (r sb : Nat) (hs lf f0 f1 f2 f3 sz : Int32) (nx : Nat) (hnx : nx < 8) (S M : pS) (B : Nat) (hB : B < 10 ^ 7) (hV : IV B (S, M)) (oq : Nat) (og : Nat → Int64) : Lx J l yL_leather wsL_leather (kR 7 150 1 6) D (kTY ty) [.ref o, .ref oq] [ppB o (a 0) (b 0) (sn 0) (h 0) r (t 0) sb hs lf, rfB r f0 f1 f2 f3, stB a S, lnB ty a S, quB ty a S, weB a S, miB ty a M, hiB ty h ha sz (nI nx), stF ty (ha 0) (HX 0), stF ty (ha 1) (HX 1), stF ty (ha 2) (HX 2), stF ty (ha 3) (HX 3), stF ty (ha 4) (HX 4), stF ty (ha 5) (HX 5), stF ty (ha 6) (HX 6), stF ty (ha 7) (HX 7), ouB ty oq og] ((wLeather S).1 = 0) [ppB o (a 0) (b 0) (sn 0) (h 0) r (t 0) sb hs lf, rfW r (wLeather S) f0 f1 f2 f3, stB a (((oRenew (S, M)).2).1), lnB ty a (((oRenew (S, M)).2).1), quB ty a (((oRenew (S, M)).2).1), weB a (((oRenew (S, M)).2).1), miB ty a (((oRenew (S, M)).2).2), hiB ty h ha (jmin 8 (sz + 1)) (nI ((nx + 1) % 8)), stF ty (ha 0) (va_up HX nx (S, M) 0), stF ty (ha 1) (va_up HX nx (S, M) 1), stF ty (ha 2) (va_up HX nx (S, M) 2), stF ty (ha 3) (va_up HX nx (S, M) 3), stF ty (ha 4) (va_up HX nx (S, M) 4), stF ty (ha 5) (va_up HX nx (S, M) 5), stF ty (ha 6) (va_up HX nx (S, M) 6), stF ty (ha 7) (va_up HX nx (S, M) 7), ouB ty oq (vp_updL og 0 ((S 205).toInt64))] [ppB o (a 0) (b 0) (sn 0) (h 0) r (t 0) sb hs lf, rfW r (wLeather S) f0 f1 f2 f3, stB a S, lnB ty a S, quB ty a S, weB a S, miB ty a M, hiB ty h ha sz (nI nx), stF ty (ha 0) (HX 0), stF ty (ha 1) (HX 1), stF ty (ha 2) (HX 2), stF ty (ha 3) (HX 3), stF ty (ha 4) (HX 4), stF ty (ha 5) (HX 5), stF ty (ha 6) (HX 6), stF ty (ha 7) (HX 7), ouB ty oq og] 1 1 6 := by
  refine m_lx (cc := cL_leather) (maxL := 3) (ret := (some .int)) (hh := [(0, 8, 11, 13)]) (by decide +kernel) rfl (Nat.le_of_ble_eq_true rfl) ?_
  intro p e s m below meth c A ls hx hb hml hr hlocks hown hts htab hnc hz hj w hl
  have hown : s.vm.findClass RL = some m.cls := hown
  have hl : lv_has ls 3 [(0, .ref o), (1, .ref oq)] := hl
  refine lv_aload_n hx hb dL_leather_0 rfl (lv_at hl 1 rfl) ?_
  refine lv_iconst (v := 0) hx hb dL_leather_1 (by decide) ?_
  refine lv_aload_n hx hb dL_leather_2 rfl (lv_at hl 0 rfl) ?_
  refine xc_i (As := []) (rest := [.int 0, .ref oq]) (Rs := [ouB ty oq og]) ⟨hx, hb, hml, hown, hts⟩ hz hj w (c_X8_leather l hst D ty o a b sn h t ha HX r sb hs lf f0 f1 f2 f3 sz nx hnx S M B hB hV) (cwV 0 hts gL_leather_X8_leather rfl rfl rfl ⟨rfl, hdN_X8_leather⟩ ⟨Nat.le_of_ble_eq_true rfl, Nat.le_of_ble_eq_true rfl⟩) [0, 1, 2, 3, 4, 5, 6, 7, 8, 9, 10, 11, 12, 13, 14, 15, 16] (nB := 17) (by decide) rfl rfl 0 rfl rfl (ci := 12) rfl rfl rfl hl.1 rfl (Nat.le_of_ble_eq_true rfl) dL_leather_3 ⟨(Nat.le_of_ble_eq_true rfl), (Nat.le_of_ble_eq_true rfl)⟩ (fun q9 H locs hok hth w => ?_) (fun H locs hok w => ?_)
  · refine l_c1 hown htab (by decide) (by decide) (hts _ (List.mem_of_getElem? (i := 1) rfl)) (hz.1.1.use _ xk_UOE) hth ?_
    refine lv_astore_n (lv' := [(2, .ref q9), (0, .ref o), (1, .ref oq)]) hx hb dL_leather_11 rfl hl (by decide) rfl (fun ls hl => ?_)
    refine lv_iconst (v := 1) hx hb dL_leather_12 (by decide) ?_
    exact l_end false hx hb hr hlocks w (Or.inr ⟨rfl, hok, rfl⟩) dL_leather_13 (Nat.le_of_ble_eq_true rfl) (Nat.le_of_ble_eq_true rfl)
  · refine lv_i2l (v := ((S 205)).toInt64) hx hb dL_leather_6 rfl ?_
    refine r_last hx hb w 16 0 rfl rfl 5 rfl 0 (by decide) (Nat.le_of_ble_eq_true rfl) rfl (ouB ty oq (vp_updL og 0 ((S 205).toInt64))) rfl [ppB o (a 0) (b 0) (sn 0) (h 0) r (t 0) sb hs lf, rfW r (wLeather S) f0 f1 f2 f3, stB a (((oRenew (S, M)).2).1), lnB ty a (((oRenew (S, M)).2).1), quB ty a (((oRenew (S, M)).2).1), weB a (((oRenew (S, M)).2).1), miB ty a (((oRenew (S, M)).2).2), hiB ty h ha (jmin 8 (sz + 1)) (nI ((nx + 1) % 8)), stF ty (ha 0) (va_up HX nx (S, M) 0), stF ty (ha 1) (va_up HX nx (S, M) 1), stF ty (ha 2) (va_up HX nx (S, M) 2), stF ty (ha 3) (va_up HX nx (S, M) 3), stF ty (ha 4) (va_up HX nx (S, M) 4), stF ty (ha 5) (va_up HX nx (S, M) 5), stF ty (ha 6) (va_up HX nx (S, M) 6), stF ty (ha 7) (va_up HX nx (S, M) 7), ouB ty oq (vp_updL og 0 ((S 205).toInt64))] rfl dL_leather_7 (fun H locs w => ?_)
    refine lv_goto (tgt := 14) hx hb dL_leather_8 (by decide) ?_
    refine lv_iconst (v := 0) hx hb dL_leather_14 (by decide) ?_
    exact l_end true hx hb hr hlocks w (Or.inl ⟨rfl, hok, rfl⟩) dL_leather_15 (Nat.le_of_ble_eq_true rfl) (Nat.le_of_ble_eq_true rfl)
theorem hdN_L_leather : yL_leather.cls ≠ "java/lang/invoke/MethodHandle" ∧ yL_leather.cls ≠ "java/lang/invoke/VarHandle" ∧ (parseMethodDescriptor yL_leather.desc).map (fun d => d.parameters.length) = some 2 := by decide +kernel

set_option maxRecDepth 100000 in
set_option maxHeartbeats 4000000 in
theorem c_L_householdOf (l : Launch) (hst : l.stackTraces = false) (J : Nat → Nat) (D : va_G) (ty : Nat → ClassId) (o : Nat) (a b sn h t : Nat → Nat) (r sb : Nat) (hs lf : Int32) (S M : pS) (n q : Nat) (hA : IA S n q) (v y : Int32) (oq : Nat) (og : Nat → Int64) : Lx J l yL_householdOf wsL_householdOf (kR 7 152 1 6) D (kTY ty) [.ref o, .int v, .int y, .ref oq] [ppB o (a 0) (b 0) (sn 0) (h 0) r (t 0) sb hs lf, stB a S, lnB ty a S, quB ty a S, weB a S, miB ty a M, ouB ty oq og] (tHo n v y = 0) [ppB o (a 0) (b 0) (sn 0) (h 0) r (t 0) sb hs lf, stB a S, lnB ty a S, quB ty a S, weB a S, miB ty a M, ouB ty oq (vp_updL og 0 ((vHo S q v y).toInt64))] [ppB o (a 0) (b 0) (sn 0) (h 0) r (t 0) sb hs lf, stB a S, lnB ty a S, quB ty a S, weB a S, miB ty a M, ouB ty oq og] (if tHo n v y = 2 then 2 else 1) 1 6 := by
  refine m_lx (cc := cL_householdOf) (maxL := 5) (ret := (some .int)) (hh := [(0, 10, 13, 45), (0, 10, 17, 47)]) (by decide +kernel) rfl (Nat.le_of_ble_eq_true rfl) ?_
  intro p e s m below meth c A ls hx hb hml hr hlocks hown hts htab hnc hz hj w hl
  have hown : s.vm.findClass RL = some m.cls := hown
  have hl : lv_has ls 5 [(0, .ref o), (1, .int v), (2, .int y), (3, .ref oq)] := hl
  refine lv_aload_n hx hb dL_householdOf_0 rfl (lv_at hl 3 rfl) ?_
  refine lv_iconst (v := 0) hx hb dL_householdOf_1 (by decide) ?_
  refine lv_aload_n hx hb dL_householdOf_2 rfl (lv_at hl 0 rfl) ?_
  refine lv_iload_n hx hb dL_householdOf_3 rfl (lv_at hl 1 rfl) ?_
  refine lv_iload_n hx hb dL_householdOf_4 rfl (lv_at hl 2 rfl) ?_
  refine xc_i (As := [.int v, .int y]) (rest := [.int 0, .ref oq]) (Rs := [ouB ty oq og]) ⟨hx, hb, hml, hown, hts⟩ hz hj w (c_X8_householdOf l hst D ty o a b sn h t r sb hs lf S M n q hA v y) (cwV 2 hts gL_householdOf_X8_householdOf rfl rfl rfl ⟨rfl, hdN_X8_householdOf⟩ ⟨Nat.le_of_ble_eq_true rfl, Nat.le_of_ble_eq_true rfl⟩) [0, 1, 2, 3, 4, 5, 6] (nB := 7) (by decide) rfl rfl 0 rfl rfl (ci := 12) rfl rfl rfl hl.1 rfl (Nat.le_of_ble_eq_true rfl) dL_householdOf_5 ⟨(Nat.le_of_ble_eq_true rfl), (Nat.le_of_ble_eq_true rfl)⟩ (fun q9 H locs hok hth w => ?_) (fun H locs hok w => ?_)
  · by_cases ht : tHo n v y = 2
    · rw [if_pos ht] at hth
      refine l_c2 hown htab (by decide) (hts _ (List.mem_of_getElem? (i := 1) rfl)) hnc.2.1 (by decide) (by decide) (hnc.1.use 0 rfl) (hz.1.1.use _ xk_IAE) hth ?_
      refine lv_astore (lv' := [(4, .ref q9), (0, .ref o), (1, .int v), (2, .int y), (3, .ref oq)]) hx hb dL_householdOf_17 hl (by decide) rfl (fun ls hl => ?_)
      refine lv_iconst (v := 2) hx hb dL_householdOf_19 (by decide) ?_
      exact l_end false hx hb hr hlocks w (Or.inr ⟨rfl, hok, (if_pos ht).symm⟩) dL_householdOf_20 (Nat.le_of_ble_eq_true rfl) (Nat.le_of_ble_eq_true rfl)
    · rw [if_neg ht] at hth
      refine l_c1 hown htab (by decide) (by decide) (hts _ (List.mem_of_getElem? (i := 1) rfl)) (hz.1.1.use _ xk_IOB) hth ?_
      refine lv_astore (lv' := [(4, .ref q9), (0, .ref o), (1, .int v), (2, .int y), (3, .ref oq)]) hx hb dL_householdOf_13 hl (by decide) rfl (fun ls hl => ?_)
      refine lv_iconst (v := 1) hx hb dL_householdOf_15 (by decide) ?_
      exact l_end false hx hb hr hlocks w (Or.inr ⟨rfl, hok, (if_neg ht).symm⟩) dL_householdOf_16 (Nat.le_of_ble_eq_true rfl) (Nat.le_of_ble_eq_true rfl)
  · refine lv_i2l (v := ((vHo S q v y)).toInt64) hx hb dL_householdOf_8 rfl ?_
    refine r_last hx hb w 6 0 rfl rfl 5 rfl 0 (by decide) (Nat.le_of_ble_eq_true rfl) rfl (ouB ty oq (vp_updL og 0 ((vHo S q v y).toInt64))) rfl [ppB o (a 0) (b 0) (sn 0) (h 0) r (t 0) sb hs lf, stB a S, lnB ty a S, quB ty a S, weB a S, miB ty a M, ouB ty oq (vp_updL og 0 ((vHo S q v y).toInt64))] rfl dL_householdOf_9 (fun H locs w => ?_)
    refine lv_goto (tgt := 21) hx hb dL_householdOf_10 (by decide) ?_
    refine lv_iconst (v := 0) hx hb dL_householdOf_21 (by decide) ?_
    exact l_end true hx hb hr hlocks w (Or.inl ⟨rfl, hok, rfl⟩) dL_householdOf_22 (Nat.le_of_ble_eq_true rfl) (Nat.le_of_ble_eq_true rfl)
theorem hdN_L_householdOf : yL_householdOf.cls ≠ "java/lang/invoke/MethodHandle" ∧ yL_householdOf.cls ≠ "java/lang/invoke/VarHandle" ∧ (parseMethodDescriptor yL_householdOf.desc).map (fun d => d.parameters.length) = some 4 := by decide +kernel

set_option maxRecDepth 100000 in
set_option maxHeartbeats 4000000 in
theorem c_L_at (l : Launch) (hst : l.stackTraces = false) (J : Nat → Nat) (D : va_G) (ty : Nat → ClassId) (o : Nat) (a b sn h t : Nat → Nat) (r sb : Nat) (hs lf : Int32) (S M : pS) (n q : Nat) (hA : IA S n q) (v : Int32) (oq : Nat) (og : Nat → Int64) : Lx J l yL_at wsL_at (kR 7 151 1 6) D (kTY ty) [.ref o, .int v, .ref oq] [ppB o (a 0) (b 0) (sn 0) (h 0) r (t 0) sb hs lf, stB a S, lnB ty a S, quB ty a S, weB a S, miB ty a M, ouB ty oq og] (t1 (pHas v q) = 0) [ppB o (a 0) (b 0) (sn 0) (h 0) r (t 0) sb hs lf, stB a S, lnB ty a S, quB ty a S, weB a S, miB ty a M, ouB ty oq (vp_updL og 0 ((S (50 + cN v)).toInt64))] [ppB o (a 0) (b 0) (sn 0) (h 0) r (t 0) sb hs lf, stB a S, lnB ty a S, quB ty a S, weB a S, miB ty a M, ouB ty oq og] 1 1 6 := by
  refine m_lx (cc := cL_at) (maxL := 4) (ret := (some .int)) (hh := [(0, 9, 12, 45)]) (by decide +kernel) rfl (Nat.le_of_ble_eq_true rfl) ?_
  intro p e s m below meth c A ls hx hb hml hr hlocks hown hts htab hnc hz hj w hl
  have hown : s.vm.findClass RL = some m.cls := hown
  have hl : lv_has ls 4 [(0, .ref o), (1, .int v), (2, .ref oq)] := hl
  refine lv_aload_n hx hb dL_at_0 rfl (lv_at hl 2 rfl) ?_
  refine lv_iconst (v := 0) hx hb dL_at_1 (by decide) ?_
  refine lv_aload_n hx hb dL_at_2 rfl (lv_at hl 0 rfl) ?_
  refine lv_iload_n hx hb dL_at_3 rfl (lv_at hl 1 rfl) ?_
  refine xc_i (As := [.int v]) (rest := [.int 0, .ref oq]) (Rs := [ouB ty oq og]) ⟨hx, hb, hml, hown, hts⟩ hz hj w (c_X8_at l hst D ty o a b sn h t r sb hs lf S M n q hA v) (cwV 1 hts gL_at_X8_at rfl rfl rfl ⟨rfl, hdN_X8_at⟩ ⟨Nat.le_of_ble_eq_true rfl, Nat.le_of_ble_eq_true rfl⟩) [0, 1, 2, 3, 4, 5, 6] (nB := 7) (by decide) rfl rfl 0 rfl rfl (ci := 12) rfl rfl rfl hl.1 rfl (Nat.le_of_ble_eq_true rfl) dL_at_4 ⟨(Nat.le_of_ble_eq_true rfl), (Nat.le_of_ble_eq_true rfl)⟩ (fun q9 H locs hok hth w => ?_) (fun H locs hok w => ?_)
  · refine l_c1 hown htab (by decide) (by decide) (hts _ (List.mem_of_getElem? (i := 1) rfl)) (hz.1.1.use _ xk_IOB) hth ?_
    refine lv_astore_n (lv' := [(3, .ref q9), (0, .ref o), (1, .int v), (2, .ref oq)]) hx hb dL_at_12 rfl hl (by decide) rfl (fun ls hl => ?_)
    refine lv_iconst (v := 1) hx hb dL_at_13 (by decide) ?_
    exact l_end false hx hb hr hlocks w (Or.inr ⟨rfl, hok, rfl⟩) dL_at_14 (Nat.le_of_ble_eq_true rfl) (Nat.le_of_ble_eq_true rfl)
  · refine lv_i2l (v := ((S (50 + cN v))).toInt64) hx hb dL_at_7 rfl ?_
    refine r_last hx hb w 6 0 rfl rfl 5 rfl 0 (by decide) (Nat.le_of_ble_eq_true rfl) rfl (ouB ty oq (vp_updL og 0 ((S (50 + cN v)).toInt64))) rfl [ppB o (a 0) (b 0) (sn 0) (h 0) r (t 0) sb hs lf, stB a S, lnB ty a S, quB ty a S, weB a S, miB ty a M, ouB ty oq (vp_updL og 0 ((S (50 + cN v)).toInt64))] rfl dL_at_8 (fun H locs w => ?_)
    refine lv_goto (tgt := 15) hx hb dL_at_9 (by decide) ?_
    refine lv_iconst (v := 0) hx hb dL_at_15 (by decide) ?_
    exact l_end true hx hb hr hlocks w (Or.inl ⟨rfl, hok, rfl⟩) dL_at_16 (Nat.le_of_ble_eq_true rfl) (Nat.le_of_ble_eq_true rfl)
theorem hdN_L_at : yL_at.cls ≠ "java/lang/invoke/MethodHandle" ∧ yL_at.cls ≠ "java/lang/invoke/VarHandle" ∧ (parseMethodDescriptor yL_at.desc).map (fun d => d.parameters.length) = some 3 := by decide +kernel

set_option maxRecDepth 100000 in
set_option maxHeartbeats 4000000 in
theorem c_L_neighbours (l : Launch) (hst : l.stackTraces = false) (J : Nat → Nat) (D : va_G) (ty : Nat → ClassId) (o : Nat) (a b sn h t : Nat → Nat) (r sb : Nat) (hs lf : Int32) (S M : pS) (n q : Nat) (hA : IA S n q) (v : Int32) (oq : Nat) (og : Nat → Int64) : Lx J l yL_neighbours wsL_neighbours (kR 7 151 1 6) D (kTY ty) [.ref o, .int v, .ref oq] [ppB o (a 0) (b 0) (sn 0) (h 0) r (t 0) sb hs lf, stB a S, lnB ty a S, quB ty a S, weB a S, miB ty a M, ouB ty oq og] (t1 (pHas v n) = 0) [ppB o (a 0) (b 0) (sn 0) (h 0) r (t 0) sb hs lf, stB a S, lnB ty a S, quB ty a S, weB a S, miB ty a M, ouB ty oq (vp_updL og 0 ((pNbs S (cN v) n).toInt64))] [ppB o (a 0) (b 0) (sn 0) (h 0) r (t 0) sb hs lf, stB a S, lnB ty a S, quB ty a S, weB a S, miB ty a M, ouB ty oq og] 1 1 6 := by
  refine m_lx (cc := cL_neighbours) (maxL := 4) (ret := (some .int)) (hh := [(0, 9, 12, 45)]) (by decide +kernel) rfl (Nat.le_of_ble_eq_true rfl) ?_
  intro p e s m below meth c A ls hx hb hml hr hlocks hown hts htab hnc hz hj w hl
  have hown : s.vm.findClass RL = some m.cls := hown
  have hl : lv_has ls 4 [(0, .ref o), (1, .int v), (2, .ref oq)] := hl
  refine lv_aload_n hx hb dL_neighbours_0 rfl (lv_at hl 2 rfl) ?_
  refine lv_iconst (v := 0) hx hb dL_neighbours_1 (by decide) ?_
  refine lv_aload_n hx hb dL_neighbours_2 rfl (lv_at hl 0 rfl) ?_
  refine lv_iload_n hx hb dL_neighbours_3 rfl (lv_at hl 1 rfl) ?_
  refine xc_i (As := [.int v]) (rest := [.int 0, .ref oq]) (Rs := [ouB ty oq og]) ⟨hx, hb, hml, hown, hts⟩ hz hj w (c_X8_neighbours l hst D ty o a b sn h t r sb hs lf S M n q hA v) (cwV 1 hts gL_neighbours_X8_neighbours rfl rfl rfl ⟨rfl, hdN_X8_neighbours⟩ ⟨Nat.le_of_ble_eq_true rfl, Nat.le_of_ble_eq_true rfl⟩) [0, 1, 2, 3, 4, 5, 6] (nB := 7) (by decide) rfl rfl 0 rfl rfl (ci := 12) rfl rfl rfl hl.1 rfl (Nat.le_of_ble_eq_true rfl) dL_neighbours_4 ⟨(Nat.le_of_ble_eq_true rfl), (Nat.le_of_ble_eq_true rfl)⟩ (fun q9 H locs hok hth w => ?_) (fun H locs hok w => ?_)
  · refine l_c1 hown htab (by decide) (by decide) (hts _ (List.mem_of_getElem? (i := 1) rfl)) (hz.1.1.use _ xk_IOB) hth ?_
    refine lv_astore_n (lv' := [(3, .ref q9), (0, .ref o), (1, .int v), (2, .ref oq)]) hx hb dL_neighbours_12 rfl hl (by decide) rfl (fun ls hl => ?_)
    refine lv_iconst (v := 1) hx hb dL_neighbours_13 (by decide) ?_
    exact l_end false hx hb hr hlocks w (Or.inr ⟨rfl, hok, rfl⟩) dL_neighbours_14 (Nat.le_of_ble_eq_true rfl) (Nat.le_of_ble_eq_true rfl)
  · refine lv_i2l (v := ((pNbs S (cN v) n)).toInt64) hx hb dL_neighbours_7 rfl ?_
    refine r_last hx hb w 6 0 rfl rfl 5 rfl 0 (by decide) (Nat.le_of_ble_eq_true rfl) rfl (ouB ty oq (vp_updL og 0 ((pNbs S (cN v) n).toInt64))) rfl [ppB o (a 0) (b 0) (sn 0) (h 0) r (t 0) sb hs lf, stB a S, lnB ty a S, quB ty a S, weB a S, miB ty a M, ouB ty oq (vp_updL og 0 ((pNbs S (cN v) n).toInt64))] rfl dL_neighbours_8 (fun H locs w => ?_)
    refine lv_goto (tgt := 15) hx hb dL_neighbours_9 (by decide) ?_
    refine lv_iconst (v := 0) hx hb dL_neighbours_15 (by decide) ?_
    exact l_end true hx hb hr hlocks w (Or.inl ⟨rfl, hok, rfl⟩) dL_neighbours_16 (Nat.le_of_ble_eq_true rfl) (Nat.le_of_ble_eq_true rfl)
theorem hdN_L_neighbours : yL_neighbours.cls ≠ "java/lang/invoke/MethodHandle" ∧ yL_neighbours.cls ≠ "java/lang/invoke/VarHandle" ∧ (parseMethodDescriptor yL_neighbours.desc).map (fun d => d.parameters.length) = some 3 := by decide +kernel

set_option maxRecDepth 100000 in
set_option maxHeartbeats 4000000 in
theorem c_L_quarrels (l : Launch) (hst : l.stackTraces = false) (J : Nat → Nat) (D : va_G) (ty : Nat → ClassId) (o : Nat) (a b sn h t : Nat → Nat) (r sb : Nat) (hs lf : Int32) (S M : pS) (n q : Nat) (hA : IA S n q) (v y : Int32) (oq : Nat) (og : Nat → Int64) : Lx J l yL_quarrels wsL_quarrels (kR 7 152 1 6) D (kTY ty) [.ref o, .int v, .int y, .ref oq] [ppB o (a 0) (b 0) (sn 0) (h 0) r (t 0) sb hs lf, stB a S, lnB ty a S, quB ty a S, weB a S, miB ty a M, ouB ty oq og] (t1 (pHas v n && pHas y n) = 0) [ppB o (a 0) (b 0) (sn 0) (h 0) r (t 0) sb hs lf, stB a S, lnB ty a S, quB ty a S, weB a S, miB ty a M, ouB ty oq (vp_updL og 0 ((S (58 + 8 * cN v + cN y)).toInt64))] [ppB o (a 0) (b 0) (sn 0) (h 0) r (t 0) sb hs lf, stB a S, lnB ty a S, quB ty a S, weB a S, miB ty a M, ouB ty oq og] 1 1 6 := by
  refine m_lx (cc := cL_quarrels) (maxL := 5) (ret := (some .int)) (hh := [(0, 10, 13, 45)]) (by decide +kernel) rfl (Nat.le_of_ble_eq_true rfl) ?_
  intro p e s m below meth c A ls hx hb hml hr hlocks hown hts htab hnc hz hj w hl
  have hown : s.vm.findClass RL = some m.cls := hown
  have hl : lv_has ls 5 [(0, .ref o), (1, .int v), (2, .int y), (3, .ref oq)] := hl
  refine lv_aload_n hx hb dL_quarrels_0 rfl (lv_at hl 3 rfl) ?_
  refine lv_iconst (v := 0) hx hb dL_quarrels_1 (by decide) ?_
  refine lv_aload_n hx hb dL_quarrels_2 rfl (lv_at hl 0 rfl) ?_
  refine lv_iload_n hx hb dL_quarrels_3 rfl (lv_at hl 1 rfl) ?_
  refine lv_iload_n hx hb dL_quarrels_4 rfl (lv_at hl 2 rfl) ?_
  refine xc_i (As := [.int v, .int y]) (rest := [.int 0, .ref oq]) (Rs := [ouB ty oq og]) ⟨hx, hb, hml, hown, hts⟩ hz hj w (c_X8_quarrels l hst D ty o a b sn h t r sb hs lf S M n q hA v y) (cwV 2 hts gL_quarrels_X8_quarrels rfl rfl rfl ⟨rfl, hdN_X8_quarrels⟩ ⟨Nat.le_of_ble_eq_true rfl, Nat.le_of_ble_eq_true rfl⟩) [0, 1, 2, 3, 4, 5, 6] (nB := 7) (by decide) rfl rfl 0 rfl rfl (ci := 12) rfl rfl rfl hl.1 rfl (Nat.le_of_ble_eq_true rfl) dL_quarrels_5 ⟨(Nat.le_of_ble_eq_true rfl), (Nat.le_of_ble_eq_true rfl)⟩ (fun q9 H locs hok hth w => ?_) (fun H locs hok w => ?_)
  · refine l_c1 hown htab (by decide) (by decide) (hts _ (List.mem_of_getElem? (i := 1) rfl)) (hz.1.1.use _ xk_IOB) hth ?_
    refine lv_astore (lv' := [(4, .ref q9), (0, .ref o), (1, .int v), (2, .int y), (3, .ref oq)]) hx hb dL_quarrels_13 hl (by decide) rfl (fun ls hl => ?_)
    refine lv_iconst (v := 1) hx hb dL_quarrels_15 (by decide) ?_
    exact l_end false hx hb hr hlocks w (Or.inr ⟨rfl, hok, rfl⟩) dL_quarrels_16 (Nat.le_of_ble_eq_true rfl) (Nat.le_of_ble_eq_true rfl)
  · refine lv_i2l (v := ((S (58 + 8 * cN v + cN y))).toInt64) hx hb dL_quarrels_8 rfl ?_
    refine r_last hx hb w 6 0 rfl rfl 5 rfl 0 (by decide) (Nat.le_of_ble_eq_true rfl) rfl (ouB ty oq (vp_updL og 0 ((S (58 + 8 * cN v + cN y)).toInt64))) rfl [ppB o (a 0) (b 0) (sn 0) (h 0) r (t 0) sb hs lf, stB a S, lnB ty a S, quB ty a S, weB a S, miB ty a M, ouB ty oq (vp_updL og 0 ((S (58 + 8 * cN v + cN y)).toInt64))] rfl dL_quarrels_9 (fun H locs w => ?_)
    refine lv_goto (tgt := 17) hx hb dL_quarrels_10 (by decide) ?_
    refine lv_iconst (v := 0) hx hb dL_quarrels_17 (by decide) ?_
    exact l_end true hx hb hr hlocks w (Or.inl ⟨rfl, hok, rfl⟩) dL_quarrels_18 (Nat.le_of_ble_eq_true rfl) (Nat.le_of_ble_eq_true rfl)
theorem hdN_L_quarrels : yL_quarrels.cls ≠ "java/lang/invoke/MethodHandle" ∧ yL_quarrels.cls ≠ "java/lang/invoke/VarHandle" ∧ (parseMethodDescriptor yL_quarrels.desc).map (fun d => d.parameters.length) = some 4 := by decide +kernel

set_option maxRecDepth 100000 in
set_option maxHeartbeats 4000000 in
theorem c_L_wouldWin (l : Launch) (hst : l.stackTraces = false) (J : Nat → Nat) (D : va_G) (ty : Nat → ClassId) (o : Nat) (a b sn h t : Nat → Nat) (r sb : Nat) (hs lf : Int32) (S M : pS) (n q : Nat) (hA : IA S n q) (v y : Int32) (oq : Nat) (og : Nat → Int64) : Lx J l yL_wouldWin wsL_wouldWin (kR 7 152 1 6) D (kTY ty) [.ref o, .int v, .int y, .ref oq] [ppB o (a 0) (b 0) (sn 0) (h 0) r (t 0) sb hs lf, stB a S, lnB ty a S, quB ty a S, weB a S, miB ty a M, ouB ty oq og] (tWin n v y = 0) [ppB o (a 0) (b 0) (sn 0) (h 0) r (t 0) sb hs lf, stB a S, lnB ty a S, quB ty a S, weB a S, miB ty a M, ouB ty oq (vp_updL og 0 ((nI (pWin S n (cN v) (cN y))).toInt64))] [ppB o (a 0) (b 0) (sn 0) (h 0) r (t 0) sb hs lf, stB a S, lnB ty a S, quB ty a S, weB a S, miB ty a M, ouB ty oq og] (if tWin n v y = 2 then 2 else 1) 1 6 := by
  refine m_lx (cc := cL_wouldWin) (maxL := 5) (ret := (some .int)) (hh := [(0, 10, 13, 45), (0, 10, 17, 47)]) (by decide +kernel) rfl (Nat.le_of_ble_eq_true rfl) ?_
  intro p e s m below meth c A ls hx hb hml hr hlocks hown hts htab hnc hz hj w hl
  have hown : s.vm.findClass RL = some m.cls := hown
  have hl : lv_has ls 5 [(0, .ref o), (1, .int v), (2, .int y), (3, .ref oq)] := hl
  refine lv_aload_n hx hb dL_wouldWin_0 rfl (lv_at hl 3 rfl) ?_
  refine lv_iconst (v := 0) hx hb dL_wouldWin_1 (by decide) ?_
  refine lv_aload_n hx hb dL_wouldWin_2 rfl (lv_at hl 0 rfl) ?_
  refine lv_iload_n hx hb dL_wouldWin_3 rfl (lv_at hl 1 rfl) ?_
  refine lv_iload_n hx hb dL_wouldWin_4 rfl (lv_at hl 2 rfl) ?_
  refine xc_i (As := [.int v, .int y]) (rest := [.int 0, .ref oq]) (Rs := [ouB ty oq og]) ⟨hx, hb, hml, hown, hts⟩ hz hj w (c_X8_wouldWin l hst D ty o a b sn h t r sb hs lf S M n q hA v y) (cwV 2 hts gL_wouldWin_X8_wouldWin rfl rfl rfl ⟨rfl, hdN_X8_wouldWin⟩ ⟨Nat.le_of_ble_eq_true rfl, Nat.le_of_ble_eq_true rfl⟩) [0, 1, 2, 3, 4, 5, 6] (nB := 7) (by decide) rfl rfl 0 rfl rfl (ci := 12) rfl rfl rfl hl.1 rfl (Nat.le_of_ble_eq_true rfl) dL_wouldWin_5 ⟨(Nat.le_of_ble_eq_true rfl), (Nat.le_of_ble_eq_true rfl)⟩ (fun q9 H locs hok hth w => ?_) (fun H locs hok w => ?_)
  · by_cases ht : tWin n v y = 2
    · rw [if_pos ht] at hth
      refine l_c2 hown htab (by decide) (hts _ (List.mem_of_getElem? (i := 1) rfl)) hnc.2.1 (by decide) (by decide) (hnc.1.use 0 rfl) (hz.1.1.use _ xk_IAE) hth ?_
      refine lv_astore (lv' := [(4, .ref q9), (0, .ref o), (1, .int v), (2, .int y), (3, .ref oq)]) hx hb dL_wouldWin_17 hl (by decide) rfl (fun ls hl => ?_)
      refine lv_iconst (v := 2) hx hb dL_wouldWin_19 (by decide) ?_
      exact l_end false hx hb hr hlocks w (Or.inr ⟨rfl, hok, (if_pos ht).symm⟩) dL_wouldWin_20 (Nat.le_of_ble_eq_true rfl) (Nat.le_of_ble_eq_true rfl)
    · rw [if_neg ht] at hth
      refine l_c1 hown htab (by decide) (by decide) (hts _ (List.mem_of_getElem? (i := 1) rfl)) (hz.1.1.use _ xk_IOB) hth ?_
      refine lv_astore (lv' := [(4, .ref q9), (0, .ref o), (1, .int v), (2, .int y), (3, .ref oq)]) hx hb dL_wouldWin_13 hl (by decide) rfl (fun ls hl => ?_)
      refine lv_iconst (v := 1) hx hb dL_wouldWin_15 (by decide) ?_
      exact l_end false hx hb hr hlocks w (Or.inr ⟨rfl, hok, (if_neg ht).symm⟩) dL_wouldWin_16 (Nat.le_of_ble_eq_true rfl) (Nat.le_of_ble_eq_true rfl)
  · refine lv_i2l (v := ((nI (pWin S n (cN v) (cN y)))).toInt64) hx hb dL_wouldWin_8 rfl ?_
    refine r_last hx hb w 6 0 rfl rfl 5 rfl 0 (by decide) (Nat.le_of_ble_eq_true rfl) rfl (ouB ty oq (vp_updL og 0 ((nI (pWin S n (cN v) (cN y))).toInt64))) rfl [ppB o (a 0) (b 0) (sn 0) (h 0) r (t 0) sb hs lf, stB a S, lnB ty a S, quB ty a S, weB a S, miB ty a M, ouB ty oq (vp_updL og 0 ((nI (pWin S n (cN v) (cN y))).toInt64))] rfl dL_wouldWin_9 (fun H locs w => ?_)
    refine lv_goto (tgt := 21) hx hb dL_wouldWin_10 (by decide) ?_
    refine lv_iconst (v := 0) hx hb dL_wouldWin_21 (by decide) ?_
    exact l_end true hx hb hr hlocks w (Or.inl ⟨rfl, hok, rfl⟩) dL_wouldWin_22 (Nat.le_of_ble_eq_true rfl) (Nat.le_of_ble_eq_true rfl)
theorem hdN_L_wouldWin : yL_wouldWin.cls ≠ "java/lang/invoke/MethodHandle" ∧ yL_wouldWin.cls ≠ "java/lang/invoke/VarHandle" ∧ (parseMethodDescriptor yL_wouldWin.desc).map (fun d => d.parameters.length) = some 4 := by decide +kernel

set_option maxRecDepth 100000 in
set_option maxHeartbeats 4000000 in
theorem c_L_turnsBy (l : Launch) (hst : l.stackTraces = false) (J : Nat → Nat) (D : va_G) (ty : Nat → ClassId) (o : Nat) (a b sn h t : Nat → Nat) (r sb : Nat) (hs lf : Int32) (S M : pS) (n q : Nat) (hA : IA S n q) (v y : Int32) (oq : Nat) (og : Nat → Int64) : Lx J l yL_turnsBy wsL_turnsBy (kR 7 152 1 6) D (kTY ty) [.ref o, .int v, .int y, .ref oq] [ppB o (a 0) (b 0) (sn 0) (h 0) r (t 0) sb hs lf, stB a S, lnB ty a S, quB ty a S, weB a S, miB ty a M, ouB ty oq og] (tBy n v y = 0) [ppB o (a 0) (b 0) (sn 0) (h 0) r (t 0) sb hs lf, stB a S, lnB ty a S, quB ty a S, weB a S, miB ty a M, ouB ty oq (vp_updL og 0 ((pTbl S (cN v) y).toInt64))] [ppB o (a 0) (b 0) (sn 0) (h 0) r (t 0) sb hs lf, stB a S, lnB ty a S, quB ty a S, weB a S, miB ty a M, ouB ty oq og] (if tBy n v y = 2 then 2 else 1) 1 6 := by
  refine m_lx (cc := cL_turnsBy) (maxL := 5) (ret := (some .int)) (hh := [(0, 10, 13, 45), (0, 10, 17, 47)]) (by decide +kernel) rfl (Nat.le_of_ble_eq_true rfl) ?_
  intro p e s m below meth c A ls hx hb hml hr hlocks hown hts htab hnc hz hj w hl
  have hown : s.vm.findClass RL = some m.cls := hown
  have hl : lv_has ls 5 [(0, .ref o), (1, .int v), (2, .int y), (3, .ref oq)] := hl
  refine lv_aload_n hx hb dL_turnsBy_0 rfl (lv_at hl 3 rfl) ?_
  refine lv_iconst (v := 0) hx hb dL_turnsBy_1 (by decide) ?_
  refine lv_aload_n hx hb dL_turnsBy_2 rfl (lv_at hl 0 rfl) ?_
  refine lv_iload_n hx hb dL_turnsBy_3 rfl (lv_at hl 1 rfl) ?_
  refine lv_iload_n hx hb dL_turnsBy_4 rfl (lv_at hl 2 rfl) ?_
  refine xc_i (As := [.int v, .int y]) (rest := [.int 0, .ref oq]) (Rs := [ouB ty oq og]) ⟨hx, hb, hml, hown, hts⟩ hz hj w (c_X8_turnsBy l hst D ty o a b sn h t r sb hs lf S M n q hA v y) (cwV 2 hts gL_turnsBy_X8_turnsBy rfl rfl rfl ⟨rfl, hdN_X8_turnsBy⟩ ⟨Nat.le_of_ble_eq_true rfl, Nat.le_of_ble_eq_true rfl⟩) [0, 1, 2, 3, 4, 5, 6] (nB := 7) (by decide) rfl rfl 0 rfl rfl (ci := 12) rfl rfl rfl hl.1 rfl (Nat.le_of_ble_eq_true rfl) dL_turnsBy_5 ⟨(Nat.le_of_ble_eq_true rfl), (Nat.le_of_ble_eq_true rfl)⟩ (fun q9 H locs hok hth w => ?_) (fun H locs hok w => ?_)
  · by_cases ht : tBy n v y = 2
    · rw [if_pos ht] at hth
      refine l_c2 hown htab (by decide) (hts _ (List.mem_of_getElem? (i := 1) rfl)) hnc.2.1 (by decide) (by decide) (hnc.1.use 0 rfl) (hz.1.1.use _ xk_IAE) hth ?_
      refine lv_astore (lv' := [(4, .ref q9), (0, .ref o), (1, .int v), (2, .int y), (3, .ref oq)]) hx hb dL_turnsBy_17 hl (by decide) rfl (fun ls hl => ?_)
      refine lv_iconst (v := 2) hx hb dL_turnsBy_19 (by decide) ?_
      exact l_end false hx hb hr hlocks w (Or.inr ⟨rfl, hok, (if_pos ht).symm⟩) dL_turnsBy_20 (Nat.le_of_ble_eq_true rfl) (Nat.le_of_ble_eq_true rfl)
    · rw [if_neg ht] at hth
      refine l_c1 hown htab (by decide) (by decide) (hts _ (List.mem_of_getElem? (i := 1) rfl)) (hz.1.1.use _ xk_IOB) hth ?_
      refine lv_astore (lv' := [(4, .ref q9), (0, .ref o), (1, .int v), (2, .int y), (3, .ref oq)]) hx hb dL_turnsBy_13 hl (by decide) rfl (fun ls hl => ?_)
      refine lv_iconst (v := 1) hx hb dL_turnsBy_15 (by decide) ?_
      exact l_end false hx hb hr hlocks w (Or.inr ⟨rfl, hok, (if_neg ht).symm⟩) dL_turnsBy_16 (Nat.le_of_ble_eq_true rfl) (Nat.le_of_ble_eq_true rfl)
  · refine lv_i2l (v := ((pTbl S (cN v) y)).toInt64) hx hb dL_turnsBy_8 rfl ?_
    refine r_last hx hb w 6 0 rfl rfl 5 rfl 0 (by decide) (Nat.le_of_ble_eq_true rfl) rfl (ouB ty oq (vp_updL og 0 ((pTbl S (cN v) y).toInt64))) rfl [ppB o (a 0) (b 0) (sn 0) (h 0) r (t 0) sb hs lf, stB a S, lnB ty a S, quB ty a S, weB a S, miB ty a M, ouB ty oq (vp_updL og 0 ((pTbl S (cN v) y).toInt64))] rfl dL_turnsBy_9 (fun H locs w => ?_)
    refine lv_goto (tgt := 21) hx hb dL_turnsBy_10 (by decide) ?_
    refine lv_iconst (v := 0) hx hb dL_turnsBy_21 (by decide) ?_
    exact l_end true hx hb hr hlocks w (Or.inl ⟨rfl, hok, rfl⟩) dL_turnsBy_22 (Nat.le_of_ble_eq_true rfl) (Nat.le_of_ble_eq_true rfl)
theorem hdN_L_turnsBy : yL_turnsBy.cls ≠ "java/lang/invoke/MethodHandle" ∧ yL_turnsBy.cls ≠ "java/lang/invoke/VarHandle" ∧ (parseMethodDescriptor yL_turnsBy.desc).map (fun d => d.parameters.length) = some 4 := by decide +kernel

set_option maxRecDepth 100000 in
set_option maxHeartbeats 4000000 in
theorem c_L_isFor (l : Launch) (hst : l.stackTraces = false) (J : Nat → Nat) (D : va_G) (ty : Nat → ClassId) (o : Nat) (a b sn h t : Nat → Nat) (r sb : Nat) (hs lf : Int32) (S M : pS) (n q : Nat) (hA : IA S n q) (v : Int32) (oq : Nat) (og : Nat → Int64) : Lx J l yL_isFor wsL_isFor (kR 7 151 1 6) D (kTY ty) [.ref o, .int v, .ref oq] [ppB o (a 0) (b 0) (sn 0) (h 0) r (t 0) sb hs lf, stB a S, lnB ty a S, quB ty a S, weB a S, miB ty a M, ouB ty oq og] (t1 (pHas v n) = 0) [ppB o (a 0) (b 0) (sn 0) (h 0) r (t 0) sb hs lf, stB a S, lnB ty a S, quB ty a S, weB a S, miB ty a M, ouB ty oq (vp_updL og 0 ((nI (pWant S (cN v) 3)).toInt64))] [ppB o (a 0) (b 0) (sn 0) (h 0) r (t 0) sb hs lf, stB a S, lnB ty a S, quB ty a S, weB a S, miB ty a M, ouB ty oq og] 1 1 6 := by
  refine m_lx (cc := cL_isFor) (maxL := 4) (ret := (some .int)) (hh := [(0, 9, 12, 45)]) (by decide +kernel) rfl (Nat.le_of_ble_eq_true rfl) ?_
  intro p e s m below meth c A ls hx hb hml hr hlocks hown hts htab hnc hz hj w hl
  have hown : s.vm.findClass RL = some m.cls := hown
  have hl : lv_has ls 4 [(0, .ref o), (1, .int v), (2, .ref oq)] := hl
  refine lv_aload_n hx hb dL_isFor_0 rfl (lv_at hl 2 rfl) ?_
  refine lv_iconst (v := 0) hx hb dL_isFor_1 (by decide) ?_
  refine lv_aload_n hx hb dL_isFor_2 rfl (lv_at hl 0 rfl) ?_
  refine lv_iload_n hx hb dL_isFor_3 rfl (lv_at hl 1 rfl) ?_
  refine xc_i (As := [.int v]) (rest := [.int 0, .ref oq]) (Rs := [ouB ty oq og]) ⟨hx, hb, hml, hown, hts⟩ hz hj w (c_X8_isFor l hst D ty o a b sn h t r sb hs lf S M n q hA v) (cwV 1 hts gL_isFor_X8_isFor rfl rfl rfl ⟨rfl, hdN_X8_isFor⟩ ⟨Nat.le_of_ble_eq_true rfl, Nat.le_of_ble_eq_true rfl⟩) [0, 1, 2, 3, 4, 5, 6] (nB := 7) (by decide) rfl rfl 0 rfl rfl (ci := 12) rfl rfl rfl hl.1 rfl (Nat.le_of_ble_eq_true rfl) dL_isFor_4 ⟨(Nat.le_of_ble_eq_true rfl), (Nat.le_of_ble_eq_true rfl)⟩ (fun q9 H locs hok hth w => ?_) (fun H locs hok w => ?_)
  · refine l_c1 hown htab (by decide) (by decide) (hts _ (List.mem_of_getElem? (i := 1) rfl)) (hz.1.1.use _ xk_IOB) hth ?_
    refine lv_astore_n (lv' := [(3, .ref q9), (0, .ref o), (1, .int v), (2, .ref oq)]) hx hb dL_isFor_12 rfl hl (by decide) rfl (fun ls hl => ?_)
    refine lv_iconst (v := 1) hx hb dL_isFor_13 (by decide) ?_
    exact l_end false hx hb hr hlocks w (Or.inr ⟨rfl, hok, rfl⟩) dL_isFor_14 (Nat.le_of_ble_eq_true rfl) (Nat.le_of_ble_eq_true rfl)
  · refine lv_i2l (v := ((nI (pWant S (cN v) 3))).toInt64) hx hb dL_isFor_7 rfl ?_
    refine r_last hx hb w 6 0 rfl rfl 5 rfl 0 (by decide) (Nat.le_of_ble_eq_true rfl) rfl (ouB ty oq (vp_updL og 0 ((nI (pWant S (cN v) 3)).toInt64))) rfl [ppB o (a 0) (b 0) (sn 0) (h 0) r (t 0) sb hs lf, stB a S, lnB ty a S, quB ty a S, weB a S, miB ty a M, ouB ty oq (vp_updL og 0 ((nI (pWant S (cN v) 3)).toInt64))] rfl dL_isFor_8 (fun H locs w => ?_)
    refine lv_goto (tgt := 15) hx hb dL_isFor_9 (by decide) ?_
    refine lv_iconst (v := 0) hx hb dL_isFor_15 (by decide) ?_
    exact l_end true hx hb hr hlocks w (Or.inl ⟨rfl, hok, rfl⟩) dL_isFor_16 (Nat.le_of_ble_eq_true rfl) (Nat.le_of_ble_eq_true rfl)
theorem hdN_L_isFor : yL_isFor.cls ≠ "java/lang/invoke/MethodHandle" ∧ yL_isFor.cls ≠ "java/lang/invoke/VarHandle" ∧ (parseMethodDescriptor yL_isFor.desc).map (fun d => d.parameters.length) = some 3 := by decide +kernel
