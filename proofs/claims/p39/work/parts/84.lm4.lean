theorem hdN_L_lay : yL_lay.cls ≠ "java/lang/invoke/MethodHandle" ∧ yL_lay.cls ≠ "java/lang/invoke/VarHandle" ∧ (parseMethodDescriptor yL_lay.desc).map (fun d => d.parameters.length) = some 2 := by decide +kernel
set_option maxRecDepth 100000 in
set_option maxHeartbeats 4000000 in
theorem c_L_lay (l : Launch) (hst : l.stackTraces = false) (D : va_G) (ty : Nat → ClassId) (b9 L9 : Nat) (xs : Nat → Int32) (o : Nat) (a b sn h t : Nat → Nat) (ha : Nat → Nat → Nat) (r sb : Nat) (hs lf ln cn : Int32) (ch le nu : Nat → Int32) (S M : pS) (HX : Nat → pX) (sz : Int32) (nx : Nat) (f : Nat → Int32) (hJ : LJ 0 0 (S, M)) (hnx : nx < 8) : Sv b9 L9 xs l yL_lay wsL_lay (kR 9 181 4 24) D (kTY ty) [.ref o, .ref b9] [ppB o (a 0) (b 0) (sn 0) (h 0) r (t 0) sb hs lf, rfB r (f 0) (f 1) (f 2) (f 3), stB a S, lnB ty a S, quB ty a S, weB a S, miB ty a M, hiB ty h ha sz (nI nx), stF ty (ha 0) (HX 0), stF ty (ha 1) (HX 1), stF ty (ha 2) (HX 2), stF ty (ha 3) (HX 3), stF ty (ha 4) (HX 4), stF ty (ha 5) (HX 5), stF ty (ha 6) (HX 6), stF ty (ha 7) (HX 7), txB ty t ln cn ch le nu] (fun u : LU => ∃ n, 3 ≤ n ∧ n ≤ 8 ∧ LI 200 n u) (luW ty o a b sn h t ha r sb hs lf ln cn ch le nu) 4 24 := by
  refine m_sv (cc := cL_lay) (maxL := 5) (ret := none) (by decide +kernel) rfl (Nat.le_of_ble_eq_true rfl) ?_
  intro p e s m below meth c A ls hx hb hml hr hlocks hown hts hz hs9 w hl
  have hown : s.vm.findClass RL = some m.cls := hown
  have hL9 := hs9.2.2.2
  have hl : lv_has ls 5 [(0, .ref o), (1, .ref b9)] := hl
  obtain ⟨⟨q, hA⟩, hM, hQ⟩ := id hJ
  have hA : IA S 0 q := hA
  have hQ : QA S 0 := hQ
  have hV : IV 0 (S, M) := ⟨⟨0, q, hA⟩, hM⟩
  refine lv_aload_n hx hb dL_lay_0 rfl (lv_at hl 0 rfl) ?_
  refine lv_aload_n hx hb dL_lay_1 rfl (lv_at hl 1 rfl) ?_
  refine lv_iconst (v := 0) hx hb dL_lay_2 (by decide) ?_
  refine lv_bipush (v := 10) hx hb dL_lay_3 (by decide) ?_
  refine l_cS (As := [.ref b9, .int 0, .int 10]) (rest := [.ref o]) (Cs := []) (Rs := [ppB o (a 0) (b 0) (sn 0) (h 0) r (t 0) sb hs lf, rfB r (f 0) (f 1) (f 2) (f 3), stB a S, lnB ty a S, quB ty a S, weB a S, miB ty a M, hiB ty h ha sz (nI nx), stF ty (ha 0) (HX 0), stF ty (ha 1) (HX 1), stF ty (ha 2) (HX 2), stF ty (ha 3) (HX 3), stF ty (ha 4) (HX 4), stF ty (ha 5) (HX 5), stF ty (ha 6) (HX 6), stF ty (ha 7) (HX 7), txB ty t ln cn ch le nu]) ⟨hx, hb, hml, hown, hts⟩ hz hs9 w (c_L_pick l D ty b9 L9 xs 0 10 (by omega) (by omega) (by omega)) (va_cwS 3 hts gL_lay_L_pick rfl rfl rfl hdN_L_pick ⟨(Nat.le_of_ble_eq_true rfl), (Nat.le_of_ble_eq_true rfl)⟩) rfl hl.1 rfl (Nat.le_of_ble_eq_true rfl) dL_lay_5 ⟨(Nat.le_of_ble_eq_true rfl), (Nat.le_of_ble_eq_true rfl)⟩ (fun r5 u5 H locs hu5 w => ?_)
  obtain ⟨rfl, hj5⟩ := hu5
  have w := w.cast (Bs' := [ppB o (a 0) (b 0) (sn 0) (h 0) r (t 0) sb hs lf, rfB r (f 0) (f 1) (f 2) (f 3), stB a S, lnB ty a S, quB ty a S, weB a S, miB ty a M, hiB ty h ha sz (nI nx), stF ty (ha 0) (HX 0), stF ty (ha 1) (HX 1), stF ty (ha 2) (HX 2), stF ty (ha 3) (HX 3), stF ty (ha 4) (HX 4), stF ty (ha 5) (HX 5), stF ty (ha 6) (HX 6), stF ty (ha 7) (HX 7), txB ty t ln cn ch le nu]) rfl
  refine k_iV (As := [.int (nI u5)]) (rest := []) (Rs := [txB ty t ln cn ch le nu]) (Bs' := [ppB o (a 0) (b 0) (sn 0) (h 0) r (t 0) sb hs lf, rfW r (wRain (nI u5)) (f 0) (f 1) (f 2) (f 3), stB a (upd S 208 (nI u5)), lnB ty a (upd S 208 (nI u5)), quB ty a (upd S 208 (nI u5)), weB a (upd S 208 (nI u5)), miB ty a M, hiB ty h ha (jmin 8 (sz + 1)) (nI ((nx + 1) % 8)), stF ty (ha 0) (va_up HX nx (S, M) 0), stF ty (ha 1) (va_up HX nx (S, M) 1), stF ty (ha 2) (va_up HX nx (S, M) 2), stF ty (ha 3) (va_up HX nx (S, M) 3), stF ty (ha 4) (va_up HX nx (S, M) 4), stF ty (ha 5) (va_up HX nx (S, M) 5), stF ty (ha 6) (va_up HX nx (S, M) 6), stF ty (ha 7) (va_up HX nx (S, M) 7), txB ty t ln cn ch le nu]) ⟨hx, hb, hml, hown, hts⟩ w (c_X8_rain l D ty o a b sn h t ha HX r sb hs lf (f 0) (f 1) (f 2) (f 3) sz nx hnx S M 0 (by decide) hV (nI u5) (wRain_0 (by omega))) (cwV 1 hts gL_lay_X8_rain rfl rfl rfl ⟨rfl, hdN_X8_rain⟩ ⟨Nat.le_of_ble_eq_true rfl, Nat.le_of_ble_eq_true rfl⟩) [0, 1, 2, 3, 4, 5, 6, 7, 8, 9, 10, 11, 12, 13, 14, 15, 16] (nB := 17) (by decide) rfl rfl rfl rfl 0 rfl rfl (ci := 12) rfl rfl rfl hl.1 rfl (Nat.le_of_ble_eq_true rfl) dL_lay_8 ⟨(Nat.zero_le _), (Nat.zero_le _)⟩ (fun H locs w => ?_)
  have w := w.cast (Bs' := [ppB o (a 0) (b 0) (sn 0) (h 0) r (t 0) sb hs lf, rfB r (f 0) (f 1) (f 2) (f 3), stB a (upd S 208 (nI u5)), lnB ty a (upd S 208 (nI u5)), quB ty a (upd S 208 (nI u5)), weB a (upd S 208 (nI u5)), miB ty a M, hiB ty h ha (jmin 8 (sz + 1)) (nI ((nx + 1) % 8)), stF ty (ha 0) (va_up HX nx (S, M) 0), stF ty (ha 1) (va_up HX nx (S, M) 1), stF ty (ha 2) (va_up HX nx (S, M) 2), stF ty (ha 3) (va_up HX nx (S, M) 3), stF ty (ha 4) (va_up HX nx (S, M) 4), stF ty (ha 5) (va_up HX nx (S, M) 5), stF ty (ha 6) (va_up HX nx (S, M) 6), stF ty (ha 7) (va_up HX nx (S, M) 7), txB ty t ln cn ch le nu]) (by rw [rfW_z (wRain_0 hj5)])
  refine lv_istore_n (lv' := [(2, .int (S 208)), (0, .ref o), (1, .ref b9)]) hx hb dL_lay_11 rfl hl (by decide) rfl (fun ls hl => ?_)
  refine lv_iconst (v := 3) hx hb dL_lay_12 (by decide) ?_
  refine lv_aload_n hx hb dL_lay_13 rfl (lv_at hl 2 rfl) ?_
  refine lv_iconst (v := 1) hx hb dL_lay_14 (by decide) ?_
  refine lv_bipush (v := 6) hx hb dL_lay_15 (by decide) ?_
  refine l_cS (As := [.ref b9, .int 1, .int 6]) (rest := [.int 3]) (Cs := []) (Rs := [ppB o (a 0) (b 0) (sn 0) (h 0) r (t 0) sb hs lf, rfB r (f 0) (f 1) (f 2) (f 3), stB a (upd S 208 (nI u5)), lnB ty a (upd S 208 (nI u5)), quB ty a (upd S 208 (nI u5)), weB a (upd S 208 (nI u5)), miB ty a M, hiB ty h ha (jmin 8 (sz + 1)) (nI ((nx + 1) % 8)), stF ty (ha 0) (va_up HX nx (S, M) 0), stF ty (ha 1) (va_up HX nx (S, M) 1), stF ty (ha 2) (va_up HX nx (S, M) 2), stF ty (ha 3) (va_up HX nx (S, M) 3), stF ty (ha 4) (va_up HX nx (S, M) 4), stF ty (ha 5) (va_up HX nx (S, M) 5), stF ty (ha 6) (va_up HX nx (S, M) 6), stF ty (ha 7) (va_up HX nx (S, M) 7), txB ty t ln cn ch le nu]) ⟨hx, hb, hml, hown, hts⟩ hz hs9 w (c_L_pick l D ty b9 L9 xs 1 6 (by omega) (by omega) (by omega)) (va_cwS 3 hts gL_lay_L_pick rfl rfl rfl hdN_L_pick ⟨(Nat.le_of_ble_eq_true rfl), (Nat.le_of_ble_eq_true rfl)⟩) rfl hl.1 rfl (Nat.le_of_ble_eq_true rfl) dL_lay_17 ⟨(Nat.le_of_ble_eq_true rfl), (Nat.le_of_ble_eq_true rfl)⟩ (fun r17 u17 H locs hu17 w => ?_)
  obtain ⟨rfl, hj17⟩ := hu17
  have w := w.cast (Bs' := [ppB o (a 0) (b 0) (sn 0) (h 0) r (t 0) sb hs lf, rfB r (f 0) (f 1) (f 2) (f 3), stB a (upd S 208 (nI u5)), lnB ty a (upd S 208 (nI u5)), quB ty a (upd S 208 (nI u5)), weB a (upd S 208 (nI u5)), miB ty a M, hiB ty h ha (jmin 8 (sz + 1)) (nI ((nx + 1) % 8)), stF ty (ha 0) (va_up HX nx (S, M) 0), stF ty (ha 1) (va_up HX nx (S, M) 1), stF ty (ha 2) (va_up HX nx (S, M) 2), stF ty (ha 3) (va_up HX nx (S, M) 3), stF ty (ha 4) (va_up HX nx (S, M) 4), stF ty (ha 5) (va_up HX nx (S, M) 5), stF ty (ha 6) (va_up HX nx (S, M) 6), stF ty (ha 7) (va_up HX nx (S, M) 7), txB ty t ln cn ch le nu]) rfl
  refine lv_iadd hx hb dL_lay_20 ?_
  refine r_eq (y := (nI (3 + u17))) (nI_add 3 u17) ?_
  refine lv_istore_n (lv' := [(3, .int (nI (3 + u17))), (2, .int (S 208)), (0, .ref o), (1, .ref b9)]) hx hb dL_lay_21 rfl hl (by decide) rfl (fun ls hl => ?_)
  obtain ⟨N3, eN3⟩ : ∃ N3, N3 = 3 + u17 := ⟨_, rfl⟩
  rw [← eN3] at hl
  refine lv_iconst (v := 0) hx hb dL_lay_22 (by decide) ?_
  refine lv_istore (lv' := [(4, .int 0), (3, .int (nI N3)), (2, .int (S 208)), (0, .ref o), (1, .ref b9)]) hx hb dL_lay_23 hl (by decide) rfl (fun ls hl => ?_)
  refine k_loop (fun k H locs ls => ∃ (S0 : pS) (M0 : pS) (HX0 : Nat → pX) (sz0 : Int32) (nx0 : Nat) (f0 : Nat → Int32), kW D (kTY ty) A s.heap s H locs [ppB o (a 0) (b 0) (sn 0) (h 0) r (t 0) sb hs lf, rfB r (f0 0) (f0 1) (f0 2) (f0 3), stB a S0, lnB ty a S0, quB ty a S0, weB a S0, miB ty a M0, hiB ty h ha sz0 (nI nx0), stF ty (ha 0) (HX0 0), stF ty (ha 1) (HX0 1), stF ty (ha 2) (HX0 2), stF ty (ha 3) (HX0 3), stF ty (ha 4) (HX0 4), stF ty (ha 5) (HX0 5), stF ty (ha 6) (HX0 6), stF ty (ha 7) (HX0 7), txB ty t ln cn ch le nu] ∧ lv_has ls 5 [(0, .ref o), (1, .ref b9), (3, .int (nI N3)), (4, .int (nI k))] ∧ (LJ 0 k (S0, M0)) ∧ (nx0 < 8)) N3 0 (by omega) ⟨_, _, _, _, _, _, w, lv_sub hl [3, 4, 1, 0] rfl, (LJ_rain hA hM hQ (by omega)), (Nat.mod_lt _ (by omega))⟩ ?_
  intro k hk0 hk ihk H locs ls hI
  obtain ⟨S0, M0, HX0, sz0, nx0, f0, w, hl, hJ0, hnx0⟩ := hI
  refine lv_iload hx hb dL_lay_25 (lv_at hl 3 rfl) ?_
  refine lv_iload_n hx hb dL_lay_27 rfl (lv_at hl 2 rfl) ?_
  refine lv_icmp_ge (tgt := 76) hx hb dL_lay_28 (by decide) (fun c28 => ?_) (fun c28 => ?_)
  · have c28 := (nI_leI (a := N3) (b := k) (by omega) (by omega)).mp c28
    obtain rfl : N3 = k := by omega
    have hJ9 := hJ0
    have hnx9 := hnx0
    refine lv_iconst (v := 0) hx hb dL_lay_76 (by decide) ?_
    refine lv_istore (lv' := [(4, .int 0), (0, .ref o), (1, .ref b9), (3, .int (nI N3))]) hx hb dL_lay_77 hl (by decide) rfl (fun ls hl => ?_)
    refine lv_iload hx hb dL_lay_79 (lv_at hl 0 rfl) ?_
    refine lv_iconst (v := 4) hx hb dL_lay_81 (by decide) ?_
    refine lv_icmp_ge (tgt := 106) hx hb dL_lay_82 (by decide) (fun c82 => ?_) (fun c82 => ?_)
    · have c82 := (nI_leI (a := 4) (b := 0) (by omega) (by omega)).mp c82
      exact absurd c82 (by omega)
    · have c82 := mt (nI_leI (a := 4) (b := 0) (by omega) (by omega)).mpr c82
      refine lv_aload_n hx hb dL_lay_85 rfl (lv_at hl 1 rfl) ?_
      refine lv_aload_n hx hb dL_lay_86 rfl (lv_at hl 2 rfl) ?_
      refine lv_sipush (v := 300) hx hb dL_lay_87 (by decide) ?_
      refine lv_iconst (v := 3) hx hb dL_lay_90 (by decide) ?_
      refine lv_iload hx hb dL_lay_91 (lv_at hl 0 rfl) ?_
      refine lv_imul hx hb dL_lay_93 ?_
      refine r_eq (y := (nI (3 * 0))) (pk_mul 3 0) ?_
      refine lv_iadd hx hb dL_lay_94 ?_
      refine r_eq (y := (nI (300 + (3 * 0)))) (nI_add 300 (3 * 0)) ?_
      refine lv_iconst (v := 0) hx hb dL_lay_95 (by decide) ?_
      refine l_cSW (As := [.ref o, .ref b9, .int (nI (300 + (3 * 0))), .int 0]) (rest := []) (Cs := [ppB o (a 0) (b 0) (sn 0) (h 0) r (t 0) sb hs lf, rfB r (f0 0) (f0 1) (f0 2) (f0 3), stB a S0, lnB ty a S0, quB ty a S0, weB a S0, miB ty a M0, hiB ty h ha sz0 (nI nx0), stF ty (ha 0) (HX0 0), stF ty (ha 1) (HX0 1), stF ty (ha 2) (HX0 2), stF ty (ha 3) (HX0 3), stF ty (ha 4) (HX0 4), stF ty (ha 5) (HX0 5), stF ty (ha 6) (HX0 6), stF ty (ha 7) (HX0 7), txB ty t ln cn ch le nu]) (Rs := []) ⟨hx, hb, hml, hown, hts⟩ hz hs9 w (c_L_acts l hst D ty b9 L9 xs o a b sn h t ha r sb hs lf ln cn ch le nu S0 M0 HX0 sz0 nx0 f0 0 N3 hJ9 hnx9 (by omega) (by decide) (300 + (3 * 0)) (by omega) 0) (vx_cwSW 4 hts gL_lay_L_acts rfl rfl rfl hdN_L_acts ⟨(Nat.le_of_ble_eq_true rfl), (Nat.le_of_ble_eq_true rfl)⟩) rfl hl.1 rfl (Nat.le_of_ble_eq_true rfl) dL_lay_96 ⟨(Nat.le_of_ble_eq_true rfl), (Nat.le_of_ble_eq_true rfl)⟩ (fun r96 u96 H locs hu96 w => ?_)
      obtain ⟨⟨S1, M1⟩, HX1, sz1, nx1, f1⟩ := u96
      obtain ⟨hJ1, hnx1⟩ := hu96
      have hJ1 : LJ 50 N3 (S1, M1) := hJ1
      have hnx1 : nx1 < 8 := hnx1
      have w := w.cast (Bs' := [ppB o (a 0) (b 0) (sn 0) (h 0) r (t 0) sb hs lf, rfB r (f1 0) (f1 1) (f1 2) (f1 3), stB a S1, lnB ty a S1, quB ty a S1, weB a S1, miB ty a M1, hiB ty h ha sz1 (nI nx1), stF ty (ha 0) (HX1 0), stF ty (ha 1) (HX1 1), stF ty (ha 2) (HX1 2), stF ty (ha 3) (HX1 3), stF ty (ha 4) (HX1 4), stF ty (ha 5) (HX1 5), stF ty (ha 6) (HX1 6), stF ty (ha 7) (HX1 7), txB ty t ln cn ch le nu]) (List.append_nil _)
      refine lv_istore_n (lv' := [(2, .int r96), (4, .int 0), (0, .ref o), (1, .ref b9), (3, .int (nI N3))]) hx hb dL_lay_99 rfl hl (by decide) rfl (fun ls hl => ?_)
      refine lv_iinc (v := 1) (lv' := [(4, .int 1), (2, .int r96), (0, .ref o), (1, .ref b9), (3, .int (nI N3))]) hx hb dL_lay_100 hl (k := 1) rfl (by decide) (by decide) rfl (fun ls hl => ?_)
      refine lv_goto (tgt := 79) hx hb dL_lay_103 (by decide) ?_
      refine lv_iload hx hb dL_lay_79 (lv_at hl 0 rfl) ?_
      refine lv_iconst (v := 4) hx hb dL_lay_81 (by decide) ?_
      refine lv_icmp_ge (tgt := 106) hx hb dL_lay_82 (by decide) (fun c82 => ?_) (fun c82 => ?_)
      · have c82 := (nI_leI (a := 4) (b := 1) (by omega) (by omega)).mp c82
        exact absurd c82 (by omega)
      · have c82 := mt (nI_leI (a := 4) (b := 1) (by omega) (by omega)).mpr c82
        refine lv_aload_n hx hb dL_lay_85 rfl (lv_at hl 2 rfl) ?_
        refine lv_aload_n hx hb dL_lay_86 rfl (lv_at hl 3 rfl) ?_
        refine lv_sipush (v := 300) hx hb dL_lay_87 (by decide) ?_
        refine lv_iconst (v := 3) hx hb dL_lay_90 (by decide) ?_
        refine lv_iload hx hb dL_lay_91 (lv_at hl 0 rfl) ?_
        refine lv_imul hx hb dL_lay_93 ?_
        refine r_eq (y := (nI (3 * 1))) (pk_mul 3 1) ?_
        refine lv_iadd hx hb dL_lay_94 ?_
        refine r_eq (y := (nI (300 + (3 * 1)))) (nI_add 300 (3 * 1)) ?_
        refine lv_iconst (v := 0) hx hb dL_lay_95 (by decide) ?_
        refine l_cSW (As := [.ref o, .ref b9, .int (nI (300 + (3 * 1))), .int 0]) (rest := []) (Cs := [ppB o (a 0) (b 0) (sn 0) (h 0) r (t 0) sb hs lf, rfB r (f1 0) (f1 1) (f1 2) (f1 3), stB a S1, lnB ty a S1, quB ty a S1, weB a S1, miB ty a M1, hiB ty h ha sz1 (nI nx1), stF ty (ha 0) (HX1 0), stF ty (ha 1) (HX1 1), stF ty (ha 2) (HX1 2), stF ty (ha 3) (HX1 3), stF ty (ha 4) (HX1 4), stF ty (ha 5) (HX1 5), stF ty (ha 6) (HX1 6), stF ty (ha 7) (HX1 7), txB ty t ln cn ch le nu]) (Rs := []) ⟨hx, hb, hml, hown, hts⟩ hz hs9 w (c_L_acts l hst D ty b9 L9 xs o a b sn h t ha r sb hs lf ln cn ch le nu S1 M1 HX1 sz1 nx1 f1 50 N3 hJ1 hnx1 (by omega) (by decide) (300 + (3 * 1)) (by omega) 0) (vx_cwSW 4 hts gL_lay_L_acts rfl rfl rfl hdN_L_acts ⟨(Nat.le_of_ble_eq_true rfl), (Nat.le_of_ble_eq_true rfl)⟩) rfl hl.1 rfl (Nat.le_of_ble_eq_true rfl) dL_lay_96 ⟨(Nat.le_of_ble_eq_true rfl), (Nat.le_of_ble_eq_true rfl)⟩ (fun r96 u96 H locs hu96 w => ?_)
        obtain ⟨⟨S2, M2⟩, HX2, sz2, nx2, f2⟩ := u96
        obtain ⟨hJ2, hnx2⟩ := hu96
        have hJ2 : LJ 100 N3 (S2, M2) := hJ2
        have hnx2 : nx2 < 8 := hnx2
        have w := w.cast (Bs' := [ppB o (a 0) (b 0) (sn 0) (h 0) r (t 0) sb hs lf, rfB r (f2 0) (f2 1) (f2 2) (f2 3), stB a S2, lnB ty a S2, quB ty a S2, weB a S2, miB ty a M2, hiB ty h ha sz2 (nI nx2), stF ty (ha 0) (HX2 0), stF ty (ha 1) (HX2 1), stF ty (ha 2) (HX2 2), stF ty (ha 3) (HX2 3), stF ty (ha 4) (HX2 4), stF ty (ha 5) (HX2 5), stF ty (ha 6) (HX2 6), stF ty (ha 7) (HX2 7), txB ty t ln cn ch le nu]) (List.append_nil _)
        refine lv_istore_n (lv' := [(2, .int r96), (4, .int 1), (0, .ref o), (1, .ref b9), (3, .int (nI N3))]) hx hb dL_lay_99 rfl hl (by decide) rfl (fun ls hl => ?_)
        refine lv_iinc (v := 2) (lv' := [(4, .int 2), (2, .int r96), (0, .ref o), (1, .ref b9), (3, .int (nI N3))]) hx hb dL_lay_100 hl (k := 1) rfl (by decide) (by decide) rfl (fun ls hl => ?_)
        refine lv_goto (tgt := 79) hx hb dL_lay_103 (by decide) ?_
        refine lv_iload hx hb dL_lay_79 (lv_at hl 0 rfl) ?_
        refine lv_iconst (v := 4) hx hb dL_lay_81 (by decide) ?_
        refine lv_icmp_ge (tgt := 106) hx hb dL_lay_82 (by decide) (fun c82 => ?_) (fun c82 => ?_)
        · have c82 := (nI_leI (a := 4) (b := 2) (by omega) (by omega)).mp c82
          exact absurd c82 (by omega)
        · have c82 := mt (nI_leI (a := 4) (b := 2) (by omega) (by omega)).mpr c82
          refine lv_aload_n hx hb dL_lay_85 rfl (lv_at hl 2 rfl) ?_
          refine lv_aload_n hx hb dL_lay_86 rfl (lv_at hl 3 rfl) ?_
          refine lv_sipush (v := 300) hx hb dL_lay_87 (by decide) ?_
          refine lv_iconst (v := 3) hx hb dL_lay_90 (by decide) ?_
          refine lv_iload hx hb dL_lay_91 (lv_at hl 0 rfl) ?_
          refine lv_imul hx hb dL_lay_93 ?_
          refine r_eq (y := (nI (3 * 2))) (pk_mul 3 2) ?_
          refine lv_iadd hx hb dL_lay_94 ?_
          refine r_eq (y := (nI (300 + (3 * 2)))) (nI_add 300 (3 * 2)) ?_
          refine lv_iconst (v := 0) hx hb dL_lay_95 (by decide) ?_
          refine l_cSW (As := [.ref o, .ref b9, .int (nI (300 + (3 * 2))), .int 0]) (rest := []) (Cs := [ppB o (a 0) (b 0) (sn 0) (h 0) r (t 0) sb hs lf, rfB r (f2 0) (f2 1) (f2 2) (f2 3), stB a S2, lnB ty a S2, quB ty a S2, weB a S2, miB ty a M2, hiB ty h ha sz2 (nI nx2), stF ty (ha 0) (HX2 0), stF ty (ha 1) (HX2 1), stF ty (ha 2) (HX2 2), stF ty (ha 3) (HX2 3), stF ty (ha 4) (HX2 4), stF ty (ha 5) (HX2 5), stF ty (ha 6) (HX2 6), stF ty (ha 7) (HX2 7), txB ty t ln cn ch le nu]) (Rs := []) ⟨hx, hb, hml, hown, hts⟩ hz hs9 w (c_L_acts l hst D ty b9 L9 xs o a b sn h t ha r sb hs lf ln cn ch le nu S2 M2 HX2 sz2 nx2 f2 100 N3 hJ2 hnx2 (by omega) (by decide) (300 + (3 * 2)) (by omega) 0) (vx_cwSW 4 hts gL_lay_L_acts rfl rfl rfl hdN_L_acts ⟨(Nat.le_of_ble_eq_true rfl), (Nat.le_of_ble_eq_true rfl)⟩) rfl hl.1 rfl (Nat.le_of_ble_eq_true rfl) dL_lay_96 ⟨(Nat.le_of_ble_eq_true rfl), (Nat.le_of_ble_eq_true rfl)⟩ (fun r96 u96 H locs hu96 w => ?_)
          obtain ⟨⟨S3, M3⟩, HX3, sz3, nx3, f3⟩ := u96
          obtain ⟨hJ3, hnx3⟩ := hu96
          have hJ3 : LJ 150 N3 (S3, M3) := hJ3
          have hnx3 : nx3 < 8 := hnx3
          have w := w.cast (Bs' := [ppB o (a 0) (b 0) (sn 0) (h 0) r (t 0) sb hs lf, rfB r (f3 0) (f3 1) (f3 2) (f3 3), stB a S3, lnB ty a S3, quB ty a S3, weB a S3, miB ty a M3, hiB ty h ha sz3 (nI nx3), stF ty (ha 0) (HX3 0), stF ty (ha 1) (HX3 1), stF ty (ha 2) (HX3 2), stF ty (ha 3) (HX3 3), stF ty (ha 4) (HX3 4), stF ty (ha 5) (HX3 5), stF ty (ha 6) (HX3 6), stF ty (ha 7) (HX3 7), txB ty t ln cn ch le nu]) (List.append_nil _)
          refine lv_istore_n (lv' := [(2, .int r96), (4, .int 2), (0, .ref o), (1, .ref b9), (3, .int (nI N3))]) hx hb dL_lay_99 rfl hl (by decide) rfl (fun ls hl => ?_)
          refine lv_iinc (v := 3) (lv' := [(4, .int 3), (2, .int r96), (0, .ref o), (1, .ref b9), (3, .int (nI N3))]) hx hb dL_lay_100 hl (k := 1) rfl (by decide) (by decide) rfl (fun ls hl => ?_)
          refine lv_goto (tgt := 79) hx hb dL_lay_103 (by decide) ?_
          refine lv_iload hx hb dL_lay_79 (lv_at hl 0 rfl) ?_
          refine lv_iconst (v := 4) hx hb dL_lay_81 (by decide) ?_
          refine lv_icmp_ge (tgt := 106) hx hb dL_lay_82 (by decide) (fun c82 => ?_) (fun c82 => ?_)
          · have c82 := (nI_leI (a := 4) (b := 3) (by omega) (by omega)).mp c82
            exact absurd c82 (by omega)
          · have c82 := mt (nI_leI (a := 4) (b := 3) (by omega) (by omega)).mpr c82
            refine lv_aload_n hx hb dL_lay_85 rfl (lv_at hl 2 rfl) ?_
            refine lv_aload_n hx hb dL_lay_86 rfl (lv_at hl 3 rfl) ?_
            refine lv_sipush (v := 300) hx hb dL_lay_87 (by decide) ?_
            refine lv_iconst (v := 3) hx hb dL_lay_90 (by decide) ?_
            refine lv_iload hx hb dL_lay_91 (lv_at hl 0 rfl) ?_
            refine lv_imul hx hb dL_lay_93 ?_
            refine r_eq (y := (nI (3 * 3))) (pk_mul 3 3) ?_
            refine lv_iadd hx hb dL_lay_94 ?_
            refine r_eq (y := (nI (300 + (3 * 3)))) (nI_add 300 (3 * 3)) ?_
            refine lv_iconst (v := 0) hx hb dL_lay_95 (by decide) ?_
            refine l_cSW (As := [.ref o, .ref b9, .int (nI (300 + (3 * 3))), .int 0]) (rest := []) (Cs := [ppB o (a 0) (b 0) (sn 0) (h 0) r (t 0) sb hs lf, rfB r (f3 0) (f3 1) (f3 2) (f3 3), stB a S3, lnB ty a S3, quB ty a S3, weB a S3, miB ty a M3, hiB ty h ha sz3 (nI nx3), stF ty (ha 0) (HX3 0), stF ty (ha 1) (HX3 1), stF ty (ha 2) (HX3 2), stF ty (ha 3) (HX3 3), stF ty (ha 4) (HX3 4), stF ty (ha 5) (HX3 5), stF ty (ha 6) (HX3 6), stF ty (ha 7) (HX3 7), txB ty t ln cn ch le nu]) (Rs := []) ⟨hx, hb, hml, hown, hts⟩ hz hs9 w (c_L_acts l hst D ty b9 L9 xs o a b sn h t ha r sb hs lf ln cn ch le nu S3 M3 HX3 sz3 nx3 f3 150 N3 hJ3 hnx3 (by omega) (by decide) (300 + (3 * 3)) (by omega) 0) (vx_cwSW 4 hts gL_lay_L_acts rfl rfl rfl hdN_L_acts ⟨(Nat.le_of_ble_eq_true rfl), (Nat.le_of_ble_eq_true rfl)⟩) rfl hl.1 rfl (Nat.le_of_ble_eq_true rfl) dL_lay_96 ⟨(Nat.le_of_ble_eq_true rfl), (Nat.le_of_ble_eq_true rfl)⟩ (fun r96 u96 H locs hu96 w => ?_)
            obtain ⟨⟨S4, M4⟩, HX4, sz4, nx4, f4⟩ := u96
            obtain ⟨hJ4, hnx4⟩ := hu96
            have hJ4 : LJ 200 N3 (S4, M4) := hJ4
            have hnx4 : nx4 < 8 := hnx4
            have w := w.cast (Bs' := [ppB o (a 0) (b 0) (sn 0) (h 0) r (t 0) sb hs lf, rfB r (f4 0) (f4 1) (f4 2) (f4 3), stB a S4, lnB ty a S4, quB ty a S4, weB a S4, miB ty a M4, hiB ty h ha sz4 (nI nx4), stF ty (ha 0) (HX4 0), stF ty (ha 1) (HX4 1), stF ty (ha 2) (HX4 2), stF ty (ha 3) (HX4 3), stF ty (ha 4) (HX4 4), stF ty (ha 5) (HX4 5), stF ty (ha 6) (HX4 6), stF ty (ha 7) (HX4 7), txB ty t ln cn ch le nu]) (List.append_nil _)
            refine lv_istore_n (lv' := [(2, .int r96), (4, .int 3), (0, .ref o), (1, .ref b9), (3, .int (nI N3))]) hx hb dL_lay_99 rfl hl (by decide) rfl (fun ls hl => ?_)
            refine lv_iinc (v := 4) (lv' := [(4, .int 4), (2, .int r96), (0, .ref o), (1, .ref b9), (3, .int (nI N3))]) hx hb dL_lay_100 hl (k := 1) rfl (by decide) (by decide) rfl (fun ls hl => ?_)
            refine lv_goto (tgt := 79) hx hb dL_lay_103 (by decide) ?_
            refine lv_iload hx hb dL_lay_79 (lv_at hl 0 rfl) ?_
            refine lv_iconst (v := 4) hx hb dL_lay_81 (by decide) ?_
            refine lv_icmp_ge (tgt := 106) hx hb dL_lay_82 (by decide) (fun c82 => ?_) (fun c82 => ?_)
            · have c82 := (nI_leI (a := 4) (b := 4) (by omega) (by omega)).mp c82
              exact e_sv hx hb hr hlocks w ((S4, M4), HX4, sz4, nx4, f4) ⟨N3, by omega, by omega, hJ4, hnx4⟩ rfl dL_lay_106 (Nat.le_of_ble_eq_true rfl) (Nat.le_of_ble_eq_true rfl)
            · have c82 := mt (nI_leI (a := 4) (b := 4) (by omega) (by omega)).mpr c82
              exact absurd c82 (by omega)
  · have c28 := mt (nI_leI (a := N3) (b := k) (by omega) (by omega)).mpr c28
    obtain ⟨⟨q0, hA0⟩, hM9, hQ0⟩ := id hJ0
    have hA0 : IA S0 k q0 := hA0
    have hQ0 : QA S0 k := hQ0
    have hV0 : IV 0 (S0, M0) := ⟨⟨k, q0, hA0⟩, hM9⟩
    refine lv_aload_n hx hb dL_lay_31 rfl (lv_at hl 0 rfl) ?_
    refine lv_iconst (v := 1) hx hb dL_lay_32 (by decide) ?_
    refine lv_aload_n hx hb dL_lay_33 rfl (lv_at hl 1 rfl) ?_
    refine lv_iconst (v := 2) hx hb dL_lay_34 (by decide) ?_
    refine lv_iload hx hb dL_lay_35 (lv_at hl 3 rfl) ?_
    refine lv_iadd hx hb dL_lay_37 ?_
    refine r_eq (y := (nI (2 + k))) (nI_add 2 k) ?_
    refine lv_bipush (v := 9) hx hb dL_lay_38 (by decide) ?_
    refine l_cS (As := [.ref b9, .int (nI (2 + k)), .int 9]) (rest := [.int 1, .ref o]) (Cs := []) (Rs := [ppB o (a 0) (b 0) (sn 0) (h 0) r (t 0) sb hs lf, rfB r (f0 0) (f0 1) (f0 2) (f0 3), stB a S0, lnB ty a S0, quB ty a S0, weB a S0, miB ty a M0, hiB ty h ha sz0 (nI nx0), stF ty (ha 0) (HX0 0), stF ty (ha 1) (HX0 1), stF ty (ha 2) (HX0 2), stF ty (ha 3) (HX0 3), stF ty (ha 4) (HX0 4), stF ty (ha 5) (HX0 5), stF ty (ha 6) (HX0 6), stF ty (ha 7) (HX0 7), txB ty t ln cn ch le nu]) ⟨hx, hb, hml, hown, hts⟩ hz hs9 w (c_L_pick l D ty b9 L9 xs (2 + k) 9 (by omega) (by omega) (by omega)) (va_cwS 3 hts gL_lay_L_pick rfl rfl rfl hdN_L_pick ⟨(Nat.le_of_ble_eq_true rfl), (Nat.le_of_ble_eq_true rfl)⟩) rfl hl.1 rfl (Nat.le_of_ble_eq_true rfl) dL_lay_40 ⟨(Nat.le_of_ble_eq_true rfl), (Nat.le_of_ble_eq_true rfl)⟩ (fun r40 u40 H locs hu40 w => ?_)
    obtain ⟨rfl, hj40⟩ := hu40
    have w := w.cast (Bs' := [ppB o (a 0) (b 0) (sn 0) (h 0) r (t 0) sb hs lf, rfB r (f0 0) (f0 1) (f0 2) (f0 3), stB a S0, lnB ty a S0, quB ty a S0, weB a S0, miB ty a M0, hiB ty h ha sz0 (nI nx0), stF ty (ha 0) (HX0 0), stF ty (ha 1) (HX0 1), stF ty (ha 2) (HX0 2), stF ty (ha 3) (HX0 3), stF ty (ha 4) (HX0 4), stF ty (ha 5) (HX0 5), stF ty (ha 6) (HX0 6), stF ty (ha 7) (HX0 7), txB ty t ln cn ch le nu]) rfl
    refine lv_iadd hx hb dL_lay_43 ?_
    refine r_eq (y := (nI (1 + u40))) (nI_add 1 u40) ?_
    refine lv_aload_n hx hb dL_lay_44 rfl (lv_at hl 1 rfl) ?_
    refine lv_bipush (v := 10) hx hb dL_lay_45 (by decide) ?_
    refine lv_iload hx hb dL_lay_47 (lv_at hl 3 rfl) ?_
    refine lv_iadd hx hb dL_lay_49 ?_
    refine r_eq (y := (nI (10 + k))) (nI_add 10 k) ?_
    refine lv_bipush (v := 8) hx hb dL_lay_50 (by decide) ?_
    refine l_cS (As := [.ref b9, .int (nI (10 + k)), .int 8]) (rest := [.int (nI (1 + u40)), .ref o]) (Cs := []) (Rs := [ppB o (a 0) (b 0) (sn 0) (h 0) r (t 0) sb hs lf, rfB r (f0 0) (f0 1) (f0 2) (f0 3), stB a S0, lnB ty a S0, quB ty a S0, weB a S0, miB ty a M0, hiB ty h ha sz0 (nI nx0), stF ty (ha 0) (HX0 0), stF ty (ha 1) (HX0 1), stF ty (ha 2) (HX0 2), stF ty (ha 3) (HX0 3), stF ty (ha 4) (HX0 4), stF ty (ha 5) (HX0 5), stF ty (ha 6) (HX0 6), stF ty (ha 7) (HX0 7), txB ty t ln cn ch le nu]) ⟨hx, hb, hml, hown, hts⟩ hz hs9 w (c_L_pick l D ty b9 L9 xs (10 + k) 8 (by omega) (by omega) (by omega)) (va_cwS 3 hts gL_lay_L_pick rfl rfl rfl hdN_L_pick ⟨(Nat.le_of_ble_eq_true rfl), (Nat.le_of_ble_eq_true rfl)⟩) rfl hl.1 rfl (Nat.le_of_ble_eq_true rfl) dL_lay_52 ⟨(Nat.le_of_ble_eq_true rfl), (Nat.le_of_ble_eq_true rfl)⟩ (fun r52 u52 H locs hu52 w => ?_)
    obtain ⟨rfl, hj52⟩ := hu52
    have w := w.cast (Bs' := [ppB o (a 0) (b 0) (sn 0) (h 0) r (t 0) sb hs lf, rfB r (f0 0) (f0 1) (f0 2) (f0 3), stB a S0, lnB ty a S0, quB ty a S0, weB a S0, miB ty a M0, hiB ty h ha sz0 (nI nx0), stF ty (ha 0) (HX0 0), stF ty (ha 1) (HX0 1), stF ty (ha 2) (HX0 2), stF ty (ha 3) (HX0 3), stF ty (ha 4) (HX0 4), stF ty (ha 5) (HX0 5), stF ty (ha 6) (HX0 6), stF ty (ha 7) (HX0 7), txB ty t ln cn ch le nu]) rfl
    refine lv_aload_n hx hb dL_lay_55 rfl (lv_at hl 1 rfl) ?_
    refine lv_bipush (v := 18) hx hb dL_lay_56 (by decide) ?_
    refine lv_iload hx hb dL_lay_58 (lv_at hl 3 rfl) ?_
    refine lv_iadd hx hb dL_lay_60 ?_
    refine r_eq (y := (nI (18 + k))) (nI_add 18 k) ?_
    refine lv_bipush (v := 10) hx hb dL_lay_61 (by decide) ?_
    refine l_cS (As := [.ref b9, .int (nI (18 + k)), .int 10]) (rest := [.int (nI u52), .int (nI (1 + u40)), .ref o]) (Cs := []) (Rs := [ppB o (a 0) (b 0) (sn 0) (h 0) r (t 0) sb hs lf, rfB r (f0 0) (f0 1) (f0 2) (f0 3), stB a S0, lnB ty a S0, quB ty a S0, weB a S0, miB ty a M0, hiB ty h ha sz0 (nI nx0), stF ty (ha 0) (HX0 0), stF ty (ha 1) (HX0 1), stF ty (ha 2) (HX0 2), stF ty (ha 3) (HX0 3), stF ty (ha 4) (HX0 4), stF ty (ha 5) (HX0 5), stF ty (ha 6) (HX0 6), stF ty (ha 7) (HX0 7), txB ty t ln cn ch le nu]) ⟨hx, hb, hml, hown, hts⟩ hz hs9 w (c_L_pick l D ty b9 L9 xs (18 + k) 10 (by omega) (by omega) (by omega)) (va_cwS 3 hts gL_lay_L_pick rfl rfl rfl hdN_L_pick ⟨(Nat.le_of_ble_eq_true rfl), (Nat.le_of_ble_eq_true rfl)⟩) rfl hl.1 rfl (Nat.le_of_ble_eq_true rfl) dL_lay_63 ⟨(Nat.le_of_ble_eq_true rfl), (Nat.le_of_ble_eq_true rfl)⟩ (fun r63 u63 H locs hu63 w => ?_)
    obtain ⟨rfl, hj63⟩ := hu63
    have w := w.cast (Bs' := [ppB o (a 0) (b 0) (sn 0) (h 0) r (t 0) sb hs lf, rfB r (f0 0) (f0 1) (f0 2) (f0 3), stB a S0, lnB ty a S0, quB ty a S0, weB a S0, miB ty a M0, hiB ty h ha sz0 (nI nx0), stF ty (ha 0) (HX0 0), stF ty (ha 1) (HX0 1), stF ty (ha 2) (HX0 2), stF ty (ha 3) (HX0 3), stF ty (ha 4) (HX0 4), stF ty (ha 5) (HX0 5), stF ty (ha 6) (HX0 6), stF ty (ha 7) (HX0 7), txB ty t ln cn ch le nu]) rfl
    refine k_iV (As := [.int (nI (1 + u40)), .int (nI u52), .int (nI u63)]) (rest := []) (Rs := [txB ty t ln cn ch le nu]) (Bs' := [ppB o (a 0) (b 0) (sn 0) (h 0) r (t 0) sb hs lf, rfW r (wHouse S0 (nI (1 + u40)) (nI u52) (nI u63)) (f0 0) (f0 1) (f0 2) (f0 3), stB a (sHouse S0 (cN (S0 0)) (nI (1 + u40)) (nI u52) (nI u63)), lnB ty a (sHouse S0 (cN (S0 0)) (nI (1 + u40)) (nI u52) (nI u63)), quB ty a (sHouse S0 (cN (S0 0)) (nI (1 + u40)) (nI u52) (nI u63)), weB a (sHouse S0 (cN (S0 0)) (nI (1 + u40)) (nI u52) (nI u63)), miB ty a M0, hiB ty h ha (jmin 8 (sz0 + 1)) (nI ((nx0 + 1) % 8)), stF ty (ha 0) (va_up HX0 nx0 (S0, M0) 0), stF ty (ha 1) (va_up HX0 nx0 (S0, M0) 1), stF ty (ha 2) (va_up HX0 nx0 (S0, M0) 2), stF ty (ha 3) (va_up HX0 nx0 (S0, M0) 3), stF ty (ha 4) (va_up HX0 nx0 (S0, M0) 4), stF ty (ha 5) (va_up HX0 nx0 (S0, M0) 5), stF ty (ha 6) (va_up HX0 nx0 (S0, M0) 6), stF ty (ha 7) (va_up HX0 nx0 (S0, M0) 7), txB ty t ln cn ch le nu]) ⟨hx, hb, hml, hown, hts⟩ w (c_X8_household l D ty o a b sn h t ha HX0 r sb hs lf (f0 0) (f0 1) (f0 2) (f0 3) sz0 nx0 hnx0 S0 M0 0 (by decide) hV0 (nI (1 + u40)) (nI u52) (nI u63) (wHouse_0 hA0.1.1 (by omega) (by omega) (by omega) (by omega))) (cwV 3 hts gL_lay_X8_household rfl rfl rfl ⟨rfl, hdN_X8_household⟩ ⟨Nat.le_of_ble_eq_true rfl, Nat.le_of_ble_eq_true rfl⟩) [0, 1, 2, 3, 4, 5, 6, 7, 8, 9, 10, 11, 12, 13, 14, 15, 16] (nB := 17) (by decide) rfl rfl rfl rfl 0 rfl rfl (ci := 12) rfl rfl rfl hl.1 rfl (Nat.le_of_ble_eq_true rfl) dL_lay_66 ⟨(Nat.zero_le _), (Nat.zero_le _)⟩ (fun H locs w => ?_)
    have hW0 := wHouse_0 (S := S0) hA0.1.1 (show k < 8 by omega) (x := 1 + u40) (y := u52) (t := u63) (by omega) hj52 hj63
    have w := w.cast (Bs' := [ppB o (a 0) (b 0) (sn 0) (h 0) r (t 0) sb hs lf, rfB r (f0 0) (f0 1) (f0 2) (f0 3), stB a (sHouse S0 (cN (S0 0)) (nI (1 + u40)) (nI u52) (nI u63)), lnB ty a (sHouse S0 (cN (S0 0)) (nI (1 + u40)) (nI u52) (nI u63)), quB ty a (sHouse S0 (cN (S0 0)) (nI (1 + u40)) (nI u52) (nI u63)), weB a (sHouse S0 (cN (S0 0)) (nI (1 + u40)) (nI u52) (nI u63)), miB ty a M0, hiB ty h ha (jmin 8 (sz0 + 1)) (nI ((nx0 + 1) % 8)), stF ty (ha 0) (va_up HX0 nx0 (S0, M0) 0), stF ty (ha 1) (va_up HX0 nx0 (S0, M0) 1), stF ty (ha 2) (va_up HX0 nx0 (S0, M0) 2), stF ty (ha 3) (va_up HX0 nx0 (S0, M0) 3), stF ty (ha 4) (va_up HX0 nx0 (S0, M0) 4), stF ty (ha 5) (va_up HX0 nx0 (S0, M0) 5), stF ty (ha 6) (va_up HX0 nx0 (S0, M0) 6), stF ty (ha 7) (va_up HX0 nx0 (S0, M0) 7), txB ty t ln cn ch le nu]) (by rw [rfW_z hW0])
    have hJ1 := LJ_house hA0 hM9 hQ0 hW0
    refine lv_istore_n (lv' := [(2, .int (S0 0)), (0, .ref o), (1, .ref b9), (3, .int (nI N3)), (4, .int (nI k))]) hx hb dL_lay_69 rfl hl (by decide) rfl (fun ls hl => ?_)
    refine lv_iinc (v := (nI (k + 1))) (lv' := [(4, .int (nI (k + 1))), (2, .int (S0 0)), (0, .ref o), (1, .ref b9), (3, .int (nI N3))]) hx hb dL_lay_70 hl (k := 4) rfl (inc1 k) (by decide) rfl (fun ls hl => ?_)
    refine lv_goto (tgt := 25) hx hb dL_lay_73 (by decide) ?_
    exact ihk _ _ _ ⟨_, _, _, _, _, _, w, lv_sub hl [2, 3, 4, 0] rfl, hJ1, (Nat.mod_lt _ (by omega))⟩ (by omega)
