theorem hdN_L_done : yL_done.cls ≠ "java/lang/invoke/MethodHandle" ∧ yL_done.cls ≠ "java/lang/invoke/VarHandle" ∧ (parseMethodDescriptor yL_done.desc).map (fun d => d.parameters.length) = some 4 := by decide +kernel
set_option maxRecDepth 100000 in
set_option maxHeartbeats 4000000 in
theorem c_L_done (l : Launch) (hst : l.stackTraces = false) (D : va_G) (ty : Nat → ClassId) (b9 L9 : Nat) (xs : Nat → Int32) (o : Nat) (a b sn h t : Nat → Nat) (ha : Nat → Nat → Nat) (r sb : Nat) (hs lf ln cn : Int32) (ch le nu : Nat → Int32) (S M : pS) (HX : Nat → pX) (sz : Int32) (nx : Nat) (f : Nat → Int32) (B n : Nat) (hJ : LJ B n (S, M)) (hnx : nx < 8) (hn1 : 1 ≤ n) (hB : B + 50 < 10 ^ 7) (i : Nat) (hi : i < 900) (v : Int32) : Sd b9 L9 xs l yL_done wsL_done (kR 7 133 1 6) D (kTY ty) [.ref o, .ref b9, .int (nI i), .int v] [ppB o (a 0) (b 0) (sn 0) (h 0) r (t 0) sb hs lf, rfB r (f 0) (f 1) (f 2) (f 3), stB a S, lnB ty a S, quB ty a S, weB a S, miB ty a M, hiB ty h ha sz (nI nx), stF ty (ha 0) (HX 0), stF ty (ha 1) (HX 1), stF ty (ha 2) (HX 2), stF ty (ha 3) (HX 3), stF ty (ha 4) (HX 4), stF ty (ha 5) (HX 5), stF ty (ha 6) (HX 6), stF ty (ha 7) (HX 7), txB ty t ln cn ch le nu] (fun u : LU => LI (B + 50) n u) (luW ty o a b sn h t ha r sb hs lf ln cn ch le nu) 1 6 := by
  refine m_sd (cc := cL_done) (maxL := 5) (ret := (some .int)) (by decide +kernel) rfl (Nat.le_of_ble_eq_true rfl) ?_
  intro p e s m below meth c A ls hx hb hml hr hlocks hown hts hex hz hs9 w hl
  have hown : s.vm.findClass RL = some m.cls := hown
  have hL9 := hs9.2.2.2
  have hl : lv_has ls 5 [(0, .ref o), (1, .ref b9), (2, .int (nI i)), (3, .int v)] := hl
  obtain ⟨⟨q, hA⟩, hM, hQ⟩ := id hJ
  have hA : IA S n q := hA
  have hQ : QA S n := hQ
  have hI := hA.1
  have hn := hI.2.1
  have hV : IV B (S, M) := ⟨⟨n, q, hA⟩, hM⟩
  have hB1 : B < 10 ^ 7 := by omega
  obtain ⟨⟨cc0, x0, hMR, hrow⟩, hday⟩ := id hM
  have hM0 : M 0 = S 122 := hMR.2.2.2.1.trans hMR.2.2.1.symm
  refine lv_aload_n hx hb dL_done_0 rfl (lv_at hl 0 rfl) ?_
  refine lv_iconst (v := 1) hx hb dL_done_1 (by decide) ?_
  refine k_iV (As := [.int 1]) (rest := []) (Rs := [rfB r (f 0) (f 1) (f 2) (f 3), stF ty (ha 0) (HX 0), stF ty (ha 1) (HX 1), stF ty (ha 2) (HX 2), stF ty (ha 3) (HX 3), stF ty (ha 4) (HX 4), stF ty (ha 5) (HX 5), stF ty (ha 6) (HX 6), stF ty (ha 7) (HX 7)]) (Bs' := [ppB o (a 0) (b 0) (sn 0) (h 0) r (t 0) sb hs lf, rfB r (f 0) (f 1) (f 2) (f 3), stB a S, lnB ty a S, quB ty a S, weB a S, miB ty a M, hiB ty h ha sz (nI nx), stF ty (ha 0) (HX 0), stF ty (ha 1) (HX 1), stF ty (ha 2) (HX 2), stF ty (ha 3) (HX 3), stF ty (ha 4) (HX 4), stF ty (ha 5) (HX 5), stF ty (ha 6) (HX 6), stF ty (ha 7) (HX 7), txB ty t ln cn ch le nu]) ⟨hx, hb, hml, hown, hts⟩ w (c_ac1 l D ty o a b sn h t r sb hs lf S M n q hA ha sz (nI nx) ln cn ch le nu hM0) (cwV 1 hts gL_done_X8_account rfl rfl rfl ⟨rfl, hdN_X8_account⟩ ⟨Nat.le_of_ble_eq_true rfl, Nat.le_of_ble_eq_true rfl⟩) [0, 2, 3, 4, 5, 6, 7, 16, 1, 8, 9, 10, 11, 12, 13, 14, 15] (nB := 17) (by decide) rfl rfl rfl rfl 0 rfl rfl (ci := 12) rfl rfl rfl hl.1 rfl (Nat.le_of_ble_eq_true rfl) dL_done_2 ⟨(Nat.zero_le _), (Nat.zero_le _)⟩ (fun H locs w => ?_)
  refine lv_istore (lv' := [(4, .int (nI n)), (0, .ref o), (1, .ref b9), (2, .int (nI i)), (3, .int v)]) hx hb dL_done_5 hl (by decide) rfl (fun ls hl => ?_)
  refine lv_iload_n hx hb dL_done_7 rfl (lv_at hl 4 rfl) ?_
  by_cases e8_0 : v = 0
  · refine r_eq (y := 0) e8_0 ?_
    refine lv_tableIn (tgt := 72) hx hb dL_done_8 (by decide) (by decide) rfl (by decide) ?_
    refine lv_aload_n hx hb dL_done_72 rfl (lv_at hl 1 rfl) ?_
    refine lv_aload_n hx hb dL_done_73 rfl (lv_at hl 2 rfl) ?_
    refine lv_iload_n hx hb dL_done_74 rfl (lv_at hl 3 rfl) ?_
    refine lv_iconst (v := 1) hx hb dL_done_75 (by decide) ?_
    refine lv_iadd hx hb dL_done_76 ?_
    refine r_eq (y := (nI (i + 1))) (nI_add i 1) ?_
    refine lv_iload hx hb dL_done_77 (lv_at hl 0 rfl) ?_
    refine l_cS (As := [.ref b9, .int (nI (i + 1)), .int (nI n)]) (rest := [.ref o]) (Cs := []) (Rs := [ppB o (a 0) (b 0) (sn 0) (h 0) r (t 0) sb hs lf, rfB r (f 0) (f 1) (f 2) (f 3), stB a S, lnB ty a S, quB ty a S, weB a S, miB ty a M, hiB ty h ha sz (nI nx), stF ty (ha 0) (HX 0), stF ty (ha 1) (HX 1), stF ty (ha 2) (HX 2), stF ty (ha 3) (HX 3), stF ty (ha 4) (HX 4), stF ty (ha 5) (HX 5), stF ty (ha 6) (HX 6), stF ty (ha 7) (HX 7), txB ty t ln cn ch le nu]) ⟨hx, hb, hml, hown, hts⟩ hz hs9 w (c_L_pick l D ty b9 L9 xs (i + 1) n (by omega) (by omega) (by omega)) (va_cwS 3 hts gL_done_L_pick rfl rfl rfl hdN_L_pick ⟨(Nat.le_of_ble_eq_true rfl), (Nat.le_of_ble_eq_true rfl)⟩) rfl hl.1 rfl (Nat.le_of_ble_eq_true rfl) dL_done_79 ⟨(Nat.le_of_ble_eq_true rfl), (Nat.le_of_ble_eq_true rfl)⟩ (fun r79 u79 H locs hu79 w => ?_)
    obtain ⟨rfl, hj79⟩ := hu79
    have w := w.cast (Bs' := [ppB o (a 0) (b 0) (sn 0) (h 0) r (t 0) sb hs lf, rfB r (f 0) (f 1) (f 2) (f 3), stB a S, lnB ty a S, quB ty a S, weB a S, miB ty a M, hiB ty h ha sz (nI nx), stF ty (ha 0) (HX 0), stF ty (ha 1) (HX 1), stF ty (ha 2) (HX 2), stF ty (ha 3) (HX 3), stF ty (ha 4) (HX 4), stF ty (ha 5) (HX 5), stF ty (ha 6) (HX 6), stF ty (ha 7) (HX 7), txB ty t ln cn ch le nu]) rfl
    refine l_cX (As := [.int (nI u79)]) (rest := []) (Cs := [ppB o (a 0) (b 0) (sn 0) (h 0) r (t 0) sb hs lf, rfB r (f 0) (f 1) (f 2) (f 3), stB a S, lnB ty a S, quB ty a S, weB a S, miB ty a M, hiB ty h ha sz (nI nx), stF ty (ha 0) (HX 0), stF ty (ha 1) (HX 1), stF ty (ha 2) (HX 2), stF ty (ha 3) (HX 3), stF ty (ha 4) (HX 4), stF ty (ha 5) (HX 5), stF ty (ha 6) (HX 6), stF ty (ha 7) (HX 7)]) (Rs := [txB ty t ln cn ch le nu]) ⟨hx, hb, hml, hown, hts⟩ hz w (c_X8_join l hst D ty o a b sn h t ha HX r sb hs lf (f 0) (f 1) (f 2) (f 3) sz nx hnx S M B hB1 hV (nI u79)) (cwV 1 hts gL_done_X8_join rfl rfl rfl ⟨rfl, hdN_X8_join⟩ ⟨(Nat.le_of_ble_eq_true rfl), (Nat.le_of_ble_eq_true rfl)⟩) 0 rfl rfl (ci := 12) rfl rfl rfl hl.1 rfl (Nat.le_of_ble_eq_true rfl) dL_done_82 ⟨(Nat.le_of_ble_eq_true rfl), (Nat.le_of_ble_eq_true rfl)⟩ (fun q9 H locs hok hth w => ?_) (fun H locs hok w => ?_)
    · exact e_sx hex hlocks w hth ((S, M), HX, sz, nx, rfF (wJoin S (nI u79)) f) ⟨LJ_mono hJ (by omega), hnx⟩ (by rw [rfW_F (W := wJoin S (nI u79)) (f := f)]; rfl) (Nat.le_of_ble_eq_true rfl) (Nat.le_of_ble_eq_true rfl)
    exact vx_ret (e_s hx hb hr hlocks w ((oJL (cN (S 0)) (cN (nI u79)) (cN (S 49)) (S, M)).2, va_up HX nx (S, M), jmin 8 (sz + 1), (nx + 1) % 8, rfF (wJoin S (nI u79)) f) ⟨LJ_mono (LJ_join hA hM hQ hB1 hok) (by omega), Nat.mod_lt _ (by omega)⟩ (by rw [rfW_F (W := wJoin S (nI u79)) (f := f)]; rfl) dL_done_85 (Nat.le_of_ble_eq_true rfl) (Nat.le_of_ble_eq_true rfl))
  by_cases e8_1 : v = 1
  · refine r_eq (y := 1) e8_1 ?_
    refine lv_tableIn (tgt := 72) hx hb dL_done_8 (by decide) (by decide) rfl (by decide) ?_
    refine lv_aload_n hx hb dL_done_72 rfl (lv_at hl 1 rfl) ?_
    refine lv_aload_n hx hb dL_done_73 rfl (lv_at hl 2 rfl) ?_
    refine lv_iload_n hx hb dL_done_74 rfl (lv_at hl 3 rfl) ?_
    refine lv_iconst (v := 1) hx hb dL_done_75 (by decide) ?_
    refine lv_iadd hx hb dL_done_76 ?_
    refine r_eq (y := (nI (i + 1))) (nI_add i 1) ?_
    refine lv_iload hx hb dL_done_77 (lv_at hl 0 rfl) ?_
    refine l_cS (As := [.ref b9, .int (nI (i + 1)), .int (nI n)]) (rest := [.ref o]) (Cs := []) (Rs := [ppB o (a 0) (b 0) (sn 0) (h 0) r (t 0) sb hs lf, rfB r (f 0) (f 1) (f 2) (f 3), stB a S, lnB ty a S, quB ty a S, weB a S, miB ty a M, hiB ty h ha sz (nI nx), stF ty (ha 0) (HX 0), stF ty (ha 1) (HX 1), stF ty (ha 2) (HX 2), stF ty (ha 3) (HX 3), stF ty (ha 4) (HX 4), stF ty (ha 5) (HX 5), stF ty (ha 6) (HX 6), stF ty (ha 7) (HX 7), txB ty t ln cn ch le nu]) ⟨hx, hb, hml, hown, hts⟩ hz hs9 w (c_L_pick l D ty b9 L9 xs (i + 1) n (by omega) (by omega) (by omega)) (va_cwS 3 hts gL_done_L_pick rfl rfl rfl hdN_L_pick ⟨(Nat.le_of_ble_eq_true rfl), (Nat.le_of_ble_eq_true rfl)⟩) rfl hl.1 rfl (Nat.le_of_ble_eq_true rfl) dL_done_79 ⟨(Nat.le_of_ble_eq_true rfl), (Nat.le_of_ble_eq_true rfl)⟩ (fun r79 u79 H locs hu79 w => ?_)
    obtain ⟨rfl, hj79⟩ := hu79
    have w := w.cast (Bs' := [ppB o (a 0) (b 0) (sn 0) (h 0) r (t 0) sb hs lf, rfB r (f 0) (f 1) (f 2) (f 3), stB a S, lnB ty a S, quB ty a S, weB a S, miB ty a M, hiB ty h ha sz (nI nx), stF ty (ha 0) (HX 0), stF ty (ha 1) (HX 1), stF ty (ha 2) (HX 2), stF ty (ha 3) (HX 3), stF ty (ha 4) (HX 4), stF ty (ha 5) (HX 5), stF ty (ha 6) (HX 6), stF ty (ha 7) (HX 7), txB ty t ln cn ch le nu]) rfl
    refine l_cX (As := [.int (nI u79)]) (rest := []) (Cs := [ppB o (a 0) (b 0) (sn 0) (h 0) r (t 0) sb hs lf, rfB r (f 0) (f 1) (f 2) (f 3), stB a S, lnB ty a S, quB ty a S, weB a S, miB ty a M, hiB ty h ha sz (nI nx), stF ty (ha 0) (HX 0), stF ty (ha 1) (HX 1), stF ty (ha 2) (HX 2), stF ty (ha 3) (HX 3), stF ty (ha 4) (HX 4), stF ty (ha 5) (HX 5), stF ty (ha 6) (HX 6), stF ty (ha 7) (HX 7)]) (Rs := [txB ty t ln cn ch le nu]) ⟨hx, hb, hml, hown, hts⟩ hz w (c_X8_join l hst D ty o a b sn h t ha HX r sb hs lf (f 0) (f 1) (f 2) (f 3) sz nx hnx S M B hB1 hV (nI u79)) (cwV 1 hts gL_done_X8_join rfl rfl rfl ⟨rfl, hdN_X8_join⟩ ⟨(Nat.le_of_ble_eq_true rfl), (Nat.le_of_ble_eq_true rfl)⟩) 0 rfl rfl (ci := 12) rfl rfl rfl hl.1 rfl (Nat.le_of_ble_eq_true rfl) dL_done_82 ⟨(Nat.le_of_ble_eq_true rfl), (Nat.le_of_ble_eq_true rfl)⟩ (fun q9 H locs hok hth w => ?_) (fun H locs hok w => ?_)
    · exact e_sx hex hlocks w hth ((S, M), HX, sz, nx, rfF (wJoin S (nI u79)) f) ⟨LJ_mono hJ (by omega), hnx⟩ (by rw [rfW_F (W := wJoin S (nI u79)) (f := f)]; rfl) (Nat.le_of_ble_eq_true rfl) (Nat.le_of_ble_eq_true rfl)
    exact vx_ret (e_s hx hb hr hlocks w ((oJL (cN (S 0)) (cN (nI u79)) (cN (S 49)) (S, M)).2, va_up HX nx (S, M), jmin 8 (sz + 1), (nx + 1) % 8, rfF (wJoin S (nI u79)) f) ⟨LJ_mono (LJ_join hA hM hQ hB1 hok) (by omega), Nat.mod_lt _ (by omega)⟩ (by rw [rfW_F (W := wJoin S (nI u79)) (f := f)]; rfl) dL_done_85 (Nat.le_of_ble_eq_true rfl) (Nat.le_of_ble_eq_true rfl))
  by_cases e8_2 : v = 2
  · refine r_eq (y := 2) e8_2 ?_
    refine lv_tableIn (tgt := 72) hx hb dL_done_8 (by decide) (by decide) rfl (by decide) ?_
    refine lv_aload_n hx hb dL_done_72 rfl (lv_at hl 1 rfl) ?_
    refine lv_aload_n hx hb dL_done_73 rfl (lv_at hl 2 rfl) ?_
    refine lv_iload_n hx hb dL_done_74 rfl (lv_at hl 3 rfl) ?_
    refine lv_iconst (v := 1) hx hb dL_done_75 (by decide) ?_
    refine lv_iadd hx hb dL_done_76 ?_
    refine r_eq (y := (nI (i + 1))) (nI_add i 1) ?_
    refine lv_iload hx hb dL_done_77 (lv_at hl 0 rfl) ?_
    refine l_cS (As := [.ref b9, .int (nI (i + 1)), .int (nI n)]) (rest := [.ref o]) (Cs := []) (Rs := [ppB o (a 0) (b 0) (sn 0) (h 0) r (t 0) sb hs lf, rfB r (f 0) (f 1) (f 2) (f 3), stB a S, lnB ty a S, quB ty a S, weB a S, miB ty a M, hiB ty h ha sz (nI nx), stF ty (ha 0) (HX 0), stF ty (ha 1) (HX 1), stF ty (ha 2) (HX 2), stF ty (ha 3) (HX 3), stF ty (ha 4) (HX 4), stF ty (ha 5) (HX 5), stF ty (ha 6) (HX 6), stF ty (ha 7) (HX 7), txB ty t ln cn ch le nu]) ⟨hx, hb, hml, hown, hts⟩ hz hs9 w (c_L_pick l D ty b9 L9 xs (i + 1) n (by omega) (by omega) (by omega)) (va_cwS 3 hts gL_done_L_pick rfl rfl rfl hdN_L_pick ⟨(Nat.le_of_ble_eq_true rfl), (Nat.le_of_ble_eq_true rfl)⟩) rfl hl.1 rfl (Nat.le_of_ble_eq_true rfl) dL_done_79 ⟨(Nat.le_of_ble_eq_true rfl), (Nat.le_of_ble_eq_true rfl)⟩ (fun r79 u79 H locs hu79 w => ?_)
    obtain ⟨rfl, hj79⟩ := hu79
    have w := w.cast (Bs' := [ppB o (a 0) (b 0) (sn 0) (h 0) r (t 0) sb hs lf, rfB r (f 0) (f 1) (f 2) (f 3), stB a S, lnB ty a S, quB ty a S, weB a S, miB ty a M, hiB ty h ha sz (nI nx), stF ty (ha 0) (HX 0), stF ty (ha 1) (HX 1), stF ty (ha 2) (HX 2), stF ty (ha 3) (HX 3), stF ty (ha 4) (HX 4), stF ty (ha 5) (HX 5), stF ty (ha 6) (HX 6), stF ty (ha 7) (HX 7), txB ty t ln cn ch le nu]) rfl
    refine l_cX (As := [.int (nI u79)]) (rest := []) (Cs := [ppB o (a 0) (b 0) (sn 0) (h 0) r (t 0) sb hs lf, rfB r (f 0) (f 1) (f 2) (f 3), stB a S, lnB ty a S, quB ty a S, weB a S, miB ty a M, hiB ty h ha sz (nI nx), stF ty (ha 0) (HX 0), stF ty (ha 1) (HX 1), stF ty (ha 2) (HX 2), stF ty (ha 3) (HX 3), stF ty (ha 4) (HX 4), stF ty (ha 5) (HX 5), stF ty (ha 6) (HX 6), stF ty (ha 7) (HX 7)]) (Rs := [txB ty t ln cn ch le nu]) ⟨hx, hb, hml, hown, hts⟩ hz w (c_X8_join l hst D ty o a b sn h t ha HX r sb hs lf (f 0) (f 1) (f 2) (f 3) sz nx hnx S M B hB1 hV (nI u79)) (cwV 1 hts gL_done_X8_join rfl rfl rfl ⟨rfl, hdN_X8_join⟩ ⟨(Nat.le_of_ble_eq_true rfl), (Nat.le_of_ble_eq_true rfl)⟩) 0 rfl rfl (ci := 12) rfl rfl rfl hl.1 rfl (Nat.le_of_ble_eq_true rfl) dL_done_82 ⟨(Nat.le_of_ble_eq_true rfl), (Nat.le_of_ble_eq_true rfl)⟩ (fun q9 H locs hok hth w => ?_) (fun H locs hok w => ?_)
    · exact e_sx hex hlocks w hth ((S, M), HX, sz, nx, rfF (wJoin S (nI u79)) f) ⟨LJ_mono hJ (by omega), hnx⟩ (by rw [rfW_F (W := wJoin S (nI u79)) (f := f)]; rfl) (Nat.le_of_ble_eq_true rfl) (Nat.le_of_ble_eq_true rfl)
    exact vx_ret (e_s hx hb hr hlocks w ((oJL (cN (S 0)) (cN (nI u79)) (cN (S 49)) (S, M)).2, va_up HX nx (S, M), jmin 8 (sz + 1), (nx + 1) % 8, rfF (wJoin S (nI u79)) f) ⟨LJ_mono (LJ_join hA hM hQ hB1 hok) (by omega), Nat.mod_lt _ (by omega)⟩ (by rw [rfW_F (W := wJoin S (nI u79)) (f := f)]; rfl) dL_done_85 (Nat.le_of_ble_eq_true rfl) (Nat.le_of_ble_eq_true rfl))
  by_cases e8_3 : v = 3
  · refine r_eq (y := 3) e8_3 ?_
    refine lv_tableIn (tgt := 72) hx hb dL_done_8 (by decide) (by decide) rfl (by decide) ?_
    refine lv_aload_n hx hb dL_done_72 rfl (lv_at hl 1 rfl) ?_
    refine lv_aload_n hx hb dL_done_73 rfl (lv_at hl 2 rfl) ?_
    refine lv_iload_n hx hb dL_done_74 rfl (lv_at hl 3 rfl) ?_
    refine lv_iconst (v := 1) hx hb dL_done_75 (by decide) ?_
    refine lv_iadd hx hb dL_done_76 ?_
    refine r_eq (y := (nI (i + 1))) (nI_add i 1) ?_
    refine lv_iload hx hb dL_done_77 (lv_at hl 0 rfl) ?_
    refine l_cS (As := [.ref b9, .int (nI (i + 1)), .int (nI n)]) (rest := [.ref o]) (Cs := []) (Rs := [ppB o (a 0) (b 0) (sn 0) (h 0) r (t 0) sb hs lf, rfB r (f 0) (f 1) (f 2) (f 3), stB a S, lnB ty a S, quB ty a S, weB a S, miB ty a M, hiB ty h ha sz (nI nx), stF ty (ha 0) (HX 0), stF ty (ha 1) (HX 1), stF ty (ha 2) (HX 2), stF ty (ha 3) (HX 3), stF ty (ha 4) (HX 4), stF ty (ha 5) (HX 5), stF ty (ha 6) (HX 6), stF ty (ha 7) (HX 7), txB ty t ln cn ch le nu]) ⟨hx, hb, hml, hown, hts⟩ hz hs9 w (c_L_pick l D ty b9 L9 xs (i + 1) n (by omega) (by omega) (by omega)) (va_cwS 3 hts gL_done_L_pick rfl rfl rfl hdN_L_pick ⟨(Nat.le_of_ble_eq_true rfl), (Nat.le_of_ble_eq_true rfl)⟩) rfl hl.1 rfl (Nat.le_of_ble_eq_true rfl) dL_done_79 ⟨(Nat.le_of_ble_eq_true rfl), (Nat.le_of_ble_eq_true rfl)⟩ (fun r79 u79 H locs hu79 w => ?_)
    obtain ⟨rfl, hj79⟩ := hu79
    have w := w.cast (Bs' := [ppB o (a 0) (b 0) (sn 0) (h 0) r (t 0) sb hs lf, rfB r (f 0) (f 1) (f 2) (f 3), stB a S, lnB ty a S, quB ty a S, weB a S, miB ty a M, hiB ty h ha sz (nI nx), stF ty (ha 0) (HX 0), stF ty (ha 1) (HX 1), stF ty (ha 2) (HX 2), stF ty (ha 3) (HX 3), stF ty (ha 4) (HX 4), stF ty (ha 5) (HX 5), stF ty (ha 6) (HX 6), stF ty (ha 7) (HX 7), txB ty t ln cn ch le nu]) rfl
    refine l_cX (As := [.int (nI u79)]) (rest := []) (Cs := [ppB o (a 0) (b 0) (sn 0) (h 0) r (t 0) sb hs lf, rfB r (f 0) (f 1) (f 2) (f 3), stB a S, lnB ty a S, quB ty a S, weB a S, miB ty a M, hiB ty h ha sz (nI nx), stF ty (ha 0) (HX 0), stF ty (ha 1) (HX 1), stF ty (ha 2) (HX 2), stF ty (ha 3) (HX 3), stF ty (ha 4) (HX 4), stF ty (ha 5) (HX 5), stF ty (ha 6) (HX 6), stF ty (ha 7) (HX 7)]) (Rs := [txB ty t ln cn ch le nu]) ⟨hx, hb, hml, hown, hts⟩ hz w (c_X8_join l hst D ty o a b sn h t ha HX r sb hs lf (f 0) (f 1) (f 2) (f 3) sz nx hnx S M B hB1 hV (nI u79)) (cwV 1 hts gL_done_X8_join rfl rfl rfl ⟨rfl, hdN_X8_join⟩ ⟨(Nat.le_of_ble_eq_true rfl), (Nat.le_of_ble_eq_true rfl)⟩) 0 rfl rfl (ci := 12) rfl rfl rfl hl.1 rfl (Nat.le_of_ble_eq_true rfl) dL_done_82 ⟨(Nat.le_of_ble_eq_true rfl), (Nat.le_of_ble_eq_true rfl)⟩ (fun q9 H locs hok hth w => ?_) (fun H locs hok w => ?_)
    · exact e_sx hex hlocks w hth ((S, M), HX, sz, nx, rfF (wJoin S (nI u79)) f) ⟨LJ_mono hJ (by omega), hnx⟩ (by rw [rfW_F (W := wJoin S (nI u79)) (f := f)]; rfl) (Nat.le_of_ble_eq_true rfl) (Nat.le_of_ble_eq_true rfl)
    exact vx_ret (e_s hx hb hr hlocks w ((oJL (cN (S 0)) (cN (nI u79)) (cN (S 49)) (S, M)).2, va_up HX nx (S, M), jmin 8 (sz + 1), (nx + 1) % 8, rfF (wJoin S (nI u79)) f) ⟨LJ_mono (LJ_join hA hM hQ hB1 hok) (by omega), Nat.mod_lt _ (by omega)⟩ (by rw [rfW_F (W := wJoin S (nI u79)) (f := f)]; rfl) dL_done_85 (Nat.le_of_ble_eq_true rfl) (Nat.le_of_ble_eq_true rfl))
  by_cases e8_4 : v = 4
  · refine r_eq (y := 4) e8_4 ?_
    refine lv_tableIn (tgt := 86) hx hb dL_done_8 (by decide) (by decide) rfl (by decide) ?_
    refine lv_aload_n hx hb dL_done_86 rfl (lv_at hl 1 rfl) ?_
    refine lv_aload_n hx hb dL_done_87 rfl (lv_at hl 2 rfl) ?_
    refine lv_iload_n hx hb dL_done_88 rfl (lv_at hl 3 rfl) ?_
    refine lv_iconst (v := 1) hx hb dL_done_89 (by decide) ?_
    refine lv_iadd hx hb dL_done_90 ?_
    refine r_eq (y := (nI (i + 1))) (nI_add i 1) ?_
    refine lv_iload hx hb dL_done_91 (lv_at hl 0 rfl) ?_
    refine l_cS (As := [.ref b9, .int (nI (i + 1)), .int (nI n)]) (rest := [.ref o]) (Cs := []) (Rs := [ppB o (a 0) (b 0) (sn 0) (h 0) r (t 0) sb hs lf, rfB r (f 0) (f 1) (f 2) (f 3), stB a S, lnB ty a S, quB ty a S, weB a S, miB ty a M, hiB ty h ha sz (nI nx), stF ty (ha 0) (HX 0), stF ty (ha 1) (HX 1), stF ty (ha 2) (HX 2), stF ty (ha 3) (HX 3), stF ty (ha 4) (HX 4), stF ty (ha 5) (HX 5), stF ty (ha 6) (HX 6), stF ty (ha 7) (HX 7), txB ty t ln cn ch le nu]) ⟨hx, hb, hml, hown, hts⟩ hz hs9 w (c_L_pick l D ty b9 L9 xs (i + 1) n (by omega) (by omega) (by omega)) (va_cwS 3 hts gL_done_L_pick rfl rfl rfl hdN_L_pick ⟨(Nat.le_of_ble_eq_true rfl), (Nat.le_of_ble_eq_true rfl)⟩) rfl hl.1 rfl (Nat.le_of_ble_eq_true rfl) dL_done_93 ⟨(Nat.le_of_ble_eq_true rfl), (Nat.le_of_ble_eq_true rfl)⟩ (fun r93 u93 H locs hu93 w => ?_)
    obtain ⟨rfl, hj93⟩ := hu93
    have w := w.cast (Bs' := [ppB o (a 0) (b 0) (sn 0) (h 0) r (t 0) sb hs lf, rfB r (f 0) (f 1) (f 2) (f 3), stB a S, lnB ty a S, quB ty a S, weB a S, miB ty a M, hiB ty h ha sz (nI nx), stF ty (ha 0) (HX 0), stF ty (ha 1) (HX 1), stF ty (ha 2) (HX 2), stF ty (ha 3) (HX 3), stF ty (ha 4) (HX 4), stF ty (ha 5) (HX 5), stF ty (ha 6) (HX 6), stF ty (ha 7) (HX 7), txB ty t ln cn ch le nu]) rfl
    refine l_cX (As := [.int (nI u93)]) (rest := []) (Cs := [ppB o (a 0) (b 0) (sn 0) (h 0) r (t 0) sb hs lf, rfB r (f 0) (f 1) (f 2) (f 3), stB a S, lnB ty a S, quB ty a S, weB a S, miB ty a M, hiB ty h ha sz (nI nx), stF ty (ha 0) (HX 0), stF ty (ha 1) (HX 1), stF ty (ha 2) (HX 2), stF ty (ha 3) (HX 3), stF ty (ha 4) (HX 4), stF ty (ha 5) (HX 5), stF ty (ha 6) (HX 6), stF ty (ha 7) (HX 7)]) (Rs := [txB ty t ln cn ch le nu]) ⟨hx, hb, hml, hown, hts⟩ hz w (c_X8_leave l hst D ty o a b sn h t ha HX r sb hs lf (f 0) (f 1) (f 2) (f 3) sz nx hnx S M B hB1 hV (nI u93)) (cwV 1 hts gL_done_X8_leave rfl rfl rfl ⟨rfl, hdN_X8_leave⟩ ⟨(Nat.le_of_ble_eq_true rfl), (Nat.le_of_ble_eq_true rfl)⟩) 0 rfl rfl (ci := 12) rfl rfl rfl hl.1 rfl (Nat.le_of_ble_eq_true rfl) dL_done_96 ⟨(Nat.le_of_ble_eq_true rfl), (Nat.le_of_ble_eq_true rfl)⟩ (fun q9 H locs hok hth w => ?_) (fun H locs hok w => ?_)
    · exact e_sx hex hlocks w hth ((S, M), HX, sz, nx, rfF (wLeave S (nI u93)) f) ⟨LJ_mono hJ (by omega), hnx⟩ (by rw [rfW_F (W := wLeave S (nI u93)) (f := f)]; rfl) (Nat.le_of_ble_eq_true rfl) (Nat.le_of_ble_eq_true rfl)
    exact vx_ret (e_s hx hb hr hlocks w ((sGo S (cN (S 49)) (cN (pPl S (nI u93) (cN (S 49)))), M), va_up HX nx (S, M), jmin 8 (sz + 1), (nx + 1) % 8, rfF (wLeave S (nI u93)) f) ⟨LJ_mono (LJ_leave hA hM hQ hok) (by omega), Nat.mod_lt _ (by omega)⟩ (by rw [rfW_F (W := wLeave S (nI u93)) (f := f)]; rfl) dL_done_99 (Nat.le_of_ble_eq_true rfl) (Nat.le_of_ble_eq_true rfl))
  by_cases e8_5 : v = 5
  · refine r_eq (y := 5) e8_5 ?_
    refine lv_tableIn (tgt := 100) hx hb dL_done_8 (by decide) (by decide) rfl (by decide) ?_
    refine lv_aload_n hx hb dL_done_100 rfl (lv_at hl 1 rfl) ?_
    refine lv_iconst (v := 1) hx hb dL_done_101 (by decide) ?_
    refine lv_aload_n hx hb dL_done_102 rfl (lv_at hl 2 rfl) ?_
    refine lv_iload_n hx hb dL_done_103 rfl (lv_at hl 3 rfl) ?_
    refine lv_iconst (v := 1) hx hb dL_done_104 (by decide) ?_
    refine lv_iadd hx hb dL_done_105 ?_
    refine r_eq (y := (nI (i + 1))) (nI_add i 1) ?_
    refine lv_iconst (v := 3) hx hb dL_done_106 (by decide) ?_
    refine l_cS (As := [.ref b9, .int (nI (i + 1)), .int 3]) (rest := [.int 1, .ref o]) (Cs := []) (Rs := [ppB o (a 0) (b 0) (sn 0) (h 0) r (t 0) sb hs lf, rfB r (f 0) (f 1) (f 2) (f 3), stB a S, lnB ty a S, quB ty a S, weB a S, miB ty a M, hiB ty h ha sz (nI nx), stF ty (ha 0) (HX 0), stF ty (ha 1) (HX 1), stF ty (ha 2) (HX 2), stF ty (ha 3) (HX 3), stF ty (ha 4) (HX 4), stF ty (ha 5) (HX 5), stF ty (ha 6) (HX 6), stF ty (ha 7) (HX 7), txB ty t ln cn ch le nu]) ⟨hx, hb, hml, hown, hts⟩ hz hs9 w (c_L_pick l D ty b9 L9 xs (i + 1) 3 (by omega) (by omega) (by omega)) (va_cwS 3 hts gL_done_L_pick rfl rfl rfl hdN_L_pick ⟨(Nat.le_of_ble_eq_true rfl), (Nat.le_of_ble_eq_true rfl)⟩) rfl hl.1 rfl (Nat.le_of_ble_eq_true rfl) dL_done_107 ⟨(Nat.le_of_ble_eq_true rfl), (Nat.le_of_ble_eq_true rfl)⟩ (fun r107 u107 H locs hu107 w => ?_)
    obtain ⟨rfl, hj107⟩ := hu107
    have w := w.cast (Bs' := [ppB o (a 0) (b 0) (sn 0) (h 0) r (t 0) sb hs lf, rfB r (f 0) (f 1) (f 2) (f 3), stB a S, lnB ty a S, quB ty a S, weB a S, miB ty a M, hiB ty h ha sz (nI nx), stF ty (ha 0) (HX 0), stF ty (ha 1) (HX 1), stF ty (ha 2) (HX 2), stF ty (ha 3) (HX 3), stF ty (ha 4) (HX 4), stF ty (ha 5) (HX 5), stF ty (ha 6) (HX 6), stF ty (ha 7) (HX 7), txB ty t ln cn ch le nu]) rfl
    refine lv_iadd hx hb dL_done_110 ?_
    refine r_eq (y := (nI (1 + u107))) (nI_add 1 u107) ?_
    refine l_cX (As := [.int (nI (1 + u107))]) (rest := []) (Cs := [ppB o (a 0) (b 0) (sn 0) (h 0) r (t 0) sb hs lf, rfB r (f 0) (f 1) (f 2) (f 3), stB a S, lnB ty a S, quB ty a S, weB a S, miB ty a M, hiB ty h ha sz (nI nx), stF ty (ha 0) (HX 0), stF ty (ha 1) (HX 1), stF ty (ha 2) (HX 2), stF ty (ha 3) (HX 3), stF ty (ha 4) (HX 4), stF ty (ha 5) (HX 5), stF ty (ha 6) (HX 6), stF ty (ha 7) (HX 7)]) (Rs := [txB ty t ln cn ch le nu]) ⟨hx, hb, hml, hown, hts⟩ hz w (c_X8_draw l hst D ty o a b sn h t ha HX r sb hs lf (f 0) (f 1) (f 2) (f 3) sz nx hnx S M B hB1 hV (nI (1 + u107))) (cwV 1 hts gL_done_X8_draw rfl rfl rfl ⟨rfl, hdN_X8_draw⟩ ⟨(Nat.le_of_ble_eq_true rfl), (Nat.le_of_ble_eq_true rfl)⟩) 0 rfl rfl (ci := 12) rfl rfl rfl hl.1 rfl (Nat.le_of_ble_eq_true rfl) dL_done_111 ⟨(Nat.le_of_ble_eq_true rfl), (Nat.le_of_ble_eq_true rfl)⟩ (fun q9 H locs hok hth w => ?_) (fun H locs hok w => ?_)
    · exact e_sx hex hlocks w hth ((S, M), HX, sz, nx, rfF (wDraw S (nI (1 + u107))) f) ⟨LJ_mono hJ (by omega), hnx⟩ (by rw [rfW_F (W := wDraw S (nI (1 + u107))) (f := f)]; rfl) (Nat.le_of_ble_eq_true rfl) (Nat.le_of_ble_eq_true rfl)
    exact vx_ret (e_s hx hb hr hlocks w ((oDrawN (cN (nI (1 + u107))) (S, M)).2, va_up HX nx (S, M), jmin 8 (sz + 1), (nx + 1) % 8, rfF (wDraw S (nI (1 + u107))) f) ⟨LJ_mono (LJ_draw hA hM hQ hB1 hok) (by omega), Nat.mod_lt _ (by omega)⟩ (by rw [rfW_F (W := wDraw S (nI (1 + u107))) (f := f)]; rfl) dL_done_114 (Nat.le_of_ble_eq_true rfl) (Nat.le_of_ble_eq_true rfl))
  by_cases e8_6 : v = 6
  · refine r_eq (y := 6) e8_6 ?_
    refine lv_tableIn (tgt := 100) hx hb dL_done_8 (by decide) (by decide) rfl (by decide) ?_
    refine lv_aload_n hx hb dL_done_100 rfl (lv_at hl 1 rfl) ?_
    refine lv_iconst (v := 1) hx hb dL_done_101 (by decide) ?_
    refine lv_aload_n hx hb dL_done_102 rfl (lv_at hl 2 rfl) ?_
    refine lv_iload_n hx hb dL_done_103 rfl (lv_at hl 3 rfl) ?_
    refine lv_iconst (v := 1) hx hb dL_done_104 (by decide) ?_
    refine lv_iadd hx hb dL_done_105 ?_
    refine r_eq (y := (nI (i + 1))) (nI_add i 1) ?_
    refine lv_iconst (v := 3) hx hb dL_done_106 (by decide) ?_
    refine l_cS (As := [.ref b9, .int (nI (i + 1)), .int 3]) (rest := [.int 1, .ref o]) (Cs := []) (Rs := [ppB o (a 0) (b 0) (sn 0) (h 0) r (t 0) sb hs lf, rfB r (f 0) (f 1) (f 2) (f 3), stB a S, lnB ty a S, quB ty a S, weB a S, miB ty a M, hiB ty h ha sz (nI nx), stF ty (ha 0) (HX 0), stF ty (ha 1) (HX 1), stF ty (ha 2) (HX 2), stF ty (ha 3) (HX 3), stF ty (ha 4) (HX 4), stF ty (ha 5) (HX 5), stF ty (ha 6) (HX 6), stF ty (ha 7) (HX 7), txB ty t ln cn ch le nu]) ⟨hx, hb, hml, hown, hts⟩ hz hs9 w (c_L_pick l D ty b9 L9 xs (i + 1) 3 (by omega) (by omega) (by omega)) (va_cwS 3 hts gL_done_L_pick rfl rfl rfl hdN_L_pick ⟨(Nat.le_of_ble_eq_true rfl), (Nat.le_of_ble_eq_true rfl)⟩) rfl hl.1 rfl (Nat.le_of_ble_eq_true rfl) dL_done_107 ⟨(Nat.le_of_ble_eq_true rfl), (Nat.le_of_ble_eq_true rfl)⟩ (fun r107 u107 H locs hu107 w => ?_)
    obtain ⟨rfl, hj107⟩ := hu107
    have w := w.cast (Bs' := [ppB o (a 0) (b 0) (sn 0) (h 0) r (t 0) sb hs lf, rfB r (f 0) (f 1) (f 2) (f 3), stB a S, lnB ty a S, quB ty a S, weB a S, miB ty a M, hiB ty h ha sz (nI nx), stF ty (ha 0) (HX 0), stF ty (ha 1) (HX 1), stF ty (ha 2) (HX 2), stF ty (ha 3) (HX 3), stF ty (ha 4) (HX 4), stF ty (ha 5) (HX 5), stF ty (ha 6) (HX 6), stF ty (ha 7) (HX 7), txB ty t ln cn ch le nu]) rfl
    refine lv_iadd hx hb dL_done_110 ?_
    refine r_eq (y := (nI (1 + u107))) (nI_add 1 u107) ?_
    refine l_cX (As := [.int (nI (1 + u107))]) (rest := []) (Cs := [ppB o (a 0) (b 0) (sn 0) (h 0) r (t 0) sb hs lf, rfB r (f 0) (f 1) (f 2) (f 3), stB a S, lnB ty a S, quB ty a S, weB a S, miB ty a M, hiB ty h ha sz (nI nx), stF ty (ha 0) (HX 0), stF ty (ha 1) (HX 1), stF ty (ha 2) (HX 2), stF ty (ha 3) (HX 3), stF ty (ha 4) (HX 4), stF ty (ha 5) (HX 5), stF ty (ha 6) (HX 6), stF ty (ha 7) (HX 7)]) (Rs := [txB ty t ln cn ch le nu]) ⟨hx, hb, hml, hown, hts⟩ hz w (c_X8_draw l hst D ty o a b sn h t ha HX r sb hs lf (f 0) (f 1) (f 2) (f 3) sz nx hnx S M B hB1 hV (nI (1 + u107))) (cwV 1 hts gL_done_X8_draw rfl rfl rfl ⟨rfl, hdN_X8_draw⟩ ⟨(Nat.le_of_ble_eq_true rfl), (Nat.le_of_ble_eq_true rfl)⟩) 0 rfl rfl (ci := 12) rfl rfl rfl hl.1 rfl (Nat.le_of_ble_eq_true rfl) dL_done_111 ⟨(Nat.le_of_ble_eq_true rfl), (Nat.le_of_ble_eq_true rfl)⟩ (fun q9 H locs hok hth w => ?_) (fun H locs hok w => ?_)
    · exact e_sx hex hlocks w hth ((S, M), HX, sz, nx, rfF (wDraw S (nI (1 + u107))) f) ⟨LJ_mono hJ (by omega), hnx⟩ (by rw [rfW_F (W := wDraw S (nI (1 + u107))) (f := f)]; rfl) (Nat.le_of_ble_eq_true rfl) (Nat.le_of_ble_eq_true rfl)
    exact vx_ret (e_s hx hb hr hlocks w ((oDrawN (cN (nI (1 + u107))) (S, M)).2, va_up HX nx (S, M), jmin 8 (sz + 1), (nx + 1) % 8, rfF (wDraw S (nI (1 + u107))) f) ⟨LJ_mono (LJ_draw hA hM hQ hB1 hok) (by omega), Nat.mod_lt _ (by omega)⟩ (by rw [rfW_F (W := wDraw S (nI (1 + u107))) (f := f)]; rfl) dL_done_114 (Nat.le_of_ble_eq_true rfl) (Nat.le_of_ble_eq_true rfl))
  by_cases e8_7 : v = 7
  · refine r_eq (y := 7) e8_7 ?_
    refine lv_tableIn (tgt := 100) hx hb dL_done_8 (by decide) (by decide) rfl (by decide) ?_
    refine lv_aload_n hx hb dL_done_100 rfl (lv_at hl 1 rfl) ?_
    refine lv_iconst (v := 1) hx hb dL_done_101 (by decide) ?_
    refine lv_aload_n hx hb dL_done_102 rfl (lv_at hl 2 rfl) ?_
    refine lv_iload_n hx hb dL_done_103 rfl (lv_at hl 3 rfl) ?_
    refine lv_iconst (v := 1) hx hb dL_done_104 (by decide) ?_
    refine lv_iadd hx hb dL_done_105 ?_
    refine r_eq (y := (nI (i + 1))) (nI_add i 1) ?_
    refine lv_iconst (v := 3) hx hb dL_done_106 (by decide) ?_
    refine l_cS (As := [.ref b9, .int (nI (i + 1)), .int 3]) (rest := [.int 1, .ref o]) (Cs := []) (Rs := [ppB o (a 0) (b 0) (sn 0) (h 0) r (t 0) sb hs lf, rfB r (f 0) (f 1) (f 2) (f 3), stB a S, lnB ty a S, quB ty a S, weB a S, miB ty a M, hiB ty h ha sz (nI nx), stF ty (ha 0) (HX 0), stF ty (ha 1) (HX 1), stF ty (ha 2) (HX 2), stF ty (ha 3) (HX 3), stF ty (ha 4) (HX 4), stF ty (ha 5) (HX 5), stF ty (ha 6) (HX 6), stF ty (ha 7) (HX 7), txB ty t ln cn ch le nu]) ⟨hx, hb, hml, hown, hts⟩ hz hs9 w (c_L_pick l D ty b9 L9 xs (i + 1) 3 (by omega) (by omega) (by omega)) (va_cwS 3 hts gL_done_L_pick rfl rfl rfl hdN_L_pick ⟨(Nat.le_of_ble_eq_true rfl), (Nat.le_of_ble_eq_true rfl)⟩) rfl hl.1 rfl (Nat.le_of_ble_eq_true rfl) dL_done_107 ⟨(Nat.le_of_ble_eq_true rfl), (Nat.le_of_ble_eq_true rfl)⟩ (fun r107 u107 H locs hu107 w => ?_)
    obtain ⟨rfl, hj107⟩ := hu107
    have w := w.cast (Bs' := [ppB o (a 0) (b 0) (sn 0) (h 0) r (t 0) sb hs lf, rfB r (f 0) (f 1) (f 2) (f 3), stB a S, lnB ty a S, quB ty a S, weB a S, miB ty a M, hiB ty h ha sz (nI nx), stF ty (ha 0) (HX 0), stF ty (ha 1) (HX 1), stF ty (ha 2) (HX 2), stF ty (ha 3) (HX 3), stF ty (ha 4) (HX 4), stF ty (ha 5) (HX 5), stF ty (ha 6) (HX 6), stF ty (ha 7) (HX 7), txB ty t ln cn ch le nu]) rfl
    refine lv_iadd hx hb dL_done_110 ?_
    refine r_eq (y := (nI (1 + u107))) (nI_add 1 u107) ?_
    refine l_cX (As := [.int (nI (1 + u107))]) (rest := []) (Cs := [ppB o (a 0) (b 0) (sn 0) (h 0) r (t 0) sb hs lf, rfB r (f 0) (f 1) (f 2) (f 3), stB a S, lnB ty a S, quB ty a S, weB a S, miB ty a M, hiB ty h ha sz (nI nx), stF ty (ha 0) (HX 0), stF ty (ha 1) (HX 1), stF ty (ha 2) (HX 2), stF ty (ha 3) (HX 3), stF ty (ha 4) (HX 4), stF ty (ha 5) (HX 5), stF ty (ha 6) (HX 6), stF ty (ha 7) (HX 7)]) (Rs := [txB ty t ln cn ch le nu]) ⟨hx, hb, hml, hown, hts⟩ hz w (c_X8_draw l hst D ty o a b sn h t ha HX r sb hs lf (f 0) (f 1) (f 2) (f 3) sz nx hnx S M B hB1 hV (nI (1 + u107))) (cwV 1 hts gL_done_X8_draw rfl rfl rfl ⟨rfl, hdN_X8_draw⟩ ⟨(Nat.le_of_ble_eq_true rfl), (Nat.le_of_ble_eq_true rfl)⟩) 0 rfl rfl (ci := 12) rfl rfl rfl hl.1 rfl (Nat.le_of_ble_eq_true rfl) dL_done_111 ⟨(Nat.le_of_ble_eq_true rfl), (Nat.le_of_ble_eq_true rfl)⟩ (fun q9 H locs hok hth w => ?_) (fun H locs hok w => ?_)
    · exact e_sx hex hlocks w hth ((S, M), HX, sz, nx, rfF (wDraw S (nI (1 + u107))) f) ⟨LJ_mono hJ (by omega), hnx⟩ (by rw [rfW_F (W := wDraw S (nI (1 + u107))) (f := f)]; rfl) (Nat.le_of_ble_eq_true rfl) (Nat.le_of_ble_eq_true rfl)
    exact vx_ret (e_s hx hb hr hlocks w ((oDrawN (cN (nI (1 + u107))) (S, M)).2, va_up HX nx (S, M), jmin 8 (sz + 1), (nx + 1) % 8, rfF (wDraw S (nI (1 + u107))) f) ⟨LJ_mono (LJ_draw hA hM hQ hB1 hok) (by omega), Nat.mod_lt _ (by omega)⟩ (by rw [rfW_F (W := wDraw S (nI (1 + u107))) (f := f)]; rfl) dL_done_114 (Nat.le_of_ble_eq_true rfl) (Nat.le_of_ble_eq_true rfl))
  by_cases e8_8 : v = 8
  · refine r_eq (y := 8) e8_8 ?_
    refine lv_tableIn (tgt := 115) hx hb dL_done_8 (by decide) (by decide) rfl (by decide) ?_
    refine lv_aload_n hx hb dL_done_115 rfl (lv_at hl 1 rfl) ?_
    refine l_cX (As := []) (rest := []) (Cs := [ppB o (a 0) (b 0) (sn 0) (h 0) r (t 0) sb hs lf, rfB r (f 0) (f 1) (f 2) (f 3), stB a S, lnB ty a S, quB ty a S, weB a S, miB ty a M, hiB ty h ha sz (nI nx), stF ty (ha 0) (HX 0), stF ty (ha 1) (HX 1), stF ty (ha 2) (HX 2), stF ty (ha 3) (HX 3), stF ty (ha 4) (HX 4), stF ty (ha 5) (HX 5), stF ty (ha 6) (HX 6), stF ty (ha 7) (HX 7)]) (Rs := [txB ty t ln cn ch le nu]) ⟨hx, hb, hml, hown, hts⟩ hz w (c_X8_vote l hst D ty o a b sn h t ha HX r sb hs lf (f 0) (f 1) (f 2) (f 3) sz nx hnx S M B hB1 hV ) (cwV 0 hts gL_done_X8_vote rfl rfl rfl ⟨rfl, hdN_X8_vote⟩ ⟨(Nat.le_of_ble_eq_true rfl), (Nat.le_of_ble_eq_true rfl)⟩) 0 rfl rfl (ci := 12) rfl rfl rfl hl.1 rfl (Nat.le_of_ble_eq_true rfl) dL_done_116 ⟨(Nat.le_of_ble_eq_true rfl), (Nat.le_of_ble_eq_true rfl)⟩ (fun q9 H locs hok hth w => ?_) (fun H locs hok w => ?_)
    · exact e_sx hex hlocks w hth ((S, M), HX, sz, nx, rfF (wVote S) f) ⟨LJ_mono hJ (by omega), hnx⟩ (by rw [rfW_F (W := wVote S) (f := f)]; rfl) (Nat.le_of_ble_eq_true rfl) (Nat.le_of_ble_eq_true rfl)
    exact vx_ret (e_s hx hb hr hlocks w ((oVote (S, M)).2, va_up HX nx (S, M), jmin 8 (sz + 1), (nx + 1) % 8, rfF (wVote S) f) ⟨LJ_mono (LJ_vote hA hM hQ hB1) (by omega), Nat.mod_lt _ (by omega)⟩ (by rw [rfW_F (W := wVote S) (f := f)]; rfl) dL_done_119 (Nat.le_of_ble_eq_true rfl) (Nat.le_of_ble_eq_true rfl))
  by_cases e8_9 : v = 9
  · refine r_eq (y := 9) e8_9 ?_
    refine lv_tableIn (tgt := 120) hx hb dL_done_8 (by decide) (by decide) rfl (by decide) ?_
    refine lv_aload_n hx hb dL_done_120 rfl (lv_at hl 1 rfl) ?_
    refine lv_aload_n hx hb dL_done_121 rfl (lv_at hl 2 rfl) ?_
    refine lv_iload_n hx hb dL_done_122 rfl (lv_at hl 3 rfl) ?_
    refine lv_iconst (v := 1) hx hb dL_done_123 (by decide) ?_
    refine lv_iadd hx hb dL_done_124 ?_
    refine r_eq (y := (nI (i + 1))) (nI_add i 1) ?_
    refine lv_bipush (v := 10) hx hb dL_done_125 (by decide) ?_
    refine l_cS (As := [.ref b9, .int (nI (i + 1)), .int 10]) (rest := [.ref o]) (Cs := []) (Rs := [ppB o (a 0) (b 0) (sn 0) (h 0) r (t 0) sb hs lf, rfB r (f 0) (f 1) (f 2) (f 3), stB a S, lnB ty a S, quB ty a S, weB a S, miB ty a M, hiB ty h ha sz (nI nx), stF ty (ha 0) (HX 0), stF ty (ha 1) (HX 1), stF ty (ha 2) (HX 2), stF ty (ha 3) (HX 3), stF ty (ha 4) (HX 4), stF ty (ha 5) (HX 5), stF ty (ha 6) (HX 6), stF ty (ha 7) (HX 7), txB ty t ln cn ch le nu]) ⟨hx, hb, hml, hown, hts⟩ hz hs9 w (c_L_pick l D ty b9 L9 xs (i + 1) 10 (by omega) (by omega) (by omega)) (va_cwS 3 hts gL_done_L_pick rfl rfl rfl hdN_L_pick ⟨(Nat.le_of_ble_eq_true rfl), (Nat.le_of_ble_eq_true rfl)⟩) rfl hl.1 rfl (Nat.le_of_ble_eq_true rfl) dL_done_127 ⟨(Nat.le_of_ble_eq_true rfl), (Nat.le_of_ble_eq_true rfl)⟩ (fun r127 u127 H locs hu127 w => ?_)
    obtain ⟨rfl, hj127⟩ := hu127
    have w := w.cast (Bs' := [ppB o (a 0) (b 0) (sn 0) (h 0) r (t 0) sb hs lf, rfB r (f 0) (f 1) (f 2) (f 3), stB a S, lnB ty a S, quB ty a S, weB a S, miB ty a M, hiB ty h ha sz (nI nx), stF ty (ha 0) (HX 0), stF ty (ha 1) (HX 1), stF ty (ha 2) (HX 2), stF ty (ha 3) (HX 3), stF ty (ha 4) (HX 4), stF ty (ha 5) (HX 5), stF ty (ha 6) (HX 6), stF ty (ha 7) (HX 7), txB ty t ln cn ch le nu]) rfl
    refine k_iV (As := [.int (nI u127)]) (rest := []) (Rs := [txB ty t ln cn ch le nu]) (Bs' := [ppB o (a 0) (b 0) (sn 0) (h 0) r (t 0) sb hs lf, rfW r (wRain (nI u127)) (f 0) (f 1) (f 2) (f 3), stB a (upd S 208 (nI u127)), lnB ty a (upd S 208 (nI u127)), quB ty a (upd S 208 (nI u127)), weB a (upd S 208 (nI u127)), miB ty a M, hiB ty h ha (jmin 8 (sz + 1)) (nI ((nx + 1) % 8)), stF ty (ha 0) (va_up HX nx (S, M) 0), stF ty (ha 1) (va_up HX nx (S, M) 1), stF ty (ha 2) (va_up HX nx (S, M) 2), stF ty (ha 3) (va_up HX nx (S, M) 3), stF ty (ha 4) (va_up HX nx (S, M) 4), stF ty (ha 5) (va_up HX nx (S, M) 5), stF ty (ha 6) (va_up HX nx (S, M) 6), stF ty (ha 7) (va_up HX nx (S, M) 7), txB ty t ln cn ch le nu]) ⟨hx, hb, hml, hown, hts⟩ w (c_X8_rain l D ty o a b sn h t ha HX r sb hs lf (f 0) (f 1) (f 2) (f 3) sz nx hnx S M B hB1 hV (nI u127) (wRain_0 (by omega))) (cwV 1 hts gL_done_X8_rain rfl rfl rfl ⟨rfl, hdN_X8_rain⟩ ⟨Nat.le_of_ble_eq_true rfl, Nat.le_of_ble_eq_true rfl⟩) [0, 1, 2, 3, 4, 5, 6, 7, 8, 9, 10, 11, 12, 13, 14, 15, 16] (nB := 17) (by decide) rfl rfl rfl rfl 0 rfl rfl (ci := 12) rfl rfl rfl hl.1 rfl (Nat.le_of_ble_eq_true rfl) dL_done_130 ⟨(Nat.zero_le _), (Nat.zero_le _)⟩ (fun H locs w => ?_)
    exact vx_ret (e_s hx hb hr hlocks w ((upd S 208 (nI u127), M), va_up HX nx (S, M), jmin 8 (sz + 1), (nx + 1) % 8, rfF (wRain (nI u127)) f) ⟨LJ_mono (LJ_rain hA hM hQ (by omega)) (by omega), Nat.mod_lt _ (by omega)⟩ (by rw [rfW_F (W := wRain (nI u127)) (f := f)]; rfl) dL_done_133 (Nat.le_of_ble_eq_true rfl) (Nat.le_of_ble_eq_true rfl))
  by_cases e8_10 : v = 10
  · refine r_eq (y := 10) e8_10 ?_
    refine lv_tableIn (tgt := 134) hx hb dL_done_8 (by decide) (by decide) rfl (by decide) ?_
    refine lv_aload_n hx hb dL_done_134 rfl (lv_at hl 1 rfl) ?_
    refine lv_iconst (v := 1) hx hb dL_done_135 (by decide) ?_
    refine lv_aload_n hx hb dL_done_136 rfl (lv_at hl 2 rfl) ?_
    refine lv_iload_n hx hb dL_done_137 rfl (lv_at hl 3 rfl) ?_
    refine lv_iconst (v := 1) hx hb dL_done_138 (by decide) ?_
    refine lv_iadd hx hb dL_done_139 ?_
    refine r_eq (y := (nI (i + 1))) (nI_add i 1) ?_
    refine lv_bipush (v := 40) hx hb dL_done_140 (by decide) ?_
    refine l_cS (As := [.ref b9, .int (nI (i + 1)), .int 40]) (rest := [.int 1, .ref o]) (Cs := []) (Rs := [ppB o (a 0) (b 0) (sn 0) (h 0) r (t 0) sb hs lf, rfB r (f 0) (f 1) (f 2) (f 3), stB a S, lnB ty a S, quB ty a S, weB a S, miB ty a M, hiB ty h ha sz (nI nx), stF ty (ha 0) (HX 0), stF ty (ha 1) (HX 1), stF ty (ha 2) (HX 2), stF ty (ha 3) (HX 3), stF ty (ha 4) (HX 4), stF ty (ha 5) (HX 5), stF ty (ha 6) (HX 6), stF ty (ha 7) (HX 7), txB ty t ln cn ch le nu]) ⟨hx, hb, hml, hown, hts⟩ hz hs9 w (c_L_pick l D ty b9 L9 xs (i + 1) 40 (by omega) (by omega) (by omega)) (va_cwS 3 hts gL_done_L_pick rfl rfl rfl hdN_L_pick ⟨(Nat.le_of_ble_eq_true rfl), (Nat.le_of_ble_eq_true rfl)⟩) rfl hl.1 rfl (Nat.le_of_ble_eq_true rfl) dL_done_142 ⟨(Nat.le_of_ble_eq_true rfl), (Nat.le_of_ble_eq_true rfl)⟩ (fun r142 u142 H locs hu142 w => ?_)
    obtain ⟨rfl, hj142⟩ := hu142
    have w := w.cast (Bs' := [ppB o (a 0) (b 0) (sn 0) (h 0) r (t 0) sb hs lf, rfB r (f 0) (f 1) (f 2) (f 3), stB a S, lnB ty a S, quB ty a S, weB a S, miB ty a M, hiB ty h ha sz (nI nx), stF ty (ha 0) (HX 0), stF ty (ha 1) (HX 1), stF ty (ha 2) (HX 2), stF ty (ha 3) (HX 3), stF ty (ha 4) (HX 4), stF ty (ha 5) (HX 5), stF ty (ha 6) (HX 6), stF ty (ha 7) (HX 7), txB ty t ln cn ch le nu]) rfl
    refine lv_iadd hx hb dL_done_145 ?_
    refine r_eq (y := (nI (1 + u142))) (nI_add 1 u142) ?_
    refine l_cX (As := [.int (nI (1 + u142))]) (rest := []) (Cs := [ppB o (a 0) (b 0) (sn 0) (h 0) r (t 0) sb hs lf, rfB r (f 0) (f 1) (f 2) (f 3), stB a S, lnB ty a S, quB ty a S, weB a S, miB ty a M, hiB ty h ha sz (nI nx), stF ty (ha 0) (HX 0), stF ty (ha 1) (HX 1), stF ty (ha 2) (HX 2), stF ty (ha 3) (HX 3), stF ty (ha 4) (HX 4), stF ty (ha 5) (HX 5), stF ty (ha 6) (HX 6), stF ty (ha 7) (HX 7)]) (Rs := [txB ty t ln cn ch le nu]) ⟨hx, hb, hml, hown, hts⟩ hz w (c_X8_collect l hst D ty o a b sn h t ha HX r sb hs lf (f 0) (f 1) (f 2) (f 3) sz nx hnx S M B hB1 hV (nI (1 + u142))) (cwV 1 hts gL_done_X8_collect rfl rfl rfl ⟨rfl, hdN_X8_collect⟩ ⟨(Nat.le_of_ble_eq_true rfl), (Nat.le_of_ble_eq_true rfl)⟩) 0 rfl rfl (ci := 12) rfl rfl rfl hl.1 rfl (Nat.le_of_ble_eq_true rfl) dL_done_146 ⟨(Nat.le_of_ble_eq_true rfl), (Nat.le_of_ble_eq_true rfl)⟩ (fun q9 H locs hok hth w => ?_) (fun H locs hok w => ?_)
    · exact e_sx hex hlocks w hth ((S, M), HX, sz, nx, rfF (wCoins S (nI (1 + u142))) f) ⟨LJ_mono hJ (by omega), hnx⟩ (by rw [rfW_F (W := wCoins S (nI (1 + u142))) (f := f)]; rfl) (Nat.le_of_ble_eq_true rfl) (Nat.le_of_ble_eq_true rfl)
    exact vx_ret (e_s hx hb hr hlocks w ((upd S 209 (S 209 + (nI (1 + u142))), M), va_up HX nx (S, M), jmin 8 (sz + 1), (nx + 1) % 8, rfF (wCoins S (nI (1 + u142))) f) ⟨LJ_mono (LJ_coins hA hM hQ) (by omega), Nat.mod_lt _ (by omega)⟩ (by rw [rfW_F (W := wCoins S (nI (1 + u142))) (f := f)]; rfl) dL_done_149 (Nat.le_of_ble_eq_true rfl) (Nat.le_of_ble_eq_true rfl))
  by_cases e8_11 : v = 11
  · refine r_eq (y := 11) e8_11 ?_
    refine lv_tableIn (tgt := 150) hx hb dL_done_8 (by decide) (by decide) rfl (by decide) ?_
    refine lv_aload_n hx hb dL_done_150 rfl (lv_at hl 1 rfl) ?_
    refine l_cX (As := []) (rest := []) (Cs := [ppB o (a 0) (b 0) (sn 0) (h 0) r (t 0) sb hs lf, rfB r (f 0) (f 1) (f 2) (f 3), stB a S, lnB ty a S, quB ty a S, weB a S, miB ty a M, hiB ty h ha sz (nI nx), stF ty (ha 0) (HX 0), stF ty (ha 1) (HX 1), stF ty (ha 2) (HX 2), stF ty (ha 3) (HX 3), stF ty (ha 4) (HX 4), stF ty (ha 5) (HX 5), stF ty (ha 6) (HX 6), stF ty (ha 7) (HX 7)]) (Rs := [txB ty t ln cn ch le nu]) ⟨hx, hb, hml, hown, hts⟩ hz w (c_X8_leather l hst D ty o a b sn h t ha HX r sb hs lf (f 0) (f 1) (f 2) (f 3) sz nx hnx S M B hB1 hV ) (cwV 0 hts gL_done_X8_leather rfl rfl rfl ⟨rfl, hdN_X8_leather⟩ ⟨(Nat.le_of_ble_eq_true rfl), (Nat.le_of_ble_eq_true rfl)⟩) 0 rfl rfl (ci := 12) rfl rfl rfl hl.1 rfl (Nat.le_of_ble_eq_true rfl) dL_done_151 ⟨(Nat.le_of_ble_eq_true rfl), (Nat.le_of_ble_eq_true rfl)⟩ (fun q9 H locs hok hth w => ?_) (fun H locs hok w => ?_)
    · exact e_sx hex hlocks w hth ((S, M), HX, sz, nx, rfF (wLeather S) f) ⟨LJ_mono hJ (by omega), hnx⟩ (by rw [rfW_F (W := wLeather S) (f := f)]; rfl) (Nat.le_of_ble_eq_true rfl) (Nat.le_of_ble_eq_true rfl)
    exact vx_ret (e_s hx hb hr hlocks w ((oRenew (S, M)).2, va_up HX nx (S, M), jmin 8 (sz + 1), (nx + 1) % 8, rfF (wLeather S) f) ⟨LJ_mono (LJ_renew hA hM hQ hB1) (by omega), Nat.mod_lt _ (by omega)⟩ (by rw [rfW_F (W := wLeather S) (f := f)]; rfl) dL_done_154 (Nat.le_of_ble_eq_true rfl) (Nat.le_of_ble_eq_true rfl))
  refine lv_tableOut (tgt := 155) hx hb dL_done_8 (sw_out 0 11 (fun v h1 h2 e => by
    have h3 : v = 0 ∨ v = 1 ∨ v = 2 ∨ v = 3 ∨ v = 4 ∨ v = 5 ∨ v = 6 ∨ v = 7 ∨ v = 8 ∨ v = 9 ∨ v = 10 ∨ v = 11 := by omega
    rcases h3 with rfl | rfl | rfl | rfl | rfl | rfl | rfl | rfl | rfl | rfl | rfl | rfl
    · exact e8_0 (Int32.toInt_inj.mp e)
    · exact e8_1 (Int32.toInt_inj.mp e)
    · exact e8_2 (Int32.toInt_inj.mp e)
    · exact e8_3 (Int32.toInt_inj.mp e)
    · exact e8_4 (Int32.toInt_inj.mp e)
    · exact e8_5 (Int32.toInt_inj.mp e)
    · exact e8_6 (Int32.toInt_inj.mp e)
    · exact e8_7 (Int32.toInt_inj.mp e)
    · exact e8_8 (Int32.toInt_inj.mp e)
    · exact e8_9 (Int32.toInt_inj.mp e)
    · exact e8_10 (Int32.toInt_inj.mp e)
    · exact e8_11 (Int32.toInt_inj.mp e)
    )) (by decide) ?_
  refine lv_aload_n hx hb dL_done_155 rfl (lv_at hl 1 rfl) ?_
  refine lv_iconst (v := 1) hx hb dL_done_156 (by decide) ?_
  refine lv_aload_n hx hb dL_done_157 rfl (lv_at hl 2 rfl) ?_
  refine lv_iload_n hx hb dL_done_158 rfl (lv_at hl 3 rfl) ?_
  refine lv_iconst (v := 1) hx hb dL_done_159 (by decide) ?_
  refine lv_iadd hx hb dL_done_160 ?_
  refine r_eq (y := (nI (i + 1))) (nI_add i 1) ?_
  refine lv_iconst (v := 3) hx hb dL_done_161 (by decide) ?_
  refine l_cS (As := [.ref b9, .int (nI (i + 1)), .int 3]) (rest := [.int 1, .ref o]) (Cs := []) (Rs := [ppB o (a 0) (b 0) (sn 0) (h 0) r (t 0) sb hs lf, rfB r (f 0) (f 1) (f 2) (f 3), stB a S, lnB ty a S, quB ty a S, weB a S, miB ty a M, hiB ty h ha sz (nI nx), stF ty (ha 0) (HX 0), stF ty (ha 1) (HX 1), stF ty (ha 2) (HX 2), stF ty (ha 3) (HX 3), stF ty (ha 4) (HX 4), stF ty (ha 5) (HX 5), stF ty (ha 6) (HX 6), stF ty (ha 7) (HX 7), txB ty t ln cn ch le nu]) ⟨hx, hb, hml, hown, hts⟩ hz hs9 w (c_L_pick l D ty b9 L9 xs (i + 1) 3 (by omega) (by omega) (by omega)) (va_cwS 3 hts gL_done_L_pick rfl rfl rfl hdN_L_pick ⟨(Nat.le_of_ble_eq_true rfl), (Nat.le_of_ble_eq_true rfl)⟩) rfl hl.1 rfl (Nat.le_of_ble_eq_true rfl) dL_done_162 ⟨(Nat.le_of_ble_eq_true rfl), (Nat.le_of_ble_eq_true rfl)⟩ (fun r162 u162 H locs hu162 w => ?_)
  obtain ⟨rfl, hj162⟩ := hu162
  have w := w.cast (Bs' := [ppB o (a 0) (b 0) (sn 0) (h 0) r (t 0) sb hs lf, rfB r (f 0) (f 1) (f 2) (f 3), stB a S, lnB ty a S, quB ty a S, weB a S, miB ty a M, hiB ty h ha sz (nI nx), stF ty (ha 0) (HX 0), stF ty (ha 1) (HX 1), stF ty (ha 2) (HX 2), stF ty (ha 3) (HX 3), stF ty (ha 4) (HX 4), stF ty (ha 5) (HX 5), stF ty (ha 6) (HX 6), stF ty (ha 7) (HX 7), txB ty t ln cn ch le nu]) rfl
  refine lv_iadd hx hb dL_done_165 ?_
  refine r_eq (y := (nI (1 + u162))) (nI_add 1 u162) ?_
  refine l_cX (As := [.int (nI (1 + u162))]) (rest := []) (Cs := [ppB o (a 0) (b 0) (sn 0) (h 0) r (t 0) sb hs lf, rfB r (f 0) (f 1) (f 2) (f 3), stB a S, lnB ty a S, quB ty a S, weB a S, miB ty a M, hiB ty h ha sz (nI nx), stF ty (ha 0) (HX 0), stF ty (ha 1) (HX 1), stF ty (ha 2) (HX 2), stF ty (ha 3) (HX 3), stF ty (ha 4) (HX 4), stF ty (ha 5) (HX 5), stF ty (ha 6) (HX 6), stF ty (ha 7) (HX 7)]) (Rs := [txB ty t ln cn ch le nu]) ⟨hx, hb, hml, hown, hts⟩ hz w (c_X8_night l hst D ty o a b sn h t ha HX r sb hs lf (f 0) (f 1) (f 2) (f 3) sz nx hnx S M B hB1 hV (nI (1 + u162))) (cwV 1 hts gL_done_X8_night rfl rfl rfl ⟨rfl, hdN_X8_night⟩ ⟨(Nat.le_of_ble_eq_true rfl), (Nat.le_of_ble_eq_true rfl)⟩) 0 rfl rfl (ci := 12) rfl rfl rfl hl.1 rfl (Nat.le_of_ble_eq_true rfl) dL_done_166 ⟨(Nat.le_of_ble_eq_true rfl), (Nat.le_of_ble_eq_true rfl)⟩ (fun q9 H locs hok hth w => ?_) (fun H locs hok w => ?_)
  · exact e_sx hex hlocks w hth ((S, M), HX, sz, nx, rfF (wNight (nI (1 + u162))) f) ⟨LJ_mono hJ (by omega), hnx⟩ (by rw [rfW_F (W := wNight (nI (1 + u162))) (f := f)]; rfl) (Nat.le_of_ble_eq_true rfl) (Nat.le_of_ble_eq_true rfl)
  exact vx_ret (e_s hx hb hr hlocks w ((sNightN (cN (S 0)) (cN (nI (1 + u162))) S, M), va_up HX nx (S, M), jmin 8 (sz + 1), (nx + 1) % 8, rfF (wNight (nI (1 + u162))) f) ⟨LJ_night hA hM hQ hok, Nat.mod_lt _ (by omega)⟩ (by rw [rfW_F (W := wNight (nI (1 + u162))) (f := f)]; rfl) dL_done_169 (Nat.le_of_ble_eq_true rfl) (Nat.le_of_ble_eq_true rfl))
