theorem in_X8_carryOut_X6 : ∀ w ∈ wsX60, w ∈ wsX8_carryOut := by decide +kernel
theorem in_X8_carryOut_X8 : ∀ w ∈ wsX80, w ∈ wsX8_carryOut := by decide +kernel
theorem hdN_X8_carryOut : yX8_carryOut.cls ≠ "java/lang/invoke/MethodHandle" ∧ yX8_carryOut.cls ≠ "java/lang/invoke/VarHandle" ∧ (parseMethodDescriptor yX8_carryOut.desc).map (fun d => d.parameters.length) = some 2 := by decide +kernel
set_option maxRecDepth 100000 in
set_option maxHeartbeats 4000000 in
theorem c_X8_carryOut (l : Launch) (D : va_G) (ty : Nat → ClassId) (o : Nat) (a b sn h t : Nat → Nat) (r sb : Nat) (hs lf f0 f1 f2 f3 : Int32) (S M : pS) (B : Nat) (hB : B < 10 ^ 7) (hV : IV B (S, M)) (kd v : Int32)  : Mi l yX8_carryOut wsX8_carryOut (kR 5 113 0 0) D (kTY ty) [.ref o, .int kd, .int v] [ppB o (a 0) (b 0) (sn 0) (h 0) r (t 0) sb hs lf, rfB r f0 f1 f2 f3, stB a S, lnB ty a S, quB ty a S, weB a S, miB ty a M] [ppB o (a 0) (b 0) (sn 0) (h 0) r (t 0) sb hs lf, rfW r (dW S kd v) f0 f1 f2 f3, stB a ((gR (dW S kd v) (dX (S, M) kd v) (S, M)).1), lnB ty a ((gR (dW S kd v) (dX (S, M) kd v) (S, M)).1), quB ty a ((gR (dW S kd v) (dX (S, M) kd v) (S, M)).1), weB a ((gR (dW S kd v) (dX (S, M) kd v) (S, M)).1), miB ty a ((gR (dW S kd v) (dX (S, M) kd v) (S, M)).2)] (bI (!(wB (dW S kd v)))) 0 0 := by
  refine m_i (cc := cX8_carryOut) (maxL := 3) (ret := (some .boolean)) (by decide +kernel) rfl (Nat.le_of_ble_eq_true rfl) ?_
  intro p e s m below meth c A ls hx hb hml hr hlocks hown hts w hl
  have hown : s.vm.findClass RX8 = some m.cls := hown
  have hl : lv_has ls 3 [(0, .ref o), (1, .int kd), (2, .int v)] := hl
  obtain ⟨⟨n, q, hA⟩, hMM⟩ := id hV
  have hA : IA S n q := hA
  have hI := hA.1
  have hn := hI.2.1
  have hdr := hI.2.2.2.2.2.2.1
  obtain ⟨cc0, x, hmr, hmrow⟩ := id hMM.1
  have hM : mOK M x := ⟨hmr.2.2.2.2.1, hmr.2.1⟩
  have hcn0 : cN (S 0) = n := by rw [hI.1, cN_nI (by omega)]
  have hcn1 : cN (S 49) = q := by rw [hI.2.2.1, cN_nI (by have := hI.2.2.2.1; omega)]
  refine lv_iload_n hx hb dX8_carryOut_0 rfl (lv_at hl 1 rfl) ?_
  by_cases d_106 : kd = 106
  · refine r_eq (y := 106) d_106 ?_
    refine lv_tableIn (tgt := 92) hx hb dX8_carryOut_1 (by decide) (by decide) rfl (by decide) ?_
    have hdW : dW S kd v = wJoin S v := by rw [dW, if_pos d_106]
    refine lv_aload_n hx hb dX8_carryOut_92 rfl (lv_at hl 0 rfl) ?_
    refine r_get (v' := .ref (a 0)) hx hb hts in_X8_carryOut_X8 hown w 0 0 rfl rfl (ci := 12) rfl 0 (by decide) (hts _ (List.mem_of_getElem? (i := 1) rfl)) rfl rfl rfl dX8_carryOut_93 ?_
    refine lv_iload_n hx hb dX8_carryOut_96 rfl (lv_at hl 2 rfl) ?_
    refine lv_aload_n hx hb dX8_carryOut_97 rfl (lv_at hl 0 rfl) ?_
    refine r_get (v' := .ref r) hx hb hts in_X8_carryOut_X8 hown w 0 0 rfl rfl (ci := 12) rfl 5 (by decide) (hts _ (List.mem_of_getElem? (i := 2) rfl)) rfl rfl rfl dX8_carryOut_98 ?_
    refine k_iVN (As := [.int v, .ref r]) (rest := []) (Rs := [ppB o (a 0) (b 0) (sn 0) (h 0) r (t 0) sb hs lf]) (Bs' := [ppB o (a 0) (b 0) (sn 0) (h 0) r (t 0) sb hs lf, rfW r (wJoin S v) f0 f1 f2 f3, stB a S, lnB ty a S, quB ty a S, weB a S, miB ty a M]) ⟨hx, hb, hml, hown, hts⟩ w (c_X6_refusesJoin l D ty a S M n q (hI) r f0 f1 f2 f3 v) ⟨va_cnB 2 hts gX8_carryOut_X6_refusesJoin_n79 rfl rfl rfl (w.2.2.2.2.2 _ (List.mem_of_getElem? (i := 66) rfl)) (hts _ (List.mem_of_getElem? (i := 4) rfl)) hdN_X6_refusesJoin ⟨Nat.le_of_ble_eq_true rfl, Nat.le_of_ble_eq_true rfl⟩, (hts _ (List.mem_of_getElem? (i := 3) rfl)), (hts _ (List.mem_of_getElem? (i := 5) rfl))⟩ [2, 3, 4, 5, 6, 1, 0] (nB := 7) (by decide) rfl rfl rfl rfl 2 rfl rfl (ci := 10) rfl rfl rfl hl.1 rfl (Nat.le_of_ble_eq_true rfl) dX8_carryOut_101 ⟨(Nat.zero_le _), (Nat.zero_le _)⟩ (fun H locs w => ?_)
    refine lv_if_eq (tgt := 109) hx hb dX8_carryOut_104 (by decide) (fun c104 => ?_) (fun c104 => ?_)
    · have c104 := bI_0.mp c104
      have hW := wB_z c104
      obtain ⟨i, hi, rfl, hnq⟩ := jo_i hA hW
      refine lv_aload_n hx hb dX8_carryOut_109 rfl (lv_at hl 0 rfl) ?_
      refine r_get (v' := .ref (a 0)) hx hb hts in_X8_carryOut_X8 hown w 0 0 rfl rfl (ci := 12) rfl 0 (by decide) (hts _ (List.mem_of_getElem? (i := 1) rfl)) rfl rfl rfl dX8_carryOut_110 ?_
      refine lv_iload_n hx hb dX8_carryOut_113 rfl (lv_at hl 2 rfl) ?_
      refine k_iVN (As := [.int (nI i)]) (rest := []) (Rs := [ppB o (a 0) (b 0) (sn 0) (h 0) r (t 0) sb hs lf, rfW r (wJoin S (nI i)) f0 f1 f2 f3]) (Bs' := [ppB o (a 0) (b 0) (sn 0) (h 0) r (t 0) sb hs lf, rfW r (wJoin S (nI i)) f0 f1 f2 f3, stB a ((oJL n i q (S, M)).2.1), lnB ty a ((oJL n i q (S, M)).2.1), quB ty a ((oJL n i q (S, M)).2.1), weB a ((oJL n i q (S, M)).2.1), miB ty a ((oJL n i q (S, M)).2.2)]) ⟨hx, hb, hml, hown, hts⟩ w (c_X6_letJoin l D ty a S M n q (hI) hA.2.1.2 x (hM) i (by omega) hnq) ⟨va_cnB 1 hts gX8_carryOut_X6_letJoin_n85 rfl rfl rfl (w.2.2.2.2.2 _ (List.mem_of_getElem? (i := 69) rfl)) (hts _ (List.mem_of_getElem? (i := 4) rfl)) hdN_X6_letJoin ⟨Nat.le_of_ble_eq_true rfl, Nat.le_of_ble_eq_true rfl⟩, (hts _ (List.mem_of_getElem? (i := 47) rfl)), (hts _ (List.mem_of_getElem? (i := 48) rfl))⟩ [2, 3, 4, 5, 6, 0, 1] (nB := 7) (by decide) rfl rfl rfl rfl 2 rfl rfl (ci := 10) rfl rfl rfl hl.1 rfl (Nat.le_of_ble_eq_true rfl) dX8_carryOut_114 ⟨(Nat.zero_le _), (Nat.zero_le _)⟩ (fun H locs w => ?_)
      refine lv_pop hx hb dX8_carryOut_117 rfl ?_
      refine lv_iconst (v := 1) hx hb dX8_carryOut_118 (by decide) ?_
      exact e_z (ty := .boolean) hx hb hr rfl hlocks (w.cast (by rw [hdW, gR_0 hW, dX, if_pos d_106, hcn0, hcn1, cN_nI (by omega)])) (by rw [hdW, c104]; rfl) dX8_carryOut_119 (Nat.le_refl _) (Nat.le_refl _)
    · have c104 := bI_1.mp c104
      refine lv_iconst (v := 0) hx hb dX8_carryOut_107 (by decide) ?_
      exact e_z (ty := .boolean) hx hb hr rfl hlocks (w.cast (by rw [hdW, gR_1 (wB_nz c104)])) (by rw [hdW, c104]; rfl) dX8_carryOut_108 (Nat.le_refl _) (Nat.le_refl _)
  by_cases d_108 : kd = 108
  · refine r_eq (y := 108) d_108 ?_
    refine lv_tableIn (tgt := 120) hx hb dX8_carryOut_1 (by decide) (by decide) rfl (by decide) ?_
    have hdW : dW S kd v = wLeave S v := by rw [dW, if_neg d_106, if_pos d_108]
    refine lv_aload_n hx hb dX8_carryOut_120 rfl (lv_at hl 0 rfl) ?_
    refine r_get (v' := .ref (a 0)) hx hb hts in_X8_carryOut_X8 hown w 0 0 rfl rfl (ci := 12) rfl 0 (by decide) (hts _ (List.mem_of_getElem? (i := 1) rfl)) rfl rfl rfl dX8_carryOut_121 ?_
    refine lv_iload_n hx hb dX8_carryOut_124 rfl (lv_at hl 2 rfl) ?_
    refine lv_aload_n hx hb dX8_carryOut_125 rfl (lv_at hl 0 rfl) ?_
    refine r_get (v' := .ref r) hx hb hts in_X8_carryOut_X8 hown w 0 0 rfl rfl (ci := 12) rfl 5 (by decide) (hts _ (List.mem_of_getElem? (i := 2) rfl)) rfl rfl rfl dX8_carryOut_126 ?_
    refine k_iVN (As := [.int v, .ref r]) (rest := []) (Rs := [ppB o (a 0) (b 0) (sn 0) (h 0) r (t 0) sb hs lf]) (Bs' := [ppB o (a 0) (b 0) (sn 0) (h 0) r (t 0) sb hs lf, rfW r (wLeave S v) f0 f1 f2 f3, stB a S, lnB ty a S, quB ty a S, weB a S, miB ty a M]) ⟨hx, hb, hml, hown, hts⟩ w (c_X6_refusesLeave l D ty a S M n q (hI) r f0 f1 f2 f3 v) ⟨va_cnB 2 hts gX8_carryOut_X6_refusesLeave_n89 rfl rfl rfl (w.2.2.2.2.2 _ (List.mem_of_getElem? (i := 76) rfl)) (hts _ (List.mem_of_getElem? (i := 4) rfl)) hdN_X6_refusesLeave ⟨Nat.le_of_ble_eq_true rfl, Nat.le_of_ble_eq_true rfl⟩, (hts _ (List.mem_of_getElem? (i := 101) rfl)), (hts _ (List.mem_of_getElem? (i := 102) rfl))⟩ [2, 3, 4, 5, 6, 1, 0] (nB := 7) (by decide) rfl rfl rfl rfl 2 rfl rfl (ci := 10) rfl rfl rfl hl.1 rfl (Nat.le_of_ble_eq_true rfl) dX8_carryOut_129 ⟨(Nat.zero_le _), (Nat.zero_le _)⟩ (fun H locs w => ?_)
    refine lv_if_eq (tgt := 137) hx hb dX8_carryOut_132 (by decide) (fun c132 => ?_) (fun c132 => ?_)
    · have c132 := bI_0.mp c132
      have hW := wB_z c132
      obtain ⟨i, hi, rfl, u, hu, hu2, hue⟩ := le_i hA hW
      have hq8 := hI.2.2.2.1
      refine lv_aload_n hx hb dX8_carryOut_137 rfl (lv_at hl 0 rfl) ?_
      refine r_get (v' := .ref (a 0)) hx hb hts in_X8_carryOut_X8 hown w 0 0 rfl rfl (ci := 12) rfl 0 (by decide) (hts _ (List.mem_of_getElem? (i := 1) rfl)) rfl rfl rfl dX8_carryOut_138 ?_
      refine lv_iload_n hx hb dX8_carryOut_141 rfl (lv_at hl 2 rfl) ?_
      refine k_iVN (As := [.int (nI i)]) (rest := []) (Rs := [ppB o (a 0) (b 0) (sn 0) (h 0) r (t 0) sb hs lf, rfW r (wLeave S (nI i)) f0 f1 f2 f3]) (Bs' := [ppB o (a 0) (b 0) (sn 0) (h 0) r (t 0) sb hs lf, rfW r (wLeave S (nI i)) f0 f1 f2 f3, stB a (sGo S q u), lnB ty a (sGo S q u), quB ty a (sGo S q u), weB a (sGo S q u), miB ty a M]) ⟨hx, hb, hml, hown, hts⟩ w (c_X6_letLeave l D ty a S M n q (hI) i u (hu) (hue)) ⟨va_cnB 1 hts gX8_carryOut_X6_letLeave_n94 rfl rfl rfl (w.2.2.2.2.2 _ (List.mem_of_getElem? (i := 77) rfl)) (hts _ (List.mem_of_getElem? (i := 4) rfl)) hdN_X6_letLeave ⟨Nat.le_of_ble_eq_true rfl, Nat.le_of_ble_eq_true rfl⟩, (hts _ (List.mem_of_getElem? (i := 104) rfl)), (hts _ (List.mem_of_getElem? (i := 105) rfl))⟩ [2, 3, 4, 5, 6, 0, 1] (nB := 7) (by decide) rfl rfl rfl rfl 2 rfl rfl (ci := 10) rfl rfl rfl hl.1 rfl (Nat.le_of_ble_eq_true rfl) dX8_carryOut_142 ⟨(Nat.zero_le _), (Nat.zero_le _)⟩ (fun H locs w => ?_)
      refine lv_pop hx hb dX8_carryOut_145 rfl ?_
      refine lv_iconst (v := 1) hx hb dX8_carryOut_146 (by decide) ?_
      exact e_z (ty := .boolean) hx hb hr rfl hlocks (w.cast (by rw [hdW, gR_0 hW, dX, if_neg d_106, if_pos d_108, hcn1, hu2, cN_nI (by omega)])) (by rw [hdW, c132]; rfl) dX8_carryOut_147 (Nat.le_refl _) (Nat.le_refl _)
    · have c132 := bI_1.mp c132
      refine lv_iconst (v := 0) hx hb dX8_carryOut_135 (by decide) ?_
      exact e_z (ty := .boolean) hx hb hr rfl hlocks (w.cast (by rw [hdW, gR_1 (wB_nz c132)])) (by rw [hdW, c132]; rfl) dX8_carryOut_136 (Nat.le_refl _) (Nat.le_refl _)
  by_cases d_100 : kd = 100
  · refine r_eq (y := 100) d_100 ?_
    refine lv_tableIn (tgt := 148) hx hb dX8_carryOut_1 (by decide) (by decide) rfl (by decide) ?_
    have hdW : dW S kd v = wDraw S v := by rw [dW, if_neg d_106, if_neg d_108, if_pos d_100]
    refine lv_aload_n hx hb dX8_carryOut_148 rfl (lv_at hl 0 rfl) ?_
    refine r_get (v' := .ref (a 0)) hx hb hts in_X8_carryOut_X8 hown w 0 0 rfl rfl (ci := 12) rfl 0 (by decide) (hts _ (List.mem_of_getElem? (i := 1) rfl)) rfl rfl rfl dX8_carryOut_149 ?_
    refine lv_iload_n hx hb dX8_carryOut_152 rfl (lv_at hl 2 rfl) ?_
    refine lv_aload_n hx hb dX8_carryOut_153 rfl (lv_at hl 0 rfl) ?_
    refine r_get (v' := .ref r) hx hb hts in_X8_carryOut_X8 hown w 0 0 rfl rfl (ci := 12) rfl 5 (by decide) (hts _ (List.mem_of_getElem? (i := 2) rfl)) rfl rfl rfl dX8_carryOut_154 ?_
    refine k_iVN (As := [.int v, .ref r]) (rest := []) (Rs := [ppB o (a 0) (b 0) (sn 0) (h 0) r (t 0) sb hs lf]) (Bs' := [ppB o (a 0) (b 0) (sn 0) (h 0) r (t 0) sb hs lf, rfW r (wDraw S v) f0 f1 f2 f3, stB a S, lnB ty a S, quB ty a S, weB a S, miB ty a M]) ⟨hx, hb, hml, hown, hts⟩ w (c_X6_refusesDraws l D ty a S M n q (hI) r f0 f1 f2 f3 v) ⟨va_cnB 2 hts gX8_carryOut_X6_refusesDraws_n97 rfl rfl rfl (w.2.2.2.2.2 _ (List.mem_of_getElem? (i := 78) rfl)) (hts _ (List.mem_of_getElem? (i := 4) rfl)) hdN_X6_refusesDraws ⟨Nat.le_of_ble_eq_true rfl, Nat.le_of_ble_eq_true rfl⟩, (hts _ (List.mem_of_getElem? (i := 107) rfl)), (hts _ (List.mem_of_getElem? (i := 108) rfl))⟩ [2, 3, 4, 5, 6, 1, 0] (nB := 7) (by decide) rfl rfl rfl rfl 2 rfl rfl (ci := 10) rfl rfl rfl hl.1 rfl (Nat.le_of_ble_eq_true rfl) dX8_carryOut_157 ⟨(Nat.zero_le _), (Nat.zero_le _)⟩ (fun H locs w => ?_)
    refine lv_if_eq (tgt := 165) hx hb dX8_carryOut_160 (by decide) (fun c160 => ?_) (fun c160 => ?_)
    · have c160 := bI_0.mp c160
      have hW := wB_z c160
      obtain ⟨j, hj, rfl⟩ := dr_i hA hW
      have hKK : ∀ k, k ≤ j → ∃ q' x', pSh (oDrawN k (S, M)).2.1 n q' ∧ cN ((oDrawN k (S, M)).2.1 122) ≤ 20 ∧ mOK (oDrawN k (S, M)).2.2 x' ∧ (k < j → 0 < q') := fun k hk => by
        obtain ⟨q', x', a1, a2, a3, a4⟩ := draw_K hA hM _ j rfl hj hW k hk
        exact ⟨q', x', a1, a2.2, a3, a4⟩
      refine lv_aload_n hx hb dX8_carryOut_165 rfl (lv_at hl 0 rfl) ?_
      refine r_get (v' := .ref (a 0)) hx hb hts in_X8_carryOut_X8 hown w 0 0 rfl rfl (ci := 12) rfl 0 (by decide) (hts _ (List.mem_of_getElem? (i := 1) rfl)) rfl rfl rfl dX8_carryOut_166 ?_
      refine lv_iload_n hx hb dX8_carryOut_169 rfl (lv_at hl 2 rfl) ?_
      refine k_iVN (As := [.int (nI j)]) (rest := []) (Rs := [ppB o (a 0) (b 0) (sn 0) (h 0) r (t 0) sb hs lf, rfW r (wDraw S (nI j)) f0 f1 f2 f3]) (Bs' := [ppB o (a 0) (b 0) (sn 0) (h 0) r (t 0) sb hs lf, rfW r (wDraw S (nI j)) f0 f1 f2 f3, stB a ((oDrawN j (S, M)).2.1), lnB ty a ((oDrawN j (S, M)).2.1), quB ty a ((oDrawN j (S, M)).2.1), weB a ((oDrawN j (S, M)).2.1), miB ty a ((oDrawN j (S, M)).2.2)]) ⟨hx, hb, hml, hown, hts⟩ w (c_X6_letDraw l D ty a S M n q (hI) j hj hKK) ⟨va_cnB 1 hts gX8_carryOut_X6_letDraw_n102 rfl rfl rfl (w.2.2.2.2.2 _ (List.mem_of_getElem? (i := 80) rfl)) (hts _ (List.mem_of_getElem? (i := 4) rfl)) hdN_X6_letDraw ⟨Nat.le_of_ble_eq_true rfl, Nat.le_of_ble_eq_true rfl⟩, (hts _ (List.mem_of_getElem? (i := 126) rfl)), (hts _ (List.mem_of_getElem? (i := 127) rfl))⟩ [2, 3, 4, 5, 6, 0, 1] (nB := 7) (by decide) rfl rfl rfl rfl 2 rfl rfl (ci := 10) rfl rfl rfl hl.1 rfl (Nat.le_of_ble_eq_true rfl) dX8_carryOut_170 ⟨(Nat.zero_le _), (Nat.zero_le _)⟩ (fun H locs w => ?_)
      refine lv_pop hx hb dX8_carryOut_173 rfl ?_
      refine lv_iconst (v := 1) hx hb dX8_carryOut_174 (by decide) ?_
      exact e_z (ty := .boolean) hx hb hr rfl hlocks (w.cast (by rw [hdW, gR_0 hW, dX, if_neg d_106, if_neg d_108, if_pos d_100, cN_nI (by omega)])) (by rw [hdW, c160]; rfl) dX8_carryOut_175 (Nat.le_refl _) (Nat.le_refl _)
    · have c160 := bI_1.mp c160
      refine lv_iconst (v := 0) hx hb dX8_carryOut_163 (by decide) ?_
      exact e_z (ty := .boolean) hx hb hr rfl hlocks (w.cast (by rw [hdW, gR_1 (wB_nz c160)])) (by rw [hdW, c160]; rfl) dX8_carryOut_164 (Nat.le_refl _) (Nat.le_refl _)
  by_cases d_110 : kd = 110
  · refine r_eq (y := 110) d_110 ?_
    refine lv_tableIn (tgt := 176) hx hb dX8_carryOut_1 (by decide) (by decide) rfl (by decide) ?_
    have hdW : dW S kd v = wNight v := by rw [dW, if_neg d_106, if_neg d_108, if_neg d_100, if_pos d_110]
    refine lv_aload_n hx hb dX8_carryOut_176 rfl (lv_at hl 0 rfl) ?_
    refine r_get (v' := .ref (a 0)) hx hb hts in_X8_carryOut_X8 hown w 0 0 rfl rfl (ci := 12) rfl 0 (by decide) (hts _ (List.mem_of_getElem? (i := 1) rfl)) rfl rfl rfl dX8_carryOut_177 ?_
    refine lv_iload_n hx hb dX8_carryOut_180 rfl (lv_at hl 2 rfl) ?_
    refine lv_aload_n hx hb dX8_carryOut_181 rfl (lv_at hl 0 rfl) ?_
    refine r_get (v' := .ref r) hx hb hts in_X8_carryOut_X8 hown w 0 0 rfl rfl (ci := 12) rfl 5 (by decide) (hts _ (List.mem_of_getElem? (i := 2) rfl)) rfl rfl rfl dX8_carryOut_182 ?_
    refine k_iVN (As := [.int v, .ref r]) (rest := []) (Rs := [ppB o (a 0) (b 0) (sn 0) (h 0) r (t 0) sb hs lf]) (Bs' := [ppB o (a 0) (b 0) (sn 0) (h 0) r (t 0) sb hs lf, rfW r (wNight v) f0 f1 f2 f3, stB a S, lnB ty a S, quB ty a S, weB a S, miB ty a M]) ⟨hx, hb, hml, hown, hts⟩ w (c_X6_refusesNights l D ty a S M n q (hI) r f0 f1 f2 f3 v) ⟨va_cnB 2 hts gX8_carryOut_X6_refusesNights_n129 rfl rfl rfl (w.2.2.2.2.2 _ (List.mem_of_getElem? (i := 87) rfl)) (hts _ (List.mem_of_getElem? (i := 4) rfl)) hdN_X6_refusesNights ⟨Nat.le_of_ble_eq_true rfl, Nat.le_of_ble_eq_true rfl⟩, (hts _ (List.mem_of_getElem? (i := 139) rfl)), (hts _ (List.mem_of_getElem? (i := 140) rfl))⟩ [2, 3, 4, 5, 6, 1, 0] (nB := 7) (by decide) rfl rfl rfl rfl 2 rfl rfl (ci := 10) rfl rfl rfl hl.1 rfl (Nat.le_of_ble_eq_true rfl) dX8_carryOut_185 ⟨(Nat.zero_le _), (Nat.zero_le _)⟩ (fun H locs w => ?_)
    refine lv_if_eq (tgt := 193) hx hb dX8_carryOut_188 (by decide) (fun c188 => ?_) (fun c188 => ?_)
    · have c188 := bI_0.mp c188
      have hW := wB_z c188
      obtain ⟨j, hj1, hj, rfl⟩ := pIn_nat (k := 50) (by omega) (ni_in hW)
      refine lv_aload_n hx hb dX8_carryOut_193 rfl (lv_at hl 0 rfl) ?_
      refine r_get (v' := .ref (a 0)) hx hb hts in_X8_carryOut_X8 hown w 0 0 rfl rfl (ci := 12) rfl 0 (by decide) (hts _ (List.mem_of_getElem? (i := 1) rfl)) rfl rfl rfl dX8_carryOut_194 ?_
      refine lv_iload_n hx hb dX8_carryOut_197 rfl (lv_at hl 2 rfl) ?_
      refine k_iVN (As := [.int (nI j)]) (rest := []) (Rs := [ppB o (a 0) (b 0) (sn 0) (h 0) r (t 0) sb hs lf, rfW r (wNight (nI j)) f0 f1 f2 f3]) (Bs' := [ppB o (a 0) (b 0) (sn 0) (h 0) r (t 0) sb hs lf, rfW r (wNight (nI j)) f0 f1 f2 f3, stB a (sNightN n j S), lnB ty a (sNightN n j S), quB ty a (sNightN n j S), weB a (sNightN n j S), miB ty a M]) ⟨hx, hb, hml, hown, hts⟩ w (c_X6_letNightsPass l D ty a S M n q (hI) j (by omega) (by omega)) ⟨va_cnB 1 hts gX8_carryOut_X6_letNightsPass_n134 rfl rfl rfl (w.2.2.2.2.2 _ (List.mem_of_getElem? (i := 88) rfl)) (hts _ (List.mem_of_getElem? (i := 4) rfl)) hdN_X6_letNightsPass ⟨Nat.le_of_ble_eq_true rfl, Nat.le_of_ble_eq_true rfl⟩, (hts _ (List.mem_of_getElem? (i := 142) rfl)), (hts _ (List.mem_of_getElem? (i := 143) rfl))⟩ [2, 3, 4, 5, 6, 0, 1] (nB := 7) (by decide) rfl rfl rfl rfl 2 rfl rfl (ci := 10) rfl rfl rfl hl.1 rfl (Nat.le_of_ble_eq_true rfl) dX8_carryOut_198 ⟨(Nat.zero_le _), (Nat.zero_le _)⟩ (fun H locs w => ?_)
      refine lv_pop hx hb dX8_carryOut_201 rfl ?_
      refine lv_iconst (v := 1) hx hb dX8_carryOut_202 (by decide) ?_
      exact e_z (ty := .boolean) hx hb hr rfl hlocks (w.cast (by rw [hdW, gR_0 hW, dX, if_neg d_106, if_neg d_108, if_neg d_100, if_pos d_110, hcn0, cN_nI (by omega)])) (by rw [hdW, c188]; rfl) dX8_carryOut_203 (Nat.le_refl _) (Nat.le_refl _)
    · have c188 := bI_1.mp c188
      refine lv_iconst (v := 0) hx hb dX8_carryOut_191 (by decide) ?_
      exact e_z (ty := .boolean) hx hb hr rfl hlocks (w.cast (by rw [hdW, gR_1 (wB_nz c188)])) (by rw [hdW, c188]; rfl) dX8_carryOut_192 (Nat.le_refl _) (Nat.le_refl _)
  by_cases d_114 : kd = 114
  · refine r_eq (y := 114) d_114 ?_
    refine lv_tableIn (tgt := 204) hx hb dX8_carryOut_1 (by decide) (by decide) rfl (by decide) ?_
    have hdW : dW S kd v = wRain v := by rw [dW, if_neg d_106, if_neg d_108, if_neg d_100, if_neg d_110, if_pos d_114]
    refine lv_aload_n hx hb dX8_carryOut_204 rfl (lv_at hl 0 rfl) ?_
    refine r_get (v' := .ref (a 0)) hx hb hts in_X8_carryOut_X8 hown w 0 0 rfl rfl (ci := 12) rfl 0 (by decide) (hts _ (List.mem_of_getElem? (i := 1) rfl)) rfl rfl rfl dX8_carryOut_205 ?_
    refine lv_iload_n hx hb dX8_carryOut_208 rfl (lv_at hl 2 rfl) ?_
    refine lv_aload_n hx hb dX8_carryOut_209 rfl (lv_at hl 0 rfl) ?_
    refine r_get (v' := .ref r) hx hb hts in_X8_carryOut_X8 hown w 0 0 rfl rfl (ci := 12) rfl 5 (by decide) (hts _ (List.mem_of_getElem? (i := 2) rfl)) rfl rfl rfl dX8_carryOut_210 ?_
    refine k_iVN (As := [.int v, .ref r]) (rest := []) (Rs := [ppB o (a 0) (b 0) (sn 0) (h 0) r (t 0) sb hs lf]) (Bs' := [ppB o (a 0) (b 0) (sn 0) (h 0) r (t 0) sb hs lf, rfW r (wRain v) f0 f1 f2 f3, stB a S, lnB ty a S, quB ty a S, weB a S, miB ty a M]) ⟨hx, hb, hml, hown, hts⟩ w (c_X6_refusesRain l D ty a S M n q (hI) r f0 f1 f2 f3 v) ⟨va_cnB 2 hts gX8_carryOut_X6_refusesRain_n115 rfl rfl rfl (w.2.2.2.2.2 _ (List.mem_of_getElem? (i := 85) rfl)) (hts _ (List.mem_of_getElem? (i := 4) rfl)) hdN_X6_refusesRain ⟨Nat.le_of_ble_eq_true rfl, Nat.le_of_ble_eq_true rfl⟩, (hts _ (List.mem_of_getElem? (i := 156) rfl)), (hts _ (List.mem_of_getElem? (i := 157) rfl))⟩ [2, 3, 4, 5, 6, 1, 0] (nB := 7) (by decide) rfl rfl rfl rfl 2 rfl rfl (ci := 10) rfl rfl rfl hl.1 rfl (Nat.le_of_ble_eq_true rfl) dX8_carryOut_213 ⟨(Nat.zero_le _), (Nat.zero_le _)⟩ (fun H locs w => ?_)
    refine lv_if_eq (tgt := 221) hx hb dX8_carryOut_216 (by decide) (fun c216 => ?_) (fun c216 => ?_)
    · have c216 := bI_0.mp c216
      have hW := wB_z c216
      refine lv_aload_n hx hb dX8_carryOut_221 rfl (lv_at hl 0 rfl) ?_
      refine r_get (v' := .ref (a 0)) hx hb hts in_X8_carryOut_X8 hown w 0 0 rfl rfl (ci := 12) rfl 0 (by decide) (hts _ (List.mem_of_getElem? (i := 1) rfl)) rfl rfl rfl dX8_carryOut_222 ?_
      refine r_getN (v' := .ref (a 19)) hx hb hts in_X8_carryOut_X6 hown w 2 0 rfl rfl (ci := 10) rfl 2 (by decide) (w.2.2.2.2.2 _ (List.mem_of_getElem? (i := 35) rfl)) rfl rfl rfl dX8_carryOut_225 ?_
      refine lv_iload_n hx hb dX8_carryOut_228 rfl (lv_at hl 2 rfl) ?_
      refine k_iVN (As := [.int v]) (rest := []) (Rs := [ppB o (a 0) (b 0) (sn 0) (h 0) r (t 0) sb hs lf, rfW r (wRain v) f0 f1 f2 f3, stB a S, lnB ty a S, quB ty a S, miB ty a M]) (Bs' := [ppB o (a 0) (b 0) (sn 0) (h 0) r (t 0) sb hs lf, rfW r (wRain v) f0 f1 f2 f3, stB a S, lnB ty a S, quB ty a S, weB a (upd S 208 v), miB ty a M]) ⟨hx, hb, hml, hown, hts⟩ w (c_X7_changeRain l D ty a S v) ⟨va_cnB 1 hts gX8_carryOut_X7_changeRain_n124 rfl rfl rfl (w.2.2.2.2.2 _ (List.mem_of_getElem? (i := 86) rfl)) (hts _ (List.mem_of_getElem? (i := 118) rfl)) hdN_X7_changeRain ⟨Nat.le_of_ble_eq_true rfl, Nat.le_of_ble_eq_true rfl⟩, (hts _ (List.mem_of_getElem? (i := 159) rfl)), (hts _ (List.mem_of_getElem? (i := 160) rfl))⟩ [5, 0, 1, 2, 3, 4, 6] (nB := 7) (by decide) rfl rfl rfl rfl 5 rfl rfl (ci := 11) rfl rfl rfl hl.1 rfl (Nat.le_of_ble_eq_true rfl) dX8_carryOut_229 ⟨(Nat.zero_le _), (Nat.zero_le _)⟩ (fun H locs w => ?_)
      refine lv_pop hx hb dX8_carryOut_232 rfl ?_
      refine lv_iconst (v := 1) hx hb dX8_carryOut_233 (by decide) ?_
      exact e_z (ty := .boolean) hx hb hr rfl hlocks ((w.cast (h10 (C := []) rain_w5)).cast (by rw [hdW, gR_0 hW, dX, if_neg d_106, if_neg d_108, if_neg d_100, if_neg d_110, if_pos d_114]; rfl)) (by rw [hdW, c216]; rfl) dX8_carryOut_234 (Nat.le_refl _) (Nat.le_refl _)
    · have c216 := bI_1.mp c216
      refine lv_iconst (v := 0) hx hb dX8_carryOut_219 (by decide) ?_
      exact e_z (ty := .boolean) hx hb hr rfl hlocks (w.cast (by rw [hdW, gR_1 (wB_nz c216)])) (by rw [hdW, c216]; rfl) dX8_carryOut_220 (Nat.le_refl _) (Nat.le_refl _)
  by_cases d_118 : kd = 118
  · refine r_eq (y := 118) d_118 ?_
    refine lv_tableIn (tgt := 235) hx hb dX8_carryOut_1 (by decide) (by decide) rfl (by decide) ?_
    have hdW : dW S kd v = wVote S := by rw [dW, if_neg d_106, if_neg d_108, if_neg d_100, if_neg d_110, if_neg d_114, if_pos d_118]
    refine lv_aload_n hx hb dX8_carryOut_235 rfl (lv_at hl 0 rfl) ?_
    refine r_get (v' := .ref (a 0)) hx hb hts in_X8_carryOut_X8 hown w 0 0 rfl rfl (ci := 12) rfl 0 (by decide) (hts _ (List.mem_of_getElem? (i := 1) rfl)) rfl rfl rfl dX8_carryOut_236 ?_
    refine lv_aload_n hx hb dX8_carryOut_239 rfl (lv_at hl 0 rfl) ?_
    refine r_get (v' := .ref r) hx hb hts in_X8_carryOut_X8 hown w 0 0 rfl rfl (ci := 12) rfl 5 (by decide) (hts _ (List.mem_of_getElem? (i := 2) rfl)) rfl rfl rfl dX8_carryOut_240 ?_
    refine k_iVN (As := [.ref r]) (rest := []) (Rs := [ppB o (a 0) (b 0) (sn 0) (h 0) r (t 0) sb hs lf]) (Bs' := [ppB o (a 0) (b 0) (sn 0) (h 0) r (t 0) sb hs lf, rfW r (wVote S) f0 f1 f2 f3, stB a S, lnB ty a S, quB ty a S, weB a S, miB ty a M]) ⟨hx, hb, hml, hown, hts⟩ w (c_X6_refusesVote l D ty a S M n q (hI) r f0 f1 f2 f3 ) ⟨va_cnB 1 hts gX8_carryOut_X6_refusesVote_n105 rfl rfl rfl (w.2.2.2.2.2 _ (List.mem_of_getElem? (i := 82) rfl)) (hts _ (List.mem_of_getElem? (i := 4) rfl)) hdN_X6_refusesVote ⟨Nat.le_of_ble_eq_true rfl, Nat.le_of_ble_eq_true rfl⟩, (hts _ (List.mem_of_getElem? (i := 162) rfl)), (hts _ (List.mem_of_getElem? (i := 163) rfl))⟩ [2, 3, 4, 5, 6, 1, 0] (nB := 7) (by decide) rfl rfl rfl rfl 2 rfl rfl (ci := 10) rfl rfl rfl hl.1 rfl (Nat.le_of_ble_eq_true rfl) dX8_carryOut_243 ⟨(Nat.zero_le _), (Nat.zero_le _)⟩ (fun H locs w => ?_)
    refine lv_if_eq (tgt := 251) hx hb dX8_carryOut_246 (by decide) (fun c246 => ?_) (fun c246 => ?_)
    · have c246 := bI_0.mp c246
      have hW := wB_z c246
      refine lv_aload_n hx hb dX8_carryOut_251 rfl (lv_at hl 0 rfl) ?_
      refine r_get (v' := .ref (a 0)) hx hb hts in_X8_carryOut_X8 hown w 0 0 rfl rfl (ci := 12) rfl 0 (by decide) (hts _ (List.mem_of_getElem? (i := 1) rfl)) rfl rfl rfl dX8_carryOut_252 ?_
      refine k_iVN (As := []) (rest := []) (Rs := [ppB o (a 0) (b 0) (sn 0) (h 0) r (t 0) sb hs lf, rfW r (wVote S) f0 f1 f2 f3]) (Bs' := [ppB o (a 0) (b 0) (sn 0) (h 0) r (t 0) sb hs lf, rfW r (wVote S) f0 f1 f2 f3, stB a ((oVote (S, M)).2.1), lnB ty a ((oVote (S, M)).2.1), quB ty a ((oVote (S, M)).2.1), weB a ((oVote (S, M)).2.1), miB ty a ((oVote (S, M)).2.2)]) ⟨hx, hb, hml, hown, hts⟩ w (c_X6_letVote l D ty a S M n q (hI) hA.2.1.2 x (hM)) ⟨va_cnB 0 hts gX8_carryOut_X6_letVote_n111 rfl rfl rfl (w.2.2.2.2.2 _ (List.mem_of_getElem? (i := 83) rfl)) (hts _ (List.mem_of_getElem? (i := 4) rfl)) hdN_X6_letVote ⟨Nat.le_of_ble_eq_true rfl, Nat.le_of_ble_eq_true rfl⟩, (hts _ (List.mem_of_getElem? (i := 165) rfl)), (hts _ (List.mem_of_getElem? (i := 166) rfl))⟩ [2, 3, 4, 5, 6, 0, 1] (nB := 7) (by decide) rfl rfl rfl rfl 2 rfl rfl (ci := 10) rfl rfl rfl hl.1 rfl (Nat.le_of_ble_eq_true rfl) dX8_carryOut_255 ⟨(Nat.zero_le _), (Nat.zero_le _)⟩ (fun H locs w => ?_)
      refine lv_pop hx hb dX8_carryOut_258 rfl ?_
      refine lv_iconst (v := 1) hx hb dX8_carryOut_259 (by decide) ?_
      exact e_z (ty := .boolean) hx hb hr rfl hlocks (w.cast (by rw [hdW, gR_0 hW, dX, if_neg d_106, if_neg d_108, if_neg d_100, if_neg d_110, if_neg d_114, if_pos d_118])) (by rw [hdW, c246]; rfl) dX8_carryOut_260 (Nat.le_refl _) (Nat.le_refl _)
    · have c246 := bI_1.mp c246
      refine lv_iconst (v := 0) hx hb dX8_carryOut_249 (by decide) ?_
      exact e_z (ty := .boolean) hx hb hr rfl hlocks (w.cast (by rw [hdW, gR_1 (wB_nz c246)])) (by rw [hdW, c246]; rfl) dX8_carryOut_250 (Nat.le_refl _) (Nat.le_refl _)
  by_cases d_101 : kd = 101
  · refine r_eq (y := 101) d_101 ?_
    refine lv_tableIn (tgt := 261) hx hb dX8_carryOut_1 (by decide) (by decide) rfl (by decide) ?_
    have hdW : dW S kd v = wLeather S := by rw [dW, if_neg d_106, if_neg d_108, if_neg d_100, if_neg d_110, if_neg d_114, if_neg d_118]
    refine lv_aload_n hx hb dX8_carryOut_261 rfl (lv_at hl 0 rfl) ?_
    refine r_get (v' := .ref (a 0)) hx hb hts in_X8_carryOut_X8 hown w 0 0 rfl rfl (ci := 12) rfl 0 (by decide) (hts _ (List.mem_of_getElem? (i := 1) rfl)) rfl rfl rfl dX8_carryOut_262 ?_
    refine lv_aload_n hx hb dX8_carryOut_265 rfl (lv_at hl 0 rfl) ?_
    refine r_get (v' := .ref r) hx hb hts in_X8_carryOut_X8 hown w 0 0 rfl rfl (ci := 12) rfl 5 (by decide) (hts _ (List.mem_of_getElem? (i := 2) rfl)) rfl rfl rfl dX8_carryOut_266 ?_
    refine k_iVN (As := [.ref r]) (rest := []) (Rs := [ppB o (a 0) (b 0) (sn 0) (h 0) r (t 0) sb hs lf]) (Bs' := [ppB o (a 0) (b 0) (sn 0) (h 0) r (t 0) sb hs lf, rfW r (wLeather S) f0 f1 f2 f3, stB a S, lnB ty a S, quB ty a S, weB a S, miB ty a M]) ⟨hx, hb, hml, hown, hts⟩ w (c_X6_refusesLeather l D ty a S M n q (hI) r f0 f1 f2 f3 ) ⟨va_cnB 1 hts gX8_carryOut_X6_refusesLeather_n145 rfl rfl rfl (w.2.2.2.2.2 _ (List.mem_of_getElem? (i := 92) rfl)) (hts _ (List.mem_of_getElem? (i := 4) rfl)) hdN_X6_refusesLeather ⟨Nat.le_of_ble_eq_true rfl, Nat.le_of_ble_eq_true rfl⟩, (hts _ (List.mem_of_getElem? (i := 180) rfl)), (hts _ (List.mem_of_getElem? (i := 181) rfl))⟩ [2, 3, 4, 5, 6, 1, 0] (nB := 7) (by decide) rfl rfl rfl rfl 2 rfl rfl (ci := 10) rfl rfl rfl hl.1 rfl (Nat.le_of_ble_eq_true rfl) dX8_carryOut_269 ⟨(Nat.zero_le _), (Nat.zero_le _)⟩ (fun H locs w => ?_)
    refine lv_if_eq (tgt := 277) hx hb dX8_carryOut_272 (by decide) (fun c272 => ?_) (fun c272 => ?_)
    · have c272 := bI_0.mp c272
      have hW := wB_z c272
      refine lv_aload_n hx hb dX8_carryOut_277 rfl (lv_at hl 0 rfl) ?_
      refine r_get (v' := .ref (a 0)) hx hb hts in_X8_carryOut_X8 hown w 0 0 rfl rfl (ci := 12) rfl 0 (by decide) (hts _ (List.mem_of_getElem? (i := 1) rfl)) rfl rfl rfl dX8_carryOut_278 ?_
      refine k_iVN (As := []) (rest := []) (Rs := [ppB o (a 0) (b 0) (sn 0) (h 0) r (t 0) sb hs lf, rfW r (wLeather S) f0 f1 f2 f3]) (Bs' := [ppB o (a 0) (b 0) (sn 0) (h 0) r (t 0) sb hs lf, rfW r (wLeather S) f0 f1 f2 f3, stB a ((oRenew (S, M)).2.1), lnB ty a ((oRenew (S, M)).2.1), quB ty a ((oRenew (S, M)).2.1), weB a ((oRenew (S, M)).2.1), miB ty a ((oRenew (S, M)).2.2)]) ⟨hx, hb, hml, hown, hts⟩ w (c_X6_changeLeather l D ty a S M n q (hI) hA.2.1.2 x (hM)) ⟨va_cnB 0 hts gX8_carryOut_X6_changeLeather_n150 rfl rfl rfl (w.2.2.2.2.2 _ (List.mem_of_getElem? (i := 93) rfl)) (hts _ (List.mem_of_getElem? (i := 4) rfl)) hdN_X6_changeLeather ⟨Nat.le_of_ble_eq_true rfl, Nat.le_of_ble_eq_true rfl⟩, (hts _ (List.mem_of_getElem? (i := 184) rfl)), (hts _ (List.mem_of_getElem? (i := 185) rfl))⟩ [2, 3, 4, 5, 6, 0, 1] (nB := 7) (by decide) rfl rfl rfl rfl 2 rfl rfl (ci := 10) rfl rfl rfl hl.1 rfl (Nat.le_of_ble_eq_true rfl) dX8_carryOut_281 ⟨(Nat.zero_le _), (Nat.zero_le _)⟩ (fun H locs w => ?_)
      refine lv_pop hx hb dX8_carryOut_284 rfl ?_
      refine lv_iconst (v := 1) hx hb dX8_carryOut_285 (by decide) ?_
      exact e_z (ty := .boolean) hx hb hr rfl hlocks (w.cast (by rw [hdW, gR_0 hW, dX, if_neg d_106, if_neg d_108, if_neg d_100, if_neg d_110, if_neg d_114, if_neg d_118])) (by rw [hdW, c272]; rfl) dX8_carryOut_286 (Nat.le_refl _) (Nat.le_refl _)
    · have c272 := bI_1.mp c272
      refine lv_iconst (v := 0) hx hb dX8_carryOut_275 (by decide) ?_
      exact e_z (ty := .boolean) hx hb hr rfl hlocks (w.cast (by rw [hdW, gR_1 (wB_nz c272)])) (by rw [hdW, c272]; rfl) dX8_carryOut_276 (Nat.le_refl _) (Nat.le_refl _)
  by_cases d_102 : kd = 102
  · refine r_eq (y := 102) d_102 ?_
    refine lv_tableIn (tgt := 261) hx hb dX8_carryOut_1 (by decide) (by decide) rfl (by decide) ?_
    have hdW : dW S kd v = wLeather S := by rw [dW, if_neg d_106, if_neg d_108, if_neg d_100, if_neg d_110, if_neg d_114, if_neg d_118]
    refine lv_aload_n hx hb dX8_carryOut_261 rfl (lv_at hl 0 rfl) ?_
    refine r_get (v' := .ref (a 0)) hx hb hts in_X8_carryOut_X8 hown w 0 0 rfl rfl (ci := 12) rfl 0 (by decide) (hts _ (List.mem_of_getElem? (i := 1) rfl)) rfl rfl rfl dX8_carryOut_262 ?_
    refine lv_aload_n hx hb dX8_carryOut_265 rfl (lv_at hl 0 rfl) ?_
    refine r_get (v' := .ref r) hx hb hts in_X8_carryOut_X8 hown w 0 0 rfl rfl (ci := 12) rfl 5 (by decide) (hts _ (List.mem_of_getElem? (i := 2) rfl)) rfl rfl rfl dX8_carryOut_266 ?_
    refine k_iVN (As := [.ref r]) (rest := []) (Rs := [ppB o (a 0) (b 0) (sn 0) (h 0) r (t 0) sb hs lf]) (Bs' := [ppB o (a 0) (b 0) (sn 0) (h 0) r (t 0) sb hs lf, rfW r (wLeather S) f0 f1 f2 f3, stB a S, lnB ty a S, quB ty a S, weB a S, miB ty a M]) ⟨hx, hb, hml, hown, hts⟩ w (c_X6_refusesLeather l D ty a S M n q (hI) r f0 f1 f2 f3 ) ⟨va_cnB 1 hts gX8_carryOut_X6_refusesLeather_n145 rfl rfl rfl (w.2.2.2.2.2 _ (List.mem_of_getElem? (i := 92) rfl)) (hts _ (List.mem_of_getElem? (i := 4) rfl)) hdN_X6_refusesLeather ⟨Nat.le_of_ble_eq_true rfl, Nat.le_of_ble_eq_true rfl⟩, (hts _ (List.mem_of_getElem? (i := 180) rfl)), (hts _ (List.mem_of_getElem? (i := 181) rfl))⟩ [2, 3, 4, 5, 6, 1, 0] (nB := 7) (by decide) rfl rfl rfl rfl 2 rfl rfl (ci := 10) rfl rfl rfl hl.1 rfl (Nat.le_of_ble_eq_true rfl) dX8_carryOut_269 ⟨(Nat.zero_le _), (Nat.zero_le _)⟩ (fun H locs w => ?_)
    refine lv_if_eq (tgt := 277) hx hb dX8_carryOut_272 (by decide) (fun c272 => ?_) (fun c272 => ?_)
    · have c272 := bI_0.mp c272
      have hW := wB_z c272
      refine lv_aload_n hx hb dX8_carryOut_277 rfl (lv_at hl 0 rfl) ?_
      refine r_get (v' := .ref (a 0)) hx hb hts in_X8_carryOut_X8 hown w 0 0 rfl rfl (ci := 12) rfl 0 (by decide) (hts _ (List.mem_of_getElem? (i := 1) rfl)) rfl rfl rfl dX8_carryOut_278 ?_
      refine k_iVN (As := []) (rest := []) (Rs := [ppB o (a 0) (b 0) (sn 0) (h 0) r (t 0) sb hs lf, rfW r (wLeather S) f0 f1 f2 f3]) (Bs' := [ppB o (a 0) (b 0) (sn 0) (h 0) r (t 0) sb hs lf, rfW r (wLeather S) f0 f1 f2 f3, stB a ((oRenew (S, M)).2.1), lnB ty a ((oRenew (S, M)).2.1), quB ty a ((oRenew (S, M)).2.1), weB a ((oRenew (S, M)).2.1), miB ty a ((oRenew (S, M)).2.2)]) ⟨hx, hb, hml, hown, hts⟩ w (c_X6_changeLeather l D ty a S M n q (hI) hA.2.1.2 x (hM)) ⟨va_cnB 0 hts gX8_carryOut_X6_changeLeather_n150 rfl rfl rfl (w.2.2.2.2.2 _ (List.mem_of_getElem? (i := 93) rfl)) (hts _ (List.mem_of_getElem? (i := 4) rfl)) hdN_X6_changeLeather ⟨Nat.le_of_ble_eq_true rfl, Nat.le_of_ble_eq_true rfl⟩, (hts _ (List.mem_of_getElem? (i := 184) rfl)), (hts _ (List.mem_of_getElem? (i := 185) rfl))⟩ [2, 3, 4, 5, 6, 0, 1] (nB := 7) (by decide) rfl rfl rfl rfl 2 rfl rfl (ci := 10) rfl rfl rfl hl.1 rfl (Nat.le_of_ble_eq_true rfl) dX8_carryOut_281 ⟨(Nat.zero_le _), (Nat.zero_le _)⟩ (fun H locs w => ?_)
      refine lv_pop hx hb dX8_carryOut_284 rfl ?_
      refine lv_iconst (v := 1) hx hb dX8_carryOut_285 (by decide) ?_
      exact e_z (ty := .boolean) hx hb hr rfl hlocks (w.cast (by rw [hdW, gR_0 hW, dX, if_neg d_106, if_neg d_108, if_neg d_100, if_neg d_110, if_neg d_114, if_neg d_118])) (by rw [hdW, c272]; rfl) dX8_carryOut_286 (Nat.le_refl _) (Nat.le_refl _)
    · have c272 := bI_1.mp c272
      refine lv_iconst (v := 0) hx hb dX8_carryOut_275 (by decide) ?_
      exact e_z (ty := .boolean) hx hb hr rfl hlocks (w.cast (by rw [hdW, gR_1 (wB_nz c272)])) (by rw [hdW, c272]; rfl) dX8_carryOut_276 (Nat.le_refl _) (Nat.le_refl _)
  by_cases d_103 : kd = 103
  · refine r_eq (y := 103) d_103 ?_
    refine lv_tableIn (tgt := 261) hx hb dX8_carryOut_1 (by decide) (by decide) rfl (by decide) ?_
    have hdW : dW S kd v = wLeather S := by rw [dW, if_neg d_106, if_neg d_108, if_neg d_100, if_neg d_110, if_neg d_114, if_neg d_118]
    refine lv_aload_n hx hb dX8_carryOut_261 rfl (lv_at hl 0 rfl) ?_
    refine r_get (v' := .ref (a 0)) hx hb hts in_X8_carryOut_X8 hown w 0 0 rfl rfl (ci := 12) rfl 0 (by decide) (hts _ (List.mem_of_getElem? (i := 1) rfl)) rfl rfl rfl dX8_carryOut_262 ?_
    refine lv_aload_n hx hb dX8_carryOut_265 rfl (lv_at hl 0 rfl) ?_
    refine r_get (v' := .ref r) hx hb hts in_X8_carryOut_X8 hown w 0 0 rfl rfl (ci := 12) rfl 5 (by decide) (hts _ (List.mem_of_getElem? (i := 2) rfl)) rfl rfl rfl dX8_carryOut_266 ?_
    refine k_iVN (As := [.ref r]) (rest := []) (Rs := [ppB o (a 0) (b 0) (sn 0) (h 0) r (t 0) sb hs lf]) (Bs' := [ppB o (a 0) (b 0) (sn 0) (h 0) r (t 0) sb hs lf, rfW r (wLeather S) f0 f1 f2 f3, stB a S, lnB ty a S, quB ty a S, weB a S, miB ty a M]) ⟨hx, hb, hml, hown, hts⟩ w (c_X6_refusesLeather l D ty a S M n q (hI) r f0 f1 f2 f3 ) ⟨va_cnB 1 hts gX8_carryOut_X6_refusesLeather_n145 rfl rfl rfl (w.2.2.2.2.2 _ (List.mem_of_getElem? (i := 92) rfl)) (hts _ (List.mem_of_getElem? (i := 4) rfl)) hdN_X6_refusesLeather ⟨Nat.le_of_ble_eq_true rfl, Nat.le_of_ble_eq_true rfl⟩, (hts _ (List.mem_of_getElem? (i := 180) rfl)), (hts _ (List.mem_of_getElem? (i := 181) rfl))⟩ [2, 3, 4, 5, 6, 1, 0] (nB := 7) (by decide) rfl rfl rfl rfl 2 rfl rfl (ci := 10) rfl rfl rfl hl.1 rfl (Nat.le_of_ble_eq_true rfl) dX8_carryOut_269 ⟨(Nat.zero_le _), (Nat.zero_le _)⟩ (fun H locs w => ?_)
    refine lv_if_eq (tgt := 277) hx hb dX8_carryOut_272 (by decide) (fun c272 => ?_) (fun c272 => ?_)
    · have c272 := bI_0.mp c272
      have hW := wB_z c272
      refine lv_aload_n hx hb dX8_carryOut_277 rfl (lv_at hl 0 rfl) ?_
      refine r_get (v' := .ref (a 0)) hx hb hts in_X8_carryOut_X8 hown w 0 0 rfl rfl (ci := 12) rfl 0 (by decide) (hts _ (List.mem_of_getElem? (i := 1) rfl)) rfl rfl rfl dX8_carryOut_278 ?_
      refine k_iVN (As := []) (rest := []) (Rs := [ppB o (a 0) (b 0) (sn 0) (h 0) r (t 0) sb hs lf, rfW r (wLeather S) f0 f1 f2 f3]) (Bs' := [ppB o (a 0) (b 0) (sn 0) (h 0) r (t 0) sb hs lf, rfW r (wLeather S) f0 f1 f2 f3, stB a ((oRenew (S, M)).2.1), lnB ty a ((oRenew (S, M)).2.1), quB ty a ((oRenew (S, M)).2.1), weB a ((oRenew (S, M)).2.1), miB ty a ((oRenew (S, M)).2.2)]) ⟨hx, hb, hml, hown, hts⟩ w (c_X6_changeLeather l D ty a S M n q (hI) hA.2.1.2 x (hM)) ⟨va_cnB 0 hts gX8_carryOut_X6_changeLeather_n150 rfl rfl rfl (w.2.2.2.2.2 _ (List.mem_of_getElem? (i := 93) rfl)) (hts _ (List.mem_of_getElem? (i := 4) rfl)) hdN_X6_changeLeather ⟨Nat.le_of_ble_eq_true rfl, Nat.le_of_ble_eq_true rfl⟩, (hts _ (List.mem_of_getElem? (i := 184) rfl)), (hts _ (List.mem_of_getElem? (i := 185) rfl))⟩ [2, 3, 4, 5, 6, 0, 1] (nB := 7) (by decide) rfl rfl rfl rfl 2 rfl rfl (ci := 10) rfl rfl rfl hl.1 rfl (Nat.le_of_ble_eq_true rfl) dX8_carryOut_281 ⟨(Nat.zero_le _), (Nat.zero_le _)⟩ (fun H locs w => ?_)
      refine lv_pop hx hb dX8_carryOut_284 rfl ?_
      refine lv_iconst (v := 1) hx hb dX8_carryOut_285 (by decide) ?_
      exact e_z (ty := .boolean) hx hb hr rfl hlocks (w.cast (by rw [hdW, gR_0 hW, dX, if_neg d_106, if_neg d_108, if_neg d_100, if_neg d_110, if_neg d_114, if_neg d_118])) (by rw [hdW, c272]; rfl) dX8_carryOut_286 (Nat.le_refl _) (Nat.le_refl _)
    · have c272 := bI_1.mp c272
      refine lv_iconst (v := 0) hx hb dX8_carryOut_275 (by decide) ?_
      exact e_z (ty := .boolean) hx hb hr rfl hlocks (w.cast (by rw [hdW, gR_1 (wB_nz c272)])) (by rw [hdW, c272]; rfl) dX8_carryOut_276 (Nat.le_refl _) (Nat.le_refl _)
  by_cases d_104 : kd = 104
  · refine r_eq (y := 104) d_104 ?_
    refine lv_tableIn (tgt := 261) hx hb dX8_carryOut_1 (by decide) (by decide) rfl (by decide) ?_
    have hdW : dW S kd v = wLeather S := by rw [dW, if_neg d_106, if_neg d_108, if_neg d_100, if_neg d_110, if_neg d_114, if_neg d_118]
    refine lv_aload_n hx hb dX8_carryOut_261 rfl (lv_at hl 0 rfl) ?_
    refine r_get (v' := .ref (a 0)) hx hb hts in_X8_carryOut_X8 hown w 0 0 rfl rfl (ci := 12) rfl 0 (by decide) (hts _ (List.mem_of_getElem? (i := 1) rfl)) rfl rfl rfl dX8_carryOut_262 ?_
    refine lv_aload_n hx hb dX8_carryOut_265 rfl (lv_at hl 0 rfl) ?_
    refine r_get (v' := .ref r) hx hb hts in_X8_carryOut_X8 hown w 0 0 rfl rfl (ci := 12) rfl 5 (by decide) (hts _ (List.mem_of_getElem? (i := 2) rfl)) rfl rfl rfl dX8_carryOut_266 ?_
    refine k_iVN (As := [.ref r]) (rest := []) (Rs := [ppB o (a 0) (b 0) (sn 0) (h 0) r (t 0) sb hs lf]) (Bs' := [ppB o (a 0) (b 0) (sn 0) (h 0) r (t 0) sb hs lf, rfW r (wLeather S) f0 f1 f2 f3, stB a S, lnB ty a S, quB ty a S, weB a S, miB ty a M]) ⟨hx, hb, hml, hown, hts⟩ w (c_X6_refusesLeather l D ty a S M n q (hI) r f0 f1 f2 f3 ) ⟨va_cnB 1 hts gX8_carryOut_X6_refusesLeather_n145 rfl rfl rfl (w.2.2.2.2.2 _ (List.mem_of_getElem? (i := 92) rfl)) (hts _ (List.mem_of_getElem? (i := 4) rfl)) hdN_X6_refusesLeather ⟨Nat.le_of_ble_eq_true rfl, Nat.le_of_ble_eq_true rfl⟩, (hts _ (List.mem_of_getElem? (i := 180) rfl)), (hts _ (List.mem_of_getElem? (i := 181) rfl))⟩ [2, 3, 4, 5, 6, 1, 0] (nB := 7) (by decide) rfl rfl rfl rfl 2 rfl rfl (ci := 10) rfl rfl rfl hl.1 rfl (Nat.le_of_ble_eq_true rfl) dX8_carryOut_269 ⟨(Nat.zero_le _), (Nat.zero_le _)⟩ (fun H locs w => ?_)
    refine lv_if_eq (tgt := 277) hx hb dX8_carryOut_272 (by decide) (fun c272 => ?_) (fun c272 => ?_)
    · have c272 := bI_0.mp c272
      have hW := wB_z c272
      refine lv_aload_n hx hb dX8_carryOut_277 rfl (lv_at hl 0 rfl) ?_
      refine r_get (v' := .ref (a 0)) hx hb hts in_X8_carryOut_X8 hown w 0 0 rfl rfl (ci := 12) rfl 0 (by decide) (hts _ (List.mem_of_getElem? (i := 1) rfl)) rfl rfl rfl dX8_carryOut_278 ?_
      refine k_iVN (As := []) (rest := []) (Rs := [ppB o (a 0) (b 0) (sn 0) (h 0) r (t 0) sb hs lf, rfW r (wLeather S) f0 f1 f2 f3]) (Bs' := [ppB o (a 0) (b 0) (sn 0) (h 0) r (t 0) sb hs lf, rfW r (wLeather S) f0 f1 f2 f3, stB a ((oRenew (S, M)).2.1), lnB ty a ((oRenew (S, M)).2.1), quB ty a ((oRenew (S, M)).2.1), weB a ((oRenew (S, M)).2.1), miB ty a ((oRenew (S, M)).2.2)]) ⟨hx, hb, hml, hown, hts⟩ w (c_X6_changeLeather l D ty a S M n q (hI) hA.2.1.2 x (hM)) ⟨va_cnB 0 hts gX8_carryOut_X6_changeLeather_n150 rfl rfl rfl (w.2.2.2.2.2 _ (List.mem_of_getElem? (i := 93) rfl)) (hts _ (List.mem_of_getElem? (i := 4) rfl)) hdN_X6_changeLeather ⟨Nat.le_of_ble_eq_true rfl, Nat.le_of_ble_eq_true rfl⟩, (hts _ (List.mem_of_getElem? (i := 184) rfl)), (hts _ (List.mem_of_getElem? (i := 185) rfl))⟩ [2, 3, 4, 5, 6, 0, 1] (nB := 7) (by decide) rfl rfl rfl rfl 2 rfl rfl (ci := 10) rfl rfl rfl hl.1 rfl (Nat.le_of_ble_eq_true rfl) dX8_carryOut_281 ⟨(Nat.zero_le _), (Nat.zero_le _)⟩ (fun H locs w => ?_)
      refine lv_pop hx hb dX8_carryOut_284 rfl ?_
      refine lv_iconst (v := 1) hx hb dX8_carryOut_285 (by decide) ?_
      exact e_z (ty := .boolean) hx hb hr rfl hlocks (w.cast (by rw [hdW, gR_0 hW, dX, if_neg d_106, if_neg d_108, if_neg d_100, if_neg d_110, if_neg d_114, if_neg d_118])) (by rw [hdW, c272]; rfl) dX8_carryOut_286 (Nat.le_refl _) (Nat.le_refl _)
    · have c272 := bI_1.mp c272
      refine lv_iconst (v := 0) hx hb dX8_carryOut_275 (by decide) ?_
      exact e_z (ty := .boolean) hx hb hr rfl hlocks (w.cast (by rw [hdW, gR_1 (wB_nz c272)])) (by rw [hdW, c272]; rfl) dX8_carryOut_276 (Nat.le_refl _) (Nat.le_refl _)
  by_cases d_105 : kd = 105
  · refine r_eq (y := 105) d_105 ?_
    refine lv_tableIn (tgt := 261) hx hb dX8_carryOut_1 (by decide) (by decide) rfl (by decide) ?_
    have hdW : dW S kd v = wLeather S := by rw [dW, if_neg d_106, if_neg d_108, if_neg d_100, if_neg d_110, if_neg d_114, if_neg d_118]
    refine lv_aload_n hx hb dX8_carryOut_261 rfl (lv_at hl 0 rfl) ?_
    refine r_get (v' := .ref (a 0)) hx hb hts in_X8_carryOut_X8 hown w 0 0 rfl rfl (ci := 12) rfl 0 (by decide) (hts _ (List.mem_of_getElem? (i := 1) rfl)) rfl rfl rfl dX8_carryOut_262 ?_
    refine lv_aload_n hx hb dX8_carryOut_265 rfl (lv_at hl 0 rfl) ?_
    refine r_get (v' := .ref r) hx hb hts in_X8_carryOut_X8 hown w 0 0 rfl rfl (ci := 12) rfl 5 (by decide) (hts _ (List.mem_of_getElem? (i := 2) rfl)) rfl rfl rfl dX8_carryOut_266 ?_
    refine k_iVN (As := [.ref r]) (rest := []) (Rs := [ppB o (a 0) (b 0) (sn 0) (h 0) r (t 0) sb hs lf]) (Bs' := [ppB o (a 0) (b 0) (sn 0) (h 0) r (t 0) sb hs lf, rfW r (wLeather S) f0 f1 f2 f3, stB a S, lnB ty a S, quB ty a S, weB a S, miB ty a M]) ⟨hx, hb, hml, hown, hts⟩ w (c_X6_refusesLeather l D ty a S M n q (hI) r f0 f1 f2 f3 ) ⟨va_cnB 1 hts gX8_carryOut_X6_refusesLeather_n145 rfl rfl rfl (w.2.2.2.2.2 _ (List.mem_of_getElem? (i := 92) rfl)) (hts _ (List.mem_of_getElem? (i := 4) rfl)) hdN_X6_refusesLeather ⟨Nat.le_of_ble_eq_true rfl, Nat.le_of_ble_eq_true rfl⟩, (hts _ (List.mem_of_getElem? (i := 180) rfl)), (hts _ (List.mem_of_getElem? (i := 181) rfl))⟩ [2, 3, 4, 5, 6, 1, 0] (nB := 7) (by decide) rfl rfl rfl rfl 2 rfl rfl (ci := 10) rfl rfl rfl hl.1 rfl (Nat.le_of_ble_eq_true rfl) dX8_carryOut_269 ⟨(Nat.zero_le _), (Nat.zero_le _)⟩ (fun H locs w => ?_)
    refine lv_if_eq (tgt := 277) hx hb dX8_carryOut_272 (by decide) (fun c272 => ?_) (fun c272 => ?_)
    · have c272 := bI_0.mp c272
      have hW := wB_z c272
      refine lv_aload_n hx hb dX8_carryOut_277 rfl (lv_at hl 0 rfl) ?_
      refine r_get (v' := .ref (a 0)) hx hb hts in_X8_carryOut_X8 hown w 0 0 rfl rfl (ci := 12) rfl 0 (by decide) (hts _ (List.mem_of_getElem? (i := 1) rfl)) rfl rfl rfl dX8_carryOut_278 ?_
      refine k_iVN (As := []) (rest := []) (Rs := [ppB o (a 0) (b 0) (sn 0) (h 0) r (t 0) sb hs lf, rfW r (wLeather S) f0 f1 f2 f3]) (Bs' := [ppB o (a 0) (b 0) (sn 0) (h 0) r (t 0) sb hs lf, rfW r (wLeather S) f0 f1 f2 f3, stB a ((oRenew (S, M)).2.1), lnB ty a ((oRenew (S, M)).2.1), quB ty a ((oRenew (S, M)).2.1), weB a ((oRenew (S, M)).2.1), miB ty a ((oRenew (S, M)).2.2)]) ⟨hx, hb, hml, hown, hts⟩ w (c_X6_changeLeather l D ty a S M n q (hI) hA.2.1.2 x (hM)) ⟨va_cnB 0 hts gX8_carryOut_X6_changeLeather_n150 rfl rfl rfl (w.2.2.2.2.2 _ (List.mem_of_getElem? (i := 93) rfl)) (hts _ (List.mem_of_getElem? (i := 4) rfl)) hdN_X6_changeLeather ⟨Nat.le_of_ble_eq_true rfl, Nat.le_of_ble_eq_true rfl⟩, (hts _ (List.mem_of_getElem? (i := 184) rfl)), (hts _ (List.mem_of_getElem? (i := 185) rfl))⟩ [2, 3, 4, 5, 6, 0, 1] (nB := 7) (by decide) rfl rfl rfl rfl 2 rfl rfl (ci := 10) rfl rfl rfl hl.1 rfl (Nat.le_of_ble_eq_true rfl) dX8_carryOut_281 ⟨(Nat.zero_le _), (Nat.zero_le _)⟩ (fun H locs w => ?_)
      refine lv_pop hx hb dX8_carryOut_284 rfl ?_
      refine lv_iconst (v := 1) hx hb dX8_carryOut_285 (by decide) ?_
      exact e_z (ty := .boolean) hx hb hr rfl hlocks (w.cast (by rw [hdW, gR_0 hW, dX, if_neg d_106, if_neg d_108, if_neg d_100, if_neg d_110, if_neg d_114, if_neg d_118])) (by rw [hdW, c272]; rfl) dX8_carryOut_286 (Nat.le_refl _) (Nat.le_refl _)
    · have c272 := bI_1.mp c272
      refine lv_iconst (v := 0) hx hb dX8_carryOut_275 (by decide) ?_
      exact e_z (ty := .boolean) hx hb hr rfl hlocks (w.cast (by rw [hdW, gR_1 (wB_nz c272)])) (by rw [hdW, c272]; rfl) dX8_carryOut_276 (Nat.le_refl _) (Nat.le_refl _)
  by_cases d_107 : kd = 107
  · refine r_eq (y := 107) d_107 ?_
    refine lv_tableIn (tgt := 261) hx hb dX8_carryOut_1 (by decide) (by decide) rfl (by decide) ?_
    have hdW : dW S kd v = wLeather S := by rw [dW, if_neg d_106, if_neg d_108, if_neg d_100, if_neg d_110, if_neg d_114, if_neg d_118]
    refine lv_aload_n hx hb dX8_carryOut_261 rfl (lv_at hl 0 rfl) ?_
    refine r_get (v' := .ref (a 0)) hx hb hts in_X8_carryOut_X8 hown w 0 0 rfl rfl (ci := 12) rfl 0 (by decide) (hts _ (List.mem_of_getElem? (i := 1) rfl)) rfl rfl rfl dX8_carryOut_262 ?_
    refine lv_aload_n hx hb dX8_carryOut_265 rfl (lv_at hl 0 rfl) ?_
    refine r_get (v' := .ref r) hx hb hts in_X8_carryOut_X8 hown w 0 0 rfl rfl (ci := 12) rfl 5 (by decide) (hts _ (List.mem_of_getElem? (i := 2) rfl)) rfl rfl rfl dX8_carryOut_266 ?_
    refine k_iVN (As := [.ref r]) (rest := []) (Rs := [ppB o (a 0) (b 0) (sn 0) (h 0) r (t 0) sb hs lf]) (Bs' := [ppB o (a 0) (b 0) (sn 0) (h 0) r (t 0) sb hs lf, rfW r (wLeather S) f0 f1 f2 f3, stB a S, lnB ty a S, quB ty a S, weB a S, miB ty a M]) ⟨hx, hb, hml, hown, hts⟩ w (c_X6_refusesLeather l D ty a S M n q (hI) r f0 f1 f2 f3 ) ⟨va_cnB 1 hts gX8_carryOut_X6_refusesLeather_n145 rfl rfl rfl (w.2.2.2.2.2 _ (List.mem_of_getElem? (i := 92) rfl)) (hts _ (List.mem_of_getElem? (i := 4) rfl)) hdN_X6_refusesLeather ⟨Nat.le_of_ble_eq_true rfl, Nat.le_of_ble_eq_true rfl⟩, (hts _ (List.mem_of_getElem? (i := 180) rfl)), (hts _ (List.mem_of_getElem? (i := 181) rfl))⟩ [2, 3, 4, 5, 6, 1, 0] (nB := 7) (by decide) rfl rfl rfl rfl 2 rfl rfl (ci := 10) rfl rfl rfl hl.1 rfl (Nat.le_of_ble_eq_true rfl) dX8_carryOut_269 ⟨(Nat.zero_le _), (Nat.zero_le _)⟩ (fun H locs w => ?_)
    refine lv_if_eq (tgt := 277) hx hb dX8_carryOut_272 (by decide) (fun c272 => ?_) (fun c272 => ?_)
    · have c272 := bI_0.mp c272
      have hW := wB_z c272
      refine lv_aload_n hx hb dX8_carryOut_277 rfl (lv_at hl 0 rfl) ?_
      refine r_get (v' := .ref (a 0)) hx hb hts in_X8_carryOut_X8 hown w 0 0 rfl rfl (ci := 12) rfl 0 (by decide) (hts _ (List.mem_of_getElem? (i := 1) rfl)) rfl rfl rfl dX8_carryOut_278 ?_
      refine k_iVN (As := []) (rest := []) (Rs := [ppB o (a 0) (b 0) (sn 0) (h 0) r (t 0) sb hs lf, rfW r (wLeather S) f0 f1 f2 f3]) (Bs' := [ppB o (a 0) (b 0) (sn 0) (h 0) r (t 0) sb hs lf, rfW r (wLeather S) f0 f1 f2 f3, stB a ((oRenew (S, M)).2.1), lnB ty a ((oRenew (S, M)).2.1), quB ty a ((oRenew (S, M)).2.1), weB a ((oRenew (S, M)).2.1), miB ty a ((oRenew (S, M)).2.2)]) ⟨hx, hb, hml, hown, hts⟩ w (c_X6_changeLeather l D ty a S M n q (hI) hA.2.1.2 x (hM)) ⟨va_cnB 0 hts gX8_carryOut_X6_changeLeather_n150 rfl rfl rfl (w.2.2.2.2.2 _ (List.mem_of_getElem? (i := 93) rfl)) (hts _ (List.mem_of_getElem? (i := 4) rfl)) hdN_X6_changeLeather ⟨Nat.le_of_ble_eq_true rfl, Nat.le_of_ble_eq_true rfl⟩, (hts _ (List.mem_of_getElem? (i := 184) rfl)), (hts _ (List.mem_of_getElem? (i := 185) rfl))⟩ [2, 3, 4, 5, 6, 0, 1] (nB := 7) (by decide) rfl rfl rfl rfl 2 rfl rfl (ci := 10) rfl rfl rfl hl.1 rfl (Nat.le_of_ble_eq_true rfl) dX8_carryOut_281 ⟨(Nat.zero_le _), (Nat.zero_le _)⟩ (fun H locs w => ?_)
      refine lv_pop hx hb dX8_carryOut_284 rfl ?_
      refine lv_iconst (v := 1) hx hb dX8_carryOut_285 (by decide) ?_
      exact e_z (ty := .boolean) hx hb hr rfl hlocks (w.cast (by rw [hdW, gR_0 hW, dX, if_neg d_106, if_neg d_108, if_neg d_100, if_neg d_110, if_neg d_114, if_neg d_118])) (by rw [hdW, c272]; rfl) dX8_carryOut_286 (Nat.le_refl _) (Nat.le_refl _)
    · have c272 := bI_1.mp c272
      refine lv_iconst (v := 0) hx hb dX8_carryOut_275 (by decide) ?_
      exact e_z (ty := .boolean) hx hb hr rfl hlocks (w.cast (by rw [hdW, gR_1 (wB_nz c272)])) (by rw [hdW, c272]; rfl) dX8_carryOut_276 (Nat.le_refl _) (Nat.le_refl _)
  by_cases d_109 : kd = 109
  · refine r_eq (y := 109) d_109 ?_
    refine lv_tableIn (tgt := 261) hx hb dX8_carryOut_1 (by decide) (by decide) rfl (by decide) ?_
    have hdW : dW S kd v = wLeather S := by rw [dW, if_neg d_106, if_neg d_108, if_neg d_100, if_neg d_110, if_neg d_114, if_neg d_118]
    refine lv_aload_n hx hb dX8_carryOut_261 rfl (lv_at hl 0 rfl) ?_
    refine r_get (v' := .ref (a 0)) hx hb hts in_X8_carryOut_X8 hown w 0 0 rfl rfl (ci := 12) rfl 0 (by decide) (hts _ (List.mem_of_getElem? (i := 1) rfl)) rfl rfl rfl dX8_carryOut_262 ?_
    refine lv_aload_n hx hb dX8_carryOut_265 rfl (lv_at hl 0 rfl) ?_
    refine r_get (v' := .ref r) hx hb hts in_X8_carryOut_X8 hown w 0 0 rfl rfl (ci := 12) rfl 5 (by decide) (hts _ (List.mem_of_getElem? (i := 2) rfl)) rfl rfl rfl dX8_carryOut_266 ?_
    refine k_iVN (As := [.ref r]) (rest := []) (Rs := [ppB o (a 0) (b 0) (sn 0) (h 0) r (t 0) sb hs lf]) (Bs' := [ppB o (a 0) (b 0) (sn 0) (h 0) r (t 0) sb hs lf, rfW r (wLeather S) f0 f1 f2 f3, stB a S, lnB ty a S, quB ty a S, weB a S, miB ty a M]) ⟨hx, hb, hml, hown, hts⟩ w (c_X6_refusesLeather l D ty a S M n q (hI) r f0 f1 f2 f3 ) ⟨va_cnB 1 hts gX8_carryOut_X6_refusesLeather_n145 rfl rfl rfl (w.2.2.2.2.2 _ (List.mem_of_getElem? (i := 92) rfl)) (hts _ (List.mem_of_getElem? (i := 4) rfl)) hdN_X6_refusesLeather ⟨Nat.le_of_ble_eq_true rfl, Nat.le_of_ble_eq_true rfl⟩, (hts _ (List.mem_of_getElem? (i := 180) rfl)), (hts _ (List.mem_of_getElem? (i := 181) rfl))⟩ [2, 3, 4, 5, 6, 1, 0] (nB := 7) (by decide) rfl rfl rfl rfl 2 rfl rfl (ci := 10) rfl rfl rfl hl.1 rfl (Nat.le_of_ble_eq_true rfl) dX8_carryOut_269 ⟨(Nat.zero_le _), (Nat.zero_le _)⟩ (fun H locs w => ?_)
    refine lv_if_eq (tgt := 277) hx hb dX8_carryOut_272 (by decide) (fun c272 => ?_) (fun c272 => ?_)
    · have c272 := bI_0.mp c272
      have hW := wB_z c272
      refine lv_aload_n hx hb dX8_carryOut_277 rfl (lv_at hl 0 rfl) ?_
      refine r_get (v' := .ref (a 0)) hx hb hts in_X8_carryOut_X8 hown w 0 0 rfl rfl (ci := 12) rfl 0 (by decide) (hts _ (List.mem_of_getElem? (i := 1) rfl)) rfl rfl rfl dX8_carryOut_278 ?_
      refine k_iVN (As := []) (rest := []) (Rs := [ppB o (a 0) (b 0) (sn 0) (h 0) r (t 0) sb hs lf, rfW r (wLeather S) f0 f1 f2 f3]) (Bs' := [ppB o (a 0) (b 0) (sn 0) (h 0) r (t 0) sb hs lf, rfW r (wLeather S) f0 f1 f2 f3, stB a ((oRenew (S, M)).2.1), lnB ty a ((oRenew (S, M)).2.1), quB ty a ((oRenew (S, M)).2.1), weB a ((oRenew (S, M)).2.1), miB ty a ((oRenew (S, M)).2.2)]) ⟨hx, hb, hml, hown, hts⟩ w (c_X6_changeLeather l D ty a S M n q (hI) hA.2.1.2 x (hM)) ⟨va_cnB 0 hts gX8_carryOut_X6_changeLeather_n150 rfl rfl rfl (w.2.2.2.2.2 _ (List.mem_of_getElem? (i := 93) rfl)) (hts _ (List.mem_of_getElem? (i := 4) rfl)) hdN_X6_changeLeather ⟨Nat.le_of_ble_eq_true rfl, Nat.le_of_ble_eq_true rfl⟩, (hts _ (List.mem_of_getElem? (i := 184) rfl)), (hts _ (List.mem_of_getElem? (i := 185) rfl))⟩ [2, 3, 4, 5, 6, 0, 1] (nB := 7) (by decide) rfl rfl rfl rfl 2 rfl rfl (ci := 10) rfl rfl rfl hl.1 rfl (Nat.le_of_ble_eq_true rfl) dX8_carryOut_281 ⟨(Nat.zero_le _), (Nat.zero_le _)⟩ (fun H locs w => ?_)
      refine lv_pop hx hb dX8_carryOut_284 rfl ?_
      refine lv_iconst (v := 1) hx hb dX8_carryOut_285 (by decide) ?_
      exact e_z (ty := .boolean) hx hb hr rfl hlocks (w.cast (by rw [hdW, gR_0 hW, dX, if_neg d_106, if_neg d_108, if_neg d_100, if_neg d_110, if_neg d_114, if_neg d_118])) (by rw [hdW, c272]; rfl) dX8_carryOut_286 (Nat.le_refl _) (Nat.le_refl _)
    · have c272 := bI_1.mp c272
      refine lv_iconst (v := 0) hx hb dX8_carryOut_275 (by decide) ?_
      exact e_z (ty := .boolean) hx hb hr rfl hlocks (w.cast (by rw [hdW, gR_1 (wB_nz c272)])) (by rw [hdW, c272]; rfl) dX8_carryOut_276 (Nat.le_refl _) (Nat.le_refl _)
  by_cases d_111 : kd = 111
  · refine r_eq (y := 111) d_111 ?_
    refine lv_tableIn (tgt := 261) hx hb dX8_carryOut_1 (by decide) (by decide) rfl (by decide) ?_
    have hdW : dW S kd v = wLeather S := by rw [dW, if_neg d_106, if_neg d_108, if_neg d_100, if_neg d_110, if_neg d_114, if_neg d_118]
    refine lv_aload_n hx hb dX8_carryOut_261 rfl (lv_at hl 0 rfl) ?_
    refine r_get (v' := .ref (a 0)) hx hb hts in_X8_carryOut_X8 hown w 0 0 rfl rfl (ci := 12) rfl 0 (by decide) (hts _ (List.mem_of_getElem? (i := 1) rfl)) rfl rfl rfl dX8_carryOut_262 ?_
    refine lv_aload_n hx hb dX8_carryOut_265 rfl (lv_at hl 0 rfl) ?_
    refine r_get (v' := .ref r) hx hb hts in_X8_carryOut_X8 hown w 0 0 rfl rfl (ci := 12) rfl 5 (by decide) (hts _ (List.mem_of_getElem? (i := 2) rfl)) rfl rfl rfl dX8_carryOut_266 ?_
    refine k_iVN (As := [.ref r]) (rest := []) (Rs := [ppB o (a 0) (b 0) (sn 0) (h 0) r (t 0) sb hs lf]) (Bs' := [ppB o (a 0) (b 0) (sn 0) (h 0) r (t 0) sb hs lf, rfW r (wLeather S) f0 f1 f2 f3, stB a S, lnB ty a S, quB ty a S, weB a S, miB ty a M]) ⟨hx, hb, hml, hown, hts⟩ w (c_X6_refusesLeather l D ty a S M n q (hI) r f0 f1 f2 f3 ) ⟨va_cnB 1 hts gX8_carryOut_X6_refusesLeather_n145 rfl rfl rfl (w.2.2.2.2.2 _ (List.mem_of_getElem? (i := 92) rfl)) (hts _ (List.mem_of_getElem? (i := 4) rfl)) hdN_X6_refusesLeather ⟨Nat.le_of_ble_eq_true rfl, Nat.le_of_ble_eq_true rfl⟩, (hts _ (List.mem_of_getElem? (i := 180) rfl)), (hts _ (List.mem_of_getElem? (i := 181) rfl))⟩ [2, 3, 4, 5, 6, 1, 0] (nB := 7) (by decide) rfl rfl rfl rfl 2 rfl rfl (ci := 10) rfl rfl rfl hl.1 rfl (Nat.le_of_ble_eq_true rfl) dX8_carryOut_269 ⟨(Nat.zero_le _), (Nat.zero_le _)⟩ (fun H locs w => ?_)
    refine lv_if_eq (tgt := 277) hx hb dX8_carryOut_272 (by decide) (fun c272 => ?_) (fun c272 => ?_)
    · have c272 := bI_0.mp c272
      have hW := wB_z c272
      refine lv_aload_n hx hb dX8_carryOut_277 rfl (lv_at hl 0 rfl) ?_
      refine r_get (v' := .ref (a 0)) hx hb hts in_X8_carryOut_X8 hown w 0 0 rfl rfl (ci := 12) rfl 0 (by decide) (hts _ (List.mem_of_getElem? (i := 1) rfl)) rfl rfl rfl dX8_carryOut_278 ?_
      refine k_iVN (As := []) (rest := []) (Rs := [ppB o (a 0) (b 0) (sn 0) (h 0) r (t 0) sb hs lf, rfW r (wLeather S) f0 f1 f2 f3]) (Bs' := [ppB o (a 0) (b 0) (sn 0) (h 0) r (t 0) sb hs lf, rfW r (wLeather S) f0 f1 f2 f3, stB a ((oRenew (S, M)).2.1), lnB ty a ((oRenew (S, M)).2.1), quB ty a ((oRenew (S, M)).2.1), weB a ((oRenew (S, M)).2.1), miB ty a ((oRenew (S, M)).2.2)]) ⟨hx, hb, hml, hown, hts⟩ w (c_X6_changeLeather l D ty a S M n q (hI) hA.2.1.2 x (hM)) ⟨va_cnB 0 hts gX8_carryOut_X6_changeLeather_n150 rfl rfl rfl (w.2.2.2.2.2 _ (List.mem_of_getElem? (i := 93) rfl)) (hts _ (List.mem_of_getElem? (i := 4) rfl)) hdN_X6_changeLeather ⟨Nat.le_of_ble_eq_true rfl, Nat.le_of_ble_eq_true rfl⟩, (hts _ (List.mem_of_getElem? (i := 184) rfl)), (hts _ (List.mem_of_getElem? (i := 185) rfl))⟩ [2, 3, 4, 5, 6, 0, 1] (nB := 7) (by decide) rfl rfl rfl rfl 2 rfl rfl (ci := 10) rfl rfl rfl hl.1 rfl (Nat.le_of_ble_eq_true rfl) dX8_carryOut_281 ⟨(Nat.zero_le _), (Nat.zero_le _)⟩ (fun H locs w => ?_)
      refine lv_pop hx hb dX8_carryOut_284 rfl ?_
      refine lv_iconst (v := 1) hx hb dX8_carryOut_285 (by decide) ?_
      exact e_z (ty := .boolean) hx hb hr rfl hlocks (w.cast (by rw [hdW, gR_0 hW, dX, if_neg d_106, if_neg d_108, if_neg d_100, if_neg d_110, if_neg d_114, if_neg d_118])) (by rw [hdW, c272]; rfl) dX8_carryOut_286 (Nat.le_refl _) (Nat.le_refl _)
    · have c272 := bI_1.mp c272
      refine lv_iconst (v := 0) hx hb dX8_carryOut_275 (by decide) ?_
      exact e_z (ty := .boolean) hx hb hr rfl hlocks (w.cast (by rw [hdW, gR_1 (wB_nz c272)])) (by rw [hdW, c272]; rfl) dX8_carryOut_276 (Nat.le_refl _) (Nat.le_refl _)
  by_cases d_112 : kd = 112
  · refine r_eq (y := 112) d_112 ?_
    refine lv_tableIn (tgt := 261) hx hb dX8_carryOut_1 (by decide) (by decide) rfl (by decide) ?_
    have hdW : dW S kd v = wLeather S := by rw [dW, if_neg d_106, if_neg d_108, if_neg d_100, if_neg d_110, if_neg d_114, if_neg d_118]
    refine lv_aload_n hx hb dX8_carryOut_261 rfl (lv_at hl 0 rfl) ?_
    refine r_get (v' := .ref (a 0)) hx hb hts in_X8_carryOut_X8 hown w 0 0 rfl rfl (ci := 12) rfl 0 (by decide) (hts _ (List.mem_of_getElem? (i := 1) rfl)) rfl rfl rfl dX8_carryOut_262 ?_
    refine lv_aload_n hx hb dX8_carryOut_265 rfl (lv_at hl 0 rfl) ?_
    refine r_get (v' := .ref r) hx hb hts in_X8_carryOut_X8 hown w 0 0 rfl rfl (ci := 12) rfl 5 (by decide) (hts _ (List.mem_of_getElem? (i := 2) rfl)) rfl rfl rfl dX8_carryOut_266 ?_
    refine k_iVN (As := [.ref r]) (rest := []) (Rs := [ppB o (a 0) (b 0) (sn 0) (h 0) r (t 0) sb hs lf]) (Bs' := [ppB o (a 0) (b 0) (sn 0) (h 0) r (t 0) sb hs lf, rfW r (wLeather S) f0 f1 f2 f3, stB a S, lnB ty a S, quB ty a S, weB a S, miB ty a M]) ⟨hx, hb, hml, hown, hts⟩ w (c_X6_refusesLeather l D ty a S M n q (hI) r f0 f1 f2 f3 ) ⟨va_cnB 1 hts gX8_carryOut_X6_refusesLeather_n145 rfl rfl rfl (w.2.2.2.2.2 _ (List.mem_of_getElem? (i := 92) rfl)) (hts _ (List.mem_of_getElem? (i := 4) rfl)) hdN_X6_refusesLeather ⟨Nat.le_of_ble_eq_true rfl, Nat.le_of_ble_eq_true rfl⟩, (hts _ (List.mem_of_getElem? (i := 180) rfl)), (hts _ (List.mem_of_getElem? (i := 181) rfl))⟩ [2, 3, 4, 5, 6, 1, 0] (nB := 7) (by decide) rfl rfl rfl rfl 2 rfl rfl (ci := 10) rfl rfl rfl hl.1 rfl (Nat.le_of_ble_eq_true rfl) dX8_carryOut_269 ⟨(Nat.zero_le _), (Nat.zero_le _)⟩ (fun H locs w => ?_)
    refine lv_if_eq (tgt := 277) hx hb dX8_carryOut_272 (by decide) (fun c272 => ?_) (fun c272 => ?_)
    · have c272 := bI_0.mp c272
      have hW := wB_z c272
      refine lv_aload_n hx hb dX8_carryOut_277 rfl (lv_at hl 0 rfl) ?_
      refine r_get (v' := .ref (a 0)) hx hb hts in_X8_carryOut_X8 hown w 0 0 rfl rfl (ci := 12) rfl 0 (by decide) (hts _ (List.mem_of_getElem? (i := 1) rfl)) rfl rfl rfl dX8_carryOut_278 ?_
      refine k_iVN (As := []) (rest := []) (Rs := [ppB o (a 0) (b 0) (sn 0) (h 0) r (t 0) sb hs lf, rfW r (wLeather S) f0 f1 f2 f3]) (Bs' := [ppB o (a 0) (b 0) (sn 0) (h 0) r (t 0) sb hs lf, rfW r (wLeather S) f0 f1 f2 f3, stB a ((oRenew (S, M)).2.1), lnB ty a ((oRenew (S, M)).2.1), quB ty a ((oRenew (S, M)).2.1), weB a ((oRenew (S, M)).2.1), miB ty a ((oRenew (S, M)).2.2)]) ⟨hx, hb, hml, hown, hts⟩ w (c_X6_changeLeather l D ty a S M n q (hI) hA.2.1.2 x (hM)) ⟨va_cnB 0 hts gX8_carryOut_X6_changeLeather_n150 rfl rfl rfl (w.2.2.2.2.2 _ (List.mem_of_getElem? (i := 93) rfl)) (hts _ (List.mem_of_getElem? (i := 4) rfl)) hdN_X6_changeLeather ⟨Nat.le_of_ble_eq_true rfl, Nat.le_of_ble_eq_true rfl⟩, (hts _ (List.mem_of_getElem? (i := 184) rfl)), (hts _ (List.mem_of_getElem? (i := 185) rfl))⟩ [2, 3, 4, 5, 6, 0, 1] (nB := 7) (by decide) rfl rfl rfl rfl 2 rfl rfl (ci := 10) rfl rfl rfl hl.1 rfl (Nat.le_of_ble_eq_true rfl) dX8_carryOut_281 ⟨(Nat.zero_le _), (Nat.zero_le _)⟩ (fun H locs w => ?_)
      refine lv_pop hx hb dX8_carryOut_284 rfl ?_
      refine lv_iconst (v := 1) hx hb dX8_carryOut_285 (by decide) ?_
      exact e_z (ty := .boolean) hx hb hr rfl hlocks (w.cast (by rw [hdW, gR_0 hW, dX, if_neg d_106, if_neg d_108, if_neg d_100, if_neg d_110, if_neg d_114, if_neg d_118])) (by rw [hdW, c272]; rfl) dX8_carryOut_286 (Nat.le_refl _) (Nat.le_refl _)
    · have c272 := bI_1.mp c272
      refine lv_iconst (v := 0) hx hb dX8_carryOut_275 (by decide) ?_
      exact e_z (ty := .boolean) hx hb hr rfl hlocks (w.cast (by rw [hdW, gR_1 (wB_nz c272)])) (by rw [hdW, c272]; rfl) dX8_carryOut_276 (Nat.le_refl _) (Nat.le_refl _)
  by_cases d_113 : kd = 113
  · refine r_eq (y := 113) d_113 ?_
    refine lv_tableIn (tgt := 261) hx hb dX8_carryOut_1 (by decide) (by decide) rfl (by decide) ?_
    have hdW : dW S kd v = wLeather S := by rw [dW, if_neg d_106, if_neg d_108, if_neg d_100, if_neg d_110, if_neg d_114, if_neg d_118]
    refine lv_aload_n hx hb dX8_carryOut_261 rfl (lv_at hl 0 rfl) ?_
    refine r_get (v' := .ref (a 0)) hx hb hts in_X8_carryOut_X8 hown w 0 0 rfl rfl (ci := 12) rfl 0 (by decide) (hts _ (List.mem_of_getElem? (i := 1) rfl)) rfl rfl rfl dX8_carryOut_262 ?_
    refine lv_aload_n hx hb dX8_carryOut_265 rfl (lv_at hl 0 rfl) ?_
    refine r_get (v' := .ref r) hx hb hts in_X8_carryOut_X8 hown w 0 0 rfl rfl (ci := 12) rfl 5 (by decide) (hts _ (List.mem_of_getElem? (i := 2) rfl)) rfl rfl rfl dX8_carryOut_266 ?_
    refine k_iVN (As := [.ref r]) (rest := []) (Rs := [ppB o (a 0) (b 0) (sn 0) (h 0) r (t 0) sb hs lf]) (Bs' := [ppB o (a 0) (b 0) (sn 0) (h 0) r (t 0) sb hs lf, rfW r (wLeather S) f0 f1 f2 f3, stB a S, lnB ty a S, quB ty a S, weB a S, miB ty a M]) ⟨hx, hb, hml, hown, hts⟩ w (c_X6_refusesLeather l D ty a S M n q (hI) r f0 f1 f2 f3 ) ⟨va_cnB 1 hts gX8_carryOut_X6_refusesLeather_n145 rfl rfl rfl (w.2.2.2.2.2 _ (List.mem_of_getElem? (i := 92) rfl)) (hts _ (List.mem_of_getElem? (i := 4) rfl)) hdN_X6_refusesLeather ⟨Nat.le_of_ble_eq_true rfl, Nat.le_of_ble_eq_true rfl⟩, (hts _ (List.mem_of_getElem? (i := 180) rfl)), (hts _ (List.mem_of_getElem? (i := 181) rfl))⟩ [2, 3, 4, 5, 6, 1, 0] (nB := 7) (by decide) rfl rfl rfl rfl 2 rfl rfl (ci := 10) rfl rfl rfl hl.1 rfl (Nat.le_of_ble_eq_true rfl) dX8_carryOut_269 ⟨(Nat.zero_le _), (Nat.zero_le _)⟩ (fun H locs w => ?_)
    refine lv_if_eq (tgt := 277) hx hb dX8_carryOut_272 (by decide) (fun c272 => ?_) (fun c272 => ?_)
    · have c272 := bI_0.mp c272
      have hW := wB_z c272
      refine lv_aload_n hx hb dX8_carryOut_277 rfl (lv_at hl 0 rfl) ?_
      refine r_get (v' := .ref (a 0)) hx hb hts in_X8_carryOut_X8 hown w 0 0 rfl rfl (ci := 12) rfl 0 (by decide) (hts _ (List.mem_of_getElem? (i := 1) rfl)) rfl rfl rfl dX8_carryOut_278 ?_
      refine k_iVN (As := []) (rest := []) (Rs := [ppB o (a 0) (b 0) (sn 0) (h 0) r (t 0) sb hs lf, rfW r (wLeather S) f0 f1 f2 f3]) (Bs' := [ppB o (a 0) (b 0) (sn 0) (h 0) r (t 0) sb hs lf, rfW r (wLeather S) f0 f1 f2 f3, stB a ((oRenew (S, M)).2.1), lnB ty a ((oRenew (S, M)).2.1), quB ty a ((oRenew (S, M)).2.1), weB a ((oRenew (S, M)).2.1), miB ty a ((oRenew (S, M)).2.2)]) ⟨hx, hb, hml, hown, hts⟩ w (c_X6_changeLeather l D ty a S M n q (hI) hA.2.1.2 x (hM)) ⟨va_cnB 0 hts gX8_carryOut_X6_changeLeather_n150 rfl rfl rfl (w.2.2.2.2.2 _ (List.mem_of_getElem? (i := 93) rfl)) (hts _ (List.mem_of_getElem? (i := 4) rfl)) hdN_X6_changeLeather ⟨Nat.le_of_ble_eq_true rfl, Nat.le_of_ble_eq_true rfl⟩, (hts _ (List.mem_of_getElem? (i := 184) rfl)), (hts _ (List.mem_of_getElem? (i := 185) rfl))⟩ [2, 3, 4, 5, 6, 0, 1] (nB := 7) (by decide) rfl rfl rfl rfl 2 rfl rfl (ci := 10) rfl rfl rfl hl.1 rfl (Nat.le_of_ble_eq_true rfl) dX8_carryOut_281 ⟨(Nat.zero_le _), (Nat.zero_le _)⟩ (fun H locs w => ?_)
      refine lv_pop hx hb dX8_carryOut_284 rfl ?_
      refine lv_iconst (v := 1) hx hb dX8_carryOut_285 (by decide) ?_
      exact e_z (ty := .boolean) hx hb hr rfl hlocks (w.cast (by rw [hdW, gR_0 hW, dX, if_neg d_106, if_neg d_108, if_neg d_100, if_neg d_110, if_neg d_114, if_neg d_118])) (by rw [hdW, c272]; rfl) dX8_carryOut_286 (Nat.le_refl _) (Nat.le_refl _)
    · have c272 := bI_1.mp c272
      refine lv_iconst (v := 0) hx hb dX8_carryOut_275 (by decide) ?_
      exact e_z (ty := .boolean) hx hb hr rfl hlocks (w.cast (by rw [hdW, gR_1 (wB_nz c272)])) (by rw [hdW, c272]; rfl) dX8_carryOut_276 (Nat.le_refl _) (Nat.le_refl _)
  by_cases d_115 : kd = 115
  · refine r_eq (y := 115) d_115 ?_
    refine lv_tableIn (tgt := 261) hx hb dX8_carryOut_1 (by decide) (by decide) rfl (by decide) ?_
    have hdW : dW S kd v = wLeather S := by rw [dW, if_neg d_106, if_neg d_108, if_neg d_100, if_neg d_110, if_neg d_114, if_neg d_118]
    refine lv_aload_n hx hb dX8_carryOut_261 rfl (lv_at hl 0 rfl) ?_
    refine r_get (v' := .ref (a 0)) hx hb hts in_X8_carryOut_X8 hown w 0 0 rfl rfl (ci := 12) rfl 0 (by decide) (hts _ (List.mem_of_getElem? (i := 1) rfl)) rfl rfl rfl dX8_carryOut_262 ?_
    refine lv_aload_n hx hb dX8_carryOut_265 rfl (lv_at hl 0 rfl) ?_
    refine r_get (v' := .ref r) hx hb hts in_X8_carryOut_X8 hown w 0 0 rfl rfl (ci := 12) rfl 5 (by decide) (hts _ (List.mem_of_getElem? (i := 2) rfl)) rfl rfl rfl dX8_carryOut_266 ?_
    refine k_iVN (As := [.ref r]) (rest := []) (Rs := [ppB o (a 0) (b 0) (sn 0) (h 0) r (t 0) sb hs lf]) (Bs' := [ppB o (a 0) (b 0) (sn 0) (h 0) r (t 0) sb hs lf, rfW r (wLeather S) f0 f1 f2 f3, stB a S, lnB ty a S, quB ty a S, weB a S, miB ty a M]) ⟨hx, hb, hml, hown, hts⟩ w (c_X6_refusesLeather l D ty a S M n q (hI) r f0 f1 f2 f3 ) ⟨va_cnB 1 hts gX8_carryOut_X6_refusesLeather_n145 rfl rfl rfl (w.2.2.2.2.2 _ (List.mem_of_getElem? (i := 92) rfl)) (hts _ (List.mem_of_getElem? (i := 4) rfl)) hdN_X6_refusesLeather ⟨Nat.le_of_ble_eq_true rfl, Nat.le_of_ble_eq_true rfl⟩, (hts _ (List.mem_of_getElem? (i := 180) rfl)), (hts _ (List.mem_of_getElem? (i := 181) rfl))⟩ [2, 3, 4, 5, 6, 1, 0] (nB := 7) (by decide) rfl rfl rfl rfl 2 rfl rfl (ci := 10) rfl rfl rfl hl.1 rfl (Nat.le_of_ble_eq_true rfl) dX8_carryOut_269 ⟨(Nat.zero_le _), (Nat.zero_le _)⟩ (fun H locs w => ?_)
    refine lv_if_eq (tgt := 277) hx hb dX8_carryOut_272 (by decide) (fun c272 => ?_) (fun c272 => ?_)
    · have c272 := bI_0.mp c272
      have hW := wB_z c272
      refine lv_aload_n hx hb dX8_carryOut_277 rfl (lv_at hl 0 rfl) ?_
      refine r_get (v' := .ref (a 0)) hx hb hts in_X8_carryOut_X8 hown w 0 0 rfl rfl (ci := 12) rfl 0 (by decide) (hts _ (List.mem_of_getElem? (i := 1) rfl)) rfl rfl rfl dX8_carryOut_278 ?_
      refine k_iVN (As := []) (rest := []) (Rs := [ppB o (a 0) (b 0) (sn 0) (h 0) r (t 0) sb hs lf, rfW r (wLeather S) f0 f1 f2 f3]) (Bs' := [ppB o (a 0) (b 0) (sn 0) (h 0) r (t 0) sb hs lf, rfW r (wLeather S) f0 f1 f2 f3, stB a ((oRenew (S, M)).2.1), lnB ty a ((oRenew (S, M)).2.1), quB ty a ((oRenew (S, M)).2.1), weB a ((oRenew (S, M)).2.1), miB ty a ((oRenew (S, M)).2.2)]) ⟨hx, hb, hml, hown, hts⟩ w (c_X6_changeLeather l D ty a S M n q (hI) hA.2.1.2 x (hM)) ⟨va_cnB 0 hts gX8_carryOut_X6_changeLeather_n150 rfl rfl rfl (w.2.2.2.2.2 _ (List.mem_of_getElem? (i := 93) rfl)) (hts _ (List.mem_of_getElem? (i := 4) rfl)) hdN_X6_changeLeather ⟨Nat.le_of_ble_eq_true rfl, Nat.le_of_ble_eq_true rfl⟩, (hts _ (List.mem_of_getElem? (i := 184) rfl)), (hts _ (List.mem_of_getElem? (i := 185) rfl))⟩ [2, 3, 4, 5, 6, 0, 1] (nB := 7) (by decide) rfl rfl rfl rfl 2 rfl rfl (ci := 10) rfl rfl rfl hl.1 rfl (Nat.le_of_ble_eq_true rfl) dX8_carryOut_281 ⟨(Nat.zero_le _), (Nat.zero_le _)⟩ (fun H locs w => ?_)
      refine lv_pop hx hb dX8_carryOut_284 rfl ?_
      refine lv_iconst (v := 1) hx hb dX8_carryOut_285 (by decide) ?_
      exact e_z (ty := .boolean) hx hb hr rfl hlocks (w.cast (by rw [hdW, gR_0 hW, dX, if_neg d_106, if_neg d_108, if_neg d_100, if_neg d_110, if_neg d_114, if_neg d_118])) (by rw [hdW, c272]; rfl) dX8_carryOut_286 (Nat.le_refl _) (Nat.le_refl _)
    · have c272 := bI_1.mp c272
      refine lv_iconst (v := 0) hx hb dX8_carryOut_275 (by decide) ?_
      exact e_z (ty := .boolean) hx hb hr rfl hlocks (w.cast (by rw [hdW, gR_1 (wB_nz c272)])) (by rw [hdW, c272]; rfl) dX8_carryOut_276 (Nat.le_refl _) (Nat.le_refl _)
  by_cases d_116 : kd = 116
  · refine r_eq (y := 116) d_116 ?_
    refine lv_tableIn (tgt := 261) hx hb dX8_carryOut_1 (by decide) (by decide) rfl (by decide) ?_
    have hdW : dW S kd v = wLeather S := by rw [dW, if_neg d_106, if_neg d_108, if_neg d_100, if_neg d_110, if_neg d_114, if_neg d_118]
    refine lv_aload_n hx hb dX8_carryOut_261 rfl (lv_at hl 0 rfl) ?_
    refine r_get (v' := .ref (a 0)) hx hb hts in_X8_carryOut_X8 hown w 0 0 rfl rfl (ci := 12) rfl 0 (by decide) (hts _ (List.mem_of_getElem? (i := 1) rfl)) rfl rfl rfl dX8_carryOut_262 ?_
    refine lv_aload_n hx hb dX8_carryOut_265 rfl (lv_at hl 0 rfl) ?_
    refine r_get (v' := .ref r) hx hb hts in_X8_carryOut_X8 hown w 0 0 rfl rfl (ci := 12) rfl 5 (by decide) (hts _ (List.mem_of_getElem? (i := 2) rfl)) rfl rfl rfl dX8_carryOut_266 ?_
    refine k_iVN (As := [.ref r]) (rest := []) (Rs := [ppB o (a 0) (b 0) (sn 0) (h 0) r (t 0) sb hs lf]) (Bs' := [ppB o (a 0) (b 0) (sn 0) (h 0) r (t 0) sb hs lf, rfW r (wLeather S) f0 f1 f2 f3, stB a S, lnB ty a S, quB ty a S, weB a S, miB ty a M]) ⟨hx, hb, hml, hown, hts⟩ w (c_X6_refusesLeather l D ty a S M n q (hI) r f0 f1 f2 f3 ) ⟨va_cnB 1 hts gX8_carryOut_X6_refusesLeather_n145 rfl rfl rfl (w.2.2.2.2.2 _ (List.mem_of_getElem? (i := 92) rfl)) (hts _ (List.mem_of_getElem? (i := 4) rfl)) hdN_X6_refusesLeather ⟨Nat.le_of_ble_eq_true rfl, Nat.le_of_ble_eq_true rfl⟩, (hts _ (List.mem_of_getElem? (i := 180) rfl)), (hts _ (List.mem_of_getElem? (i := 181) rfl))⟩ [2, 3, 4, 5, 6, 1, 0] (nB := 7) (by decide) rfl rfl rfl rfl 2 rfl rfl (ci := 10) rfl rfl rfl hl.1 rfl (Nat.le_of_ble_eq_true rfl) dX8_carryOut_269 ⟨(Nat.zero_le _), (Nat.zero_le _)⟩ (fun H locs w => ?_)
    refine lv_if_eq (tgt := 277) hx hb dX8_carryOut_272 (by decide) (fun c272 => ?_) (fun c272 => ?_)
    · have c272 := bI_0.mp c272
      have hW := wB_z c272
      refine lv_aload_n hx hb dX8_carryOut_277 rfl (lv_at hl 0 rfl) ?_
      refine r_get (v' := .ref (a 0)) hx hb hts in_X8_carryOut_X8 hown w 0 0 rfl rfl (ci := 12) rfl 0 (by decide) (hts _ (List.mem_of_getElem? (i := 1) rfl)) rfl rfl rfl dX8_carryOut_278 ?_
      refine k_iVN (As := []) (rest := []) (Rs := [ppB o (a 0) (b 0) (sn 0) (h 0) r (t 0) sb hs lf, rfW r (wLeather S) f0 f1 f2 f3]) (Bs' := [ppB o (a 0) (b 0) (sn 0) (h 0) r (t 0) sb hs lf, rfW r (wLeather S) f0 f1 f2 f3, stB a ((oRenew (S, M)).2.1), lnB ty a ((oRenew (S, M)).2.1), quB ty a ((oRenew (S, M)).2.1), weB a ((oRenew (S, M)).2.1), miB ty a ((oRenew (S, M)).2.2)]) ⟨hx, hb, hml, hown, hts⟩ w (c_X6_changeLeather l D ty a S M n q (hI) hA.2.1.2 x (hM)) ⟨va_cnB 0 hts gX8_carryOut_X6_changeLeather_n150 rfl rfl rfl (w.2.2.2.2.2 _ (List.mem_of_getElem? (i := 93) rfl)) (hts _ (List.mem_of_getElem? (i := 4) rfl)) hdN_X6_changeLeather ⟨Nat.le_of_ble_eq_true rfl, Nat.le_of_ble_eq_true rfl⟩, (hts _ (List.mem_of_getElem? (i := 184) rfl)), (hts _ (List.mem_of_getElem? (i := 185) rfl))⟩ [2, 3, 4, 5, 6, 0, 1] (nB := 7) (by decide) rfl rfl rfl rfl 2 rfl rfl (ci := 10) rfl rfl rfl hl.1 rfl (Nat.le_of_ble_eq_true rfl) dX8_carryOut_281 ⟨(Nat.zero_le _), (Nat.zero_le _)⟩ (fun H locs w => ?_)
      refine lv_pop hx hb dX8_carryOut_284 rfl ?_
      refine lv_iconst (v := 1) hx hb dX8_carryOut_285 (by decide) ?_
      exact e_z (ty := .boolean) hx hb hr rfl hlocks (w.cast (by rw [hdW, gR_0 hW, dX, if_neg d_106, if_neg d_108, if_neg d_100, if_neg d_110, if_neg d_114, if_neg d_118])) (by rw [hdW, c272]; rfl) dX8_carryOut_286 (Nat.le_refl _) (Nat.le_refl _)
    · have c272 := bI_1.mp c272
      refine lv_iconst (v := 0) hx hb dX8_carryOut_275 (by decide) ?_
      exact e_z (ty := .boolean) hx hb hr rfl hlocks (w.cast (by rw [hdW, gR_1 (wB_nz c272)])) (by rw [hdW, c272]; rfl) dX8_carryOut_276 (Nat.le_refl _) (Nat.le_refl _)
  by_cases d_117 : kd = 117
  · refine r_eq (y := 117) d_117 ?_
    refine lv_tableIn (tgt := 261) hx hb dX8_carryOut_1 (by decide) (by decide) rfl (by decide) ?_
    have hdW : dW S kd v = wLeather S := by rw [dW, if_neg d_106, if_neg d_108, if_neg d_100, if_neg d_110, if_neg d_114, if_neg d_118]
    refine lv_aload_n hx hb dX8_carryOut_261 rfl (lv_at hl 0 rfl) ?_
    refine r_get (v' := .ref (a 0)) hx hb hts in_X8_carryOut_X8 hown w 0 0 rfl rfl (ci := 12) rfl 0 (by decide) (hts _ (List.mem_of_getElem? (i := 1) rfl)) rfl rfl rfl dX8_carryOut_262 ?_
    refine lv_aload_n hx hb dX8_carryOut_265 rfl (lv_at hl 0 rfl) ?_
    refine r_get (v' := .ref r) hx hb hts in_X8_carryOut_X8 hown w 0 0 rfl rfl (ci := 12) rfl 5 (by decide) (hts _ (List.mem_of_getElem? (i := 2) rfl)) rfl rfl rfl dX8_carryOut_266 ?_
    refine k_iVN (As := [.ref r]) (rest := []) (Rs := [ppB o (a 0) (b 0) (sn 0) (h 0) r (t 0) sb hs lf]) (Bs' := [ppB o (a 0) (b 0) (sn 0) (h 0) r (t 0) sb hs lf, rfW r (wLeather S) f0 f1 f2 f3, stB a S, lnB ty a S, quB ty a S, weB a S, miB ty a M]) ⟨hx, hb, hml, hown, hts⟩ w (c_X6_refusesLeather l D ty a S M n q (hI) r f0 f1 f2 f3 ) ⟨va_cnB 1 hts gX8_carryOut_X6_refusesLeather_n145 rfl rfl rfl (w.2.2.2.2.2 _ (List.mem_of_getElem? (i := 92) rfl)) (hts _ (List.mem_of_getElem? (i := 4) rfl)) hdN_X6_refusesLeather ⟨Nat.le_of_ble_eq_true rfl, Nat.le_of_ble_eq_true rfl⟩, (hts _ (List.mem_of_getElem? (i := 180) rfl)), (hts _ (List.mem_of_getElem? (i := 181) rfl))⟩ [2, 3, 4, 5, 6, 1, 0] (nB := 7) (by decide) rfl rfl rfl rfl 2 rfl rfl (ci := 10) rfl rfl rfl hl.1 rfl (Nat.le_of_ble_eq_true rfl) dX8_carryOut_269 ⟨(Nat.zero_le _), (Nat.zero_le _)⟩ (fun H locs w => ?_)
    refine lv_if_eq (tgt := 277) hx hb dX8_carryOut_272 (by decide) (fun c272 => ?_) (fun c272 => ?_)
    · have c272 := bI_0.mp c272
      have hW := wB_z c272
      refine lv_aload_n hx hb dX8_carryOut_277 rfl (lv_at hl 0 rfl) ?_
      refine r_get (v' := .ref (a 0)) hx hb hts in_X8_carryOut_X8 hown w 0 0 rfl rfl (ci := 12) rfl 0 (by decide) (hts _ (List.mem_of_getElem? (i := 1) rfl)) rfl rfl rfl dX8_carryOut_278 ?_
      refine k_iVN (As := []) (rest := []) (Rs := [ppB o (a 0) (b 0) (sn 0) (h 0) r (t 0) sb hs lf, rfW r (wLeather S) f0 f1 f2 f3]) (Bs' := [ppB o (a 0) (b 0) (sn 0) (h 0) r (t 0) sb hs lf, rfW r (wLeather S) f0 f1 f2 f3, stB a ((oRenew (S, M)).2.1), lnB ty a ((oRenew (S, M)).2.1), quB ty a ((oRenew (S, M)).2.1), weB a ((oRenew (S, M)).2.1), miB ty a ((oRenew (S, M)).2.2)]) ⟨hx, hb, hml, hown, hts⟩ w (c_X6_changeLeather l D ty a S M n q (hI) hA.2.1.2 x (hM)) ⟨va_cnB 0 hts gX8_carryOut_X6_changeLeather_n150 rfl rfl rfl (w.2.2.2.2.2 _ (List.mem_of_getElem? (i := 93) rfl)) (hts _ (List.mem_of_getElem? (i := 4) rfl)) hdN_X6_changeLeather ⟨Nat.le_of_ble_eq_true rfl, Nat.le_of_ble_eq_true rfl⟩, (hts _ (List.mem_of_getElem? (i := 184) rfl)), (hts _ (List.mem_of_getElem? (i := 185) rfl))⟩ [2, 3, 4, 5, 6, 0, 1] (nB := 7) (by decide) rfl rfl rfl rfl 2 rfl rfl (ci := 10) rfl rfl rfl hl.1 rfl (Nat.le_of_ble_eq_true rfl) dX8_carryOut_281 ⟨(Nat.zero_le _), (Nat.zero_le _)⟩ (fun H locs w => ?_)
      refine lv_pop hx hb dX8_carryOut_284 rfl ?_
      refine lv_iconst (v := 1) hx hb dX8_carryOut_285 (by decide) ?_
      exact e_z (ty := .boolean) hx hb hr rfl hlocks (w.cast (by rw [hdW, gR_0 hW, dX, if_neg d_106, if_neg d_108, if_neg d_100, if_neg d_110, if_neg d_114, if_neg d_118])) (by rw [hdW, c272]; rfl) dX8_carryOut_286 (Nat.le_refl _) (Nat.le_refl _)
    · have c272 := bI_1.mp c272
      refine lv_iconst (v := 0) hx hb dX8_carryOut_275 (by decide) ?_
      exact e_z (ty := .boolean) hx hb hr rfl hlocks (w.cast (by rw [hdW, gR_1 (wB_nz c272)])) (by rw [hdW, c272]; rfl) dX8_carryOut_276 (Nat.le_refl _) (Nat.le_refl _)
  refine lv_tableOut (tgt := 261) hx hb dX8_carryOut_1 (sw_out 100 118 (fun v h1 h2 e => by
    have h3 : v = 100 ∨ v = 101 ∨ v = 102 ∨ v = 103 ∨ v = 104 ∨ v = 105 ∨ v = 106 ∨ v = 107 ∨ v = 108 ∨ v = 109 ∨ v = 110 ∨ v = 111 ∨ v = 112 ∨ v = 113 ∨ v = 114 ∨ v = 115 ∨ v = 116 ∨ v = 117 ∨ v = 118 := by omega
    rcases h3 with rfl | rfl | rfl | rfl | rfl | rfl | rfl | rfl | rfl | rfl | rfl | rfl | rfl | rfl | rfl | rfl | rfl | rfl | rfl
    · exact d_100 (Int32.toInt_inj.mp e)
    · exact d_101 (Int32.toInt_inj.mp e)
    · exact d_102 (Int32.toInt_inj.mp e)
    · exact d_103 (Int32.toInt_inj.mp e)
    · exact d_104 (Int32.toInt_inj.mp e)
    · exact d_105 (Int32.toInt_inj.mp e)
    · exact d_106 (Int32.toInt_inj.mp e)
    · exact d_107 (Int32.toInt_inj.mp e)
    · exact d_108 (Int32.toInt_inj.mp e)
    · exact d_109 (Int32.toInt_inj.mp e)
    · exact d_110 (Int32.toInt_inj.mp e)
    · exact d_111 (Int32.toInt_inj.mp e)
    · exact d_112 (Int32.toInt_inj.mp e)
    · exact d_113 (Int32.toInt_inj.mp e)
    · exact d_114 (Int32.toInt_inj.mp e)
    · exact d_115 (Int32.toInt_inj.mp e)
    · exact d_116 (Int32.toInt_inj.mp e)
    · exact d_117 (Int32.toInt_inj.mp e)
    · exact d_118 (Int32.toInt_inj.mp e)
    )) (by decide) ?_
  have hdW : dW S kd v = wLeather S := by rw [dW, if_neg d_106, if_neg d_108, if_neg d_100, if_neg d_110, if_neg d_114, if_neg d_118]
  refine lv_aload_n hx hb dX8_carryOut_261 rfl (lv_at hl 0 rfl) ?_
  refine r_get (v' := .ref (a 0)) hx hb hts in_X8_carryOut_X8 hown w 0 0 rfl rfl (ci := 12) rfl 0 (by decide) (hts _ (List.mem_of_getElem? (i := 1) rfl)) rfl rfl rfl dX8_carryOut_262 ?_
  refine lv_aload_n hx hb dX8_carryOut_265 rfl (lv_at hl 0 rfl) ?_
  refine r_get (v' := .ref r) hx hb hts in_X8_carryOut_X8 hown w 0 0 rfl rfl (ci := 12) rfl 5 (by decide) (hts _ (List.mem_of_getElem? (i := 2) rfl)) rfl rfl rfl dX8_carryOut_266 ?_
  refine k_iVN (As := [.ref r]) (rest := []) (Rs := [ppB o (a 0) (b 0) (sn 0) (h 0) r (t 0) sb hs lf]) (Bs' := [ppB o (a 0) (b 0) (sn 0) (h 0) r (t 0) sb hs lf, rfW r (wLeather S) f0 f1 f2 f3, stB a S, lnB ty a S, quB ty a S, weB a S, miB ty a M]) ⟨hx, hb, hml, hown, hts⟩ w (c_X6_refusesLeather l D ty a S M n q (hI) r f0 f1 f2 f3 ) ⟨va_cnB 1 hts gX8_carryOut_X6_refusesLeather_n145 rfl rfl rfl (w.2.2.2.2.2 _ (List.mem_of_getElem? (i := 92) rfl)) (hts _ (List.mem_of_getElem? (i := 4) rfl)) hdN_X6_refusesLeather ⟨Nat.le_of_ble_eq_true rfl, Nat.le_of_ble_eq_true rfl⟩, (hts _ (List.mem_of_getElem? (i := 180) rfl)), (hts _ (List.mem_of_getElem? (i := 181) rfl))⟩ [2, 3, 4, 5, 6, 1, 0] (nB := 7) (by decide) rfl rfl rfl rfl 2 rfl rfl (ci := 10) rfl rfl rfl hl.1 rfl (Nat.le_of_ble_eq_true rfl) dX8_carryOut_269 ⟨(Nat.zero_le _), (Nat.zero_le _)⟩ (fun H locs w => ?_)
  refine lv_if_eq (tgt := 277) hx hb dX8_carryOut_272 (by decide) (fun c272 => ?_) (fun c272 => ?_)
  · have c272 := bI_0.mp c272
    have hW := wB_z c272
    refine lv_aload_n hx hb dX8_carryOut_277 rfl (lv_at hl 0 rfl) ?_
    refine r_get (v' := .ref (a 0)) hx hb hts in_X8_carryOut_X8 hown w 0 0 rfl rfl (ci := 12) rfl 0 (by decide) (hts _ (List.mem_of_getElem? (i := 1) rfl)) rfl rfl rfl dX8_carryOut_278 ?_
    refine k_iVN (As := []) (rest := []) (Rs := [ppB o (a 0) (b 0) (sn 0) (h 0) r (t 0) sb hs lf, rfW r (wLeather S) f0 f1 f2 f3]) (Bs' := [ppB o (a 0) (b 0) (sn 0) (h 0) r (t 0) sb hs lf, rfW r (wLeather S) f0 f1 f2 f3, stB a ((oRenew (S, M)).2.1), lnB ty a ((oRenew (S, M)).2.1), quB ty a ((oRenew (S, M)).2.1), weB a ((oRenew (S, M)).2.1), miB ty a ((oRenew (S, M)).2.2)]) ⟨hx, hb, hml, hown, hts⟩ w (c_X6_changeLeather l D ty a S M n q (hI) hA.2.1.2 x (hM)) ⟨va_cnB 0 hts gX8_carryOut_X6_changeLeather_n150 rfl rfl rfl (w.2.2.2.2.2 _ (List.mem_of_getElem? (i := 93) rfl)) (hts _ (List.mem_of_getElem? (i := 4) rfl)) hdN_X6_changeLeather ⟨Nat.le_of_ble_eq_true rfl, Nat.le_of_ble_eq_true rfl⟩, (hts _ (List.mem_of_getElem? (i := 184) rfl)), (hts _ (List.mem_of_getElem? (i := 185) rfl))⟩ [2, 3, 4, 5, 6, 0, 1] (nB := 7) (by decide) rfl rfl rfl rfl 2 rfl rfl (ci := 10) rfl rfl rfl hl.1 rfl (Nat.le_of_ble_eq_true rfl) dX8_carryOut_281 ⟨(Nat.zero_le _), (Nat.zero_le _)⟩ (fun H locs w => ?_)
    refine lv_pop hx hb dX8_carryOut_284 rfl ?_
    refine lv_iconst (v := 1) hx hb dX8_carryOut_285 (by decide) ?_
    exact e_z (ty := .boolean) hx hb hr rfl hlocks (w.cast (by rw [hdW, gR_0 hW, dX, if_neg d_106, if_neg d_108, if_neg d_100, if_neg d_110, if_neg d_114, if_neg d_118])) (by rw [hdW, c272]; rfl) dX8_carryOut_286 (Nat.le_refl _) (Nat.le_refl _)
  · have c272 := bI_1.mp c272
    refine lv_iconst (v := 0) hx hb dX8_carryOut_275 (by decide) ?_
    exact e_z (ty := .boolean) hx hb hr rfl hlocks (w.cast (by rw [hdW, gR_1 (wB_nz c272)])) (by rw [hdW, c272]; rfl) dX8_carryOut_276 (Nat.le_refl _) (Nat.le_refl _)
