theorem hdN_X9_does : yX9_does.cls ≠ "java/lang/invoke/MethodHandle" ∧ yX9_does.cls ≠ "java/lang/invoke/VarHandle" ∧ (parseMethodDescriptor yX9_does.desc).map (fun d => d.parameters.length) = some 2 := by decide +kernel
set_option maxRecDepth 100000 in
set_option maxHeartbeats 4000000 in
theorem c_X9_does (l : Launch) (D : va_G) (ty : Nat → ClassId) (r : Nat → Nat) (F S : pS) (hF : F 16 = 0) (M : pS) (B : Nat) (hB : B < 10 ^ 7) (hV : IV B (S, M)) (kd v : Int32)  : Mi l yX9_does wsX9_does (kR 6 132 0 0) D (kTY ty) [.ref (r 0), .int kd, .int v] [moB r F, arB ty (r 1) 215 (sqA 215 S)] [moB r (hnd (dW S kd v) F), arB ty (r 1) 215 (sqA 215 (gR (dW S kd v) (dX (S, M) kd v).1 (if kd = 114 then upd S 208 v else S)))] (dRv S M kd v) 0 0 := by
  refine m_i (cc := cX9_does) (maxL := 3) (ret := (some .int)) (by decide +kernel) rfl (Nat.le_of_ble_eq_true rfl) ?_
  intro p e s m below meth c A ls hx hb hml hr hlocks hown hts w hl
  have hown : s.vm.findClass RX9 = some m.cls := hown
  have hl : lv_has ls 3 [(0, .ref (r 0)), (1, .int kd), (2, .int v)] := hl
  obtain ⟨⟨n, q, hA⟩, hMM⟩ := id hV
  have hA : IA S n q := hA
  have e0 : cN (S 0) = n := by rw [hA.1.1, cN_nI (by have := hA.1.2.1; omega)]
  have e1 : cN (S 49) = q := by rw [hA.1.2.2.1, cN_nI (by have := hA.1.2.2.2.1; omega)]
  obtain ⟨cc0, x0, hmr, hmrow⟩ := id hMM.1
  have hmo : mOK M x0 := ⟨hmr.2.2.2.2.1, hmr.2.1⟩
  have hK : ∀ j, v = nI j → j ≤ 50 → (wDraw S v).1 = 0 → ∀ k, k ≤ j → ∃ q', pSh (oDrawN k (S, M)).2.1 n q' ∧ nOK (oDrawN k (S, M)).2.1 ∧ (k < j → 0 < q') := fun j e h50 hW k hk => by
    obtain ⟨q', x', a, b, c, d⟩ := draw_K hA hmo v j e h50 hW k hk
    exact ⟨q', a, b, d⟩
  refine lv_iload_n hx hb dX9_does_0 rfl (lv_at hl 1 rfl) ?_
  by_cases d_106 : kd = 106
  · refine r_eq (y := 106) d_106 ?_
    refine lv_tableIn (tgt := 92) hx hb dX9_does_1 (by decide) (by decide) rfl (by decide) ?_
    refine lv_aload_n hx hb dX9_does_92 rfl (lv_at hl 0 rfl) ?_
    refine lv_iload_n hx hb dX9_does_93 rfl (lv_at hl 2 rfl) ?_
    refine k_iV (As := [.int v]) (rest := []) (Rs := []) (Bs' := [moB r (hnd (wJoin S v) F), arB ty (r 1) 215 (sqA 215 (gR (wJoin S v) (oJL n (cN v) q (S, M)).2.1 S))]) ⟨hx, hb, hml, hown, hts⟩ w (c_X9_joins l D ty r F S hF n q hA.1 hA.2.1 M v) (cwV 1 hts gX9_does_X9_joins rfl rfl rfl ⟨rfl, hdN_X9_joins⟩ ⟨Nat.le_of_ble_eq_true rfl, Nat.le_of_ble_eq_true rfl⟩) [0, 1] (nB := 2) (by decide) rfl rfl rfl rfl 0 rfl rfl (ci := 13) rfl rfl rfl hl.1 rfl (Nat.le_of_ble_eq_true rfl) dX9_does_94 ⟨(Nat.zero_le _), (Nat.zero_le _)⟩ (fun H locs w => ?_)
    exact e_i hx hb hr hlocks (w.cast (by rw [dW, if_pos d_106, dX, if_pos d_106, if_neg (fun q => absurd (d_106.symm.trans q) (by decide)), e0, e1])) (by rw [dRv, if_pos d_106, e0, e1]) dX9_does_97 (Nat.le_refl _) (Nat.le_refl _)
  by_cases d_108 : kd = 108
  · refine r_eq (y := 108) d_108 ?_
    refine lv_tableIn (tgt := 98) hx hb dX9_does_1 (by decide) (by decide) rfl (by decide) ?_
    refine lv_aload_n hx hb dX9_does_98 rfl (lv_at hl 0 rfl) ?_
    refine lv_iload_n hx hb dX9_does_99 rfl (lv_at hl 2 rfl) ?_
    refine k_iV (As := [.int v]) (rest := []) (Rs := []) (Bs' := [moB r (hnd (wLeave S v) F), arB ty (r 1) 215 (sqA 215 (gR (wLeave S v) (sGo S q (cN (pPl S v q))) S))]) ⟨hx, hb, hml, hown, hts⟩ w (c_X9_leaves l D ty r F S hF n q hA.1 v) (cwV 1 hts gX9_does_X9_leaves rfl rfl rfl ⟨rfl, hdN_X9_leaves⟩ ⟨Nat.le_of_ble_eq_true rfl, Nat.le_of_ble_eq_true rfl⟩) [0, 1] (nB := 2) (by decide) rfl rfl rfl rfl 0 rfl rfl (ci := 13) rfl rfl rfl hl.1 rfl (Nat.le_of_ble_eq_true rfl) dX9_does_100 ⟨(Nat.zero_le _), (Nat.zero_le _)⟩ (fun H locs w => ?_)
    exact e_i hx hb hr hlocks (w.cast (by rw [dW, if_neg d_106, if_pos d_108, dX, if_neg d_106, if_pos d_108, if_neg (fun q => absurd (d_108.symm.trans q) (by decide)), e1])) (by rw [dRv, if_neg d_106, if_pos d_108, e1]) dX9_does_103 (Nat.le_refl _) (Nat.le_refl _)
  by_cases d_100 : kd = 100
  · refine r_eq (y := 100) d_100 ?_
    refine lv_tableIn (tgt := 104) hx hb dX9_does_1 (by decide) (by decide) rfl (by decide) ?_
    refine lv_aload_n hx hb dX9_does_104 rfl (lv_at hl 0 rfl) ?_
    refine lv_iload_n hx hb dX9_does_105 rfl (lv_at hl 2 rfl) ?_
    refine k_iV (As := [.int v]) (rest := []) (Rs := []) (Bs' := [moB r (hnd (wDraw S v) F), arB ty (r 1) 215 (sqA 215 (gR (wDraw S v) (oDrawN (cN v) (S, M)).2.1 S))]) ⟨hx, hb, hml, hown, hts⟩ w (c_X9_draws l D ty r F S hF n q hA.1 hA.2.2.2.2.1 M v hK) (cwV 1 hts gX9_does_X9_draws rfl rfl rfl ⟨rfl, hdN_X9_draws⟩ ⟨Nat.le_of_ble_eq_true rfl, Nat.le_of_ble_eq_true rfl⟩) [0, 1] (nB := 2) (by decide) rfl rfl rfl rfl 0 rfl rfl (ci := 13) rfl rfl rfl hl.1 rfl (Nat.le_of_ble_eq_true rfl) dX9_does_106 ⟨(Nat.zero_le _), (Nat.zero_le _)⟩ (fun H locs w => ?_)
    exact e_i hx hb hr hlocks (w.cast (by rw [dW, if_neg d_106, if_neg d_108, if_pos d_100, dX, if_neg d_106, if_neg d_108, if_pos d_100, if_neg (fun q => absurd (d_100.symm.trans q) (by decide))])) (by rw [dRv, if_neg d_106, if_neg d_108, if_pos d_100]) dX9_does_109 (Nat.le_refl _) (Nat.le_refl _)
  by_cases d_110 : kd = 110
  · refine r_eq (y := 110) d_110 ?_
    refine lv_tableIn (tgt := 110) hx hb dX9_does_1 (by decide) (by decide) rfl (by decide) ?_
    refine lv_aload_n hx hb dX9_does_110 rfl (lv_at hl 0 rfl) ?_
    refine lv_iload_n hx hb dX9_does_111 rfl (lv_at hl 2 rfl) ?_
    refine k_iV (As := [.int v]) (rest := []) (Rs := []) (Bs' := [moB r (hnd (wNight v) F), arB ty (r 1) 215 (sqA 215 (gR (wNight v) (sNightN n (cN v) S) S))]) ⟨hx, hb, hml, hown, hts⟩ w (c_X9_nights l D ty r F S hF n hA.1.1 hA.1.2.1 v) (cwV 1 hts gX9_does_X9_nights rfl rfl rfl ⟨rfl, hdN_X9_nights⟩ ⟨Nat.le_of_ble_eq_true rfl, Nat.le_of_ble_eq_true rfl⟩) [0, 1] (nB := 2) (by decide) rfl rfl rfl rfl 0 rfl rfl (ci := 13) rfl rfl rfl hl.1 rfl (Nat.le_of_ble_eq_true rfl) dX9_does_112 ⟨(Nat.zero_le _), (Nat.zero_le _)⟩ (fun H locs w => ?_)
    exact e_i hx hb hr hlocks (w.cast (by rw [dW, if_neg d_106, if_neg d_108, if_neg d_100, if_pos d_110, dX, if_neg d_106, if_neg d_108, if_neg d_100, if_pos d_110, if_neg (fun q => absurd (d_110.symm.trans q) (by decide)), e0])) (by rw [dRv, if_neg d_106, if_neg d_108, if_neg d_100, if_pos d_110, e0]) dX9_does_115 (Nat.le_refl _) (Nat.le_refl _)
  by_cases d_114 : kd = 114
  · refine r_eq (y := 114) d_114 ?_
    refine lv_tableIn (tgt := 116) hx hb dX9_does_1 (by decide) (by decide) rfl (by decide) ?_
    refine lv_aload_n hx hb dX9_does_116 rfl (lv_at hl 0 rfl) ?_
    refine lv_iload_n hx hb dX9_does_117 rfl (lv_at hl 2 rfl) ?_
    refine k_iV (As := [.int v]) (rest := []) (Rs := []) (Bs' := [moB r (hnd (wRain v) F), arB ty (r 1) 215 (sqA 215 (upd S 208 v))]) ⟨hx, hb, hml, hown, hts⟩ w (c_X9_rains l D ty r F S hF v) (cwV 1 hts gX9_does_X9_rains rfl rfl rfl ⟨rfl, hdN_X9_rains⟩ ⟨Nat.le_of_ble_eq_true rfl, Nat.le_of_ble_eq_true rfl⟩) [0, 1] (nB := 2) (by decide) rfl rfl rfl rfl 0 rfl rfl (ci := 13) rfl rfl rfl hl.1 rfl (Nat.le_of_ble_eq_true rfl) dX9_does_118 ⟨(Nat.zero_le _), (Nat.zero_le _)⟩ (fun H locs w => ?_)
    exact e_i hx hb hr hlocks (w.cast (by rw [dW, if_neg d_106, if_neg d_108, if_neg d_100, if_neg d_110, if_pos d_114, dX, if_neg d_106, if_neg d_108, if_neg d_100, if_neg d_110, if_pos d_114, if_pos d_114, gR_same])) (by rw [dRv, if_neg d_106, if_neg d_108, if_neg d_100, if_neg d_110, if_pos d_114]) dX9_does_121 (Nat.le_refl _) (Nat.le_refl _)
  by_cases d_118 : kd = 118
  · refine r_eq (y := 118) d_118 ?_
    refine lv_tableIn (tgt := 122) hx hb dX9_does_1 (by decide) (by decide) rfl (by decide) ?_
    refine lv_aload_n hx hb dX9_does_122 rfl (lv_at hl 0 rfl) ?_
    refine k_iV (As := []) (rest := []) (Rs := []) (Bs' := [moB r (hnd (wVote S) F), arB ty (r 1) 215 (sqA 215 (gR (wVote S) (oVote (S, M)).2.1 S))]) ⟨hx, hb, hml, hown, hts⟩ w (c_X9_votes l D ty r F S hF n q hA.1 hA.2.1 M) (cwV 0 hts gX9_does_X9_votes rfl rfl rfl ⟨rfl, hdN_X9_votes⟩ ⟨Nat.le_of_ble_eq_true rfl, Nat.le_of_ble_eq_true rfl⟩) [0, 1] (nB := 2) (by decide) rfl rfl rfl rfl 0 rfl rfl (ci := 13) rfl rfl rfl hl.1 rfl (Nat.le_of_ble_eq_true rfl) dX9_does_123 ⟨(Nat.zero_le _), (Nat.zero_le _)⟩ (fun H locs w => ?_)
    exact e_i hx hb hr hlocks (w.cast (by rw [dW, if_neg d_106, if_neg d_108, if_neg d_100, if_neg d_110, if_neg d_114, if_pos d_118, dX, if_neg d_106, if_neg d_108, if_neg d_100, if_neg d_110, if_neg d_114, if_pos d_118, if_neg (fun q => absurd (d_118.symm.trans q) (by decide))])) (by rw [dRv, if_neg d_106, if_neg d_108, if_neg d_100, if_neg d_110, if_neg d_114, if_pos d_118]) dX9_does_126 (Nat.le_refl _) (Nat.le_refl _)
  by_cases d_101 : kd = 101
  · refine r_eq (y := 101) d_101 ?_
    refine lv_tableIn (tgt := 127) hx hb dX9_does_1 (by decide) (by decide) rfl (by decide) ?_
    refine lv_aload_n hx hb dX9_does_127 rfl (lv_at hl 0 rfl) ?_
    refine k_iV (As := []) (rest := []) (Rs := []) (Bs' := [moB r (hnd (wLeather S) F), arB ty (r 1) 215 (sqA 215 (gR (wLeather S) (oRenew (S, M)).2.1 S))]) ⟨hx, hb, hml, hown, hts⟩ w (c_X9_renews l D ty r F S hF hA.2.1 M) (cwV 0 hts gX9_does_X9_renews rfl rfl rfl ⟨rfl, hdN_X9_renews⟩ ⟨Nat.le_of_ble_eq_true rfl, Nat.le_of_ble_eq_true rfl⟩) [0, 1] (nB := 2) (by decide) rfl rfl rfl rfl 0 rfl rfl (ci := 13) rfl rfl rfl hl.1 rfl (Nat.le_of_ble_eq_true rfl) dX9_does_128 ⟨(Nat.zero_le _), (Nat.zero_le _)⟩ (fun H locs w => ?_)
    exact e_i hx hb hr hlocks (w.cast (by rw [dW, if_neg d_106, if_neg d_108, if_neg d_100, if_neg d_110, if_neg d_114, if_neg d_118, dX, if_neg d_106, if_neg d_108, if_neg d_100, if_neg d_110, if_neg d_114, if_neg d_118, if_neg d_114])) (by rw [dRv, if_neg d_106, if_neg d_108, if_neg d_100, if_neg d_110, if_neg d_114, if_neg d_118]) dX9_does_131 (Nat.le_refl _) (Nat.le_refl _)
  by_cases d_102 : kd = 102
  · refine r_eq (y := 102) d_102 ?_
    refine lv_tableIn (tgt := 127) hx hb dX9_does_1 (by decide) (by decide) rfl (by decide) ?_
    refine lv_aload_n hx hb dX9_does_127 rfl (lv_at hl 0 rfl) ?_
    refine k_iV (As := []) (rest := []) (Rs := []) (Bs' := [moB r (hnd (wLeather S) F), arB ty (r 1) 215 (sqA 215 (gR (wLeather S) (oRenew (S, M)).2.1 S))]) ⟨hx, hb, hml, hown, hts⟩ w (c_X9_renews l D ty r F S hF hA.2.1 M) (cwV 0 hts gX9_does_X9_renews rfl rfl rfl ⟨rfl, hdN_X9_renews⟩ ⟨Nat.le_of_ble_eq_true rfl, Nat.le_of_ble_eq_true rfl⟩) [0, 1] (nB := 2) (by decide) rfl rfl rfl rfl 0 rfl rfl (ci := 13) rfl rfl rfl hl.1 rfl (Nat.le_of_ble_eq_true rfl) dX9_does_128 ⟨(Nat.zero_le _), (Nat.zero_le _)⟩ (fun H locs w => ?_)
    exact e_i hx hb hr hlocks (w.cast (by rw [dW, if_neg d_106, if_neg d_108, if_neg d_100, if_neg d_110, if_neg d_114, if_neg d_118, dX, if_neg d_106, if_neg d_108, if_neg d_100, if_neg d_110, if_neg d_114, if_neg d_118, if_neg d_114])) (by rw [dRv, if_neg d_106, if_neg d_108, if_neg d_100, if_neg d_110, if_neg d_114, if_neg d_118]) dX9_does_131 (Nat.le_refl _) (Nat.le_refl _)
  by_cases d_103 : kd = 103
  · refine r_eq (y := 103) d_103 ?_
    refine lv_tableIn (tgt := 127) hx hb dX9_does_1 (by decide) (by decide) rfl (by decide) ?_
    refine lv_aload_n hx hb dX9_does_127 rfl (lv_at hl 0 rfl) ?_
    refine k_iV (As := []) (rest := []) (Rs := []) (Bs' := [moB r (hnd (wLeather S) F), arB ty (r 1) 215 (sqA 215 (gR (wLeather S) (oRenew (S, M)).2.1 S))]) ⟨hx, hb, hml, hown, hts⟩ w (c_X9_renews l D ty r F S hF hA.2.1 M) (cwV 0 hts gX9_does_X9_renews rfl rfl rfl ⟨rfl, hdN_X9_renews⟩ ⟨Nat.le_of_ble_eq_true rfl, Nat.le_of_ble_eq_true rfl⟩) [0, 1] (nB := 2) (by decide) rfl rfl rfl rfl 0 rfl rfl (ci := 13) rfl rfl rfl hl.1 rfl (Nat.le_of_ble_eq_true rfl) dX9_does_128 ⟨(Nat.zero_le _), (Nat.zero_le _)⟩ (fun H locs w => ?_)
    exact e_i hx hb hr hlocks (w.cast (by rw [dW, if_neg d_106, if_neg d_108, if_neg d_100, if_neg d_110, if_neg d_114, if_neg d_118, dX, if_neg d_106, if_neg d_108, if_neg d_100, if_neg d_110, if_neg d_114, if_neg d_118, if_neg d_114])) (by rw [dRv, if_neg d_106, if_neg d_108, if_neg d_100, if_neg d_110, if_neg d_114, if_neg d_118]) dX9_does_131 (Nat.le_refl _) (Nat.le_refl _)
  by_cases d_104 : kd = 104
  · refine r_eq (y := 104) d_104 ?_
    refine lv_tableIn (tgt := 127) hx hb dX9_does_1 (by decide) (by decide) rfl (by decide) ?_
    refine lv_aload_n hx hb dX9_does_127 rfl (lv_at hl 0 rfl) ?_
    refine k_iV (As := []) (rest := []) (Rs := []) (Bs' := [moB r (hnd (wLeather S) F), arB ty (r 1) 215 (sqA 215 (gR (wLeather S) (oRenew (S, M)).2.1 S))]) ⟨hx, hb, hml, hown, hts⟩ w (c_X9_renews l D ty r F S hF hA.2.1 M) (cwV 0 hts gX9_does_X9_renews rfl rfl rfl ⟨rfl, hdN_X9_renews⟩ ⟨Nat.le_of_ble_eq_true rfl, Nat.le_of_ble_eq_true rfl⟩) [0, 1] (nB := 2) (by decide) rfl rfl rfl rfl 0 rfl rfl (ci := 13) rfl rfl rfl hl.1 rfl (Nat.le_of_ble_eq_true rfl) dX9_does_128 ⟨(Nat.zero_le _), (Nat.zero_le _)⟩ (fun H locs w => ?_)
    exact e_i hx hb hr hlocks (w.cast (by rw [dW, if_neg d_106, if_neg d_108, if_neg d_100, if_neg d_110, if_neg d_114, if_neg d_118, dX, if_neg d_106, if_neg d_108, if_neg d_100, if_neg d_110, if_neg d_114, if_neg d_118, if_neg d_114])) (by rw [dRv, if_neg d_106, if_neg d_108, if_neg d_100, if_neg d_110, if_neg d_114, if_neg d_118]) dX9_does_131 (Nat.le_refl _) (Nat.le_refl _)
  by_cases d_105 : kd = 105
  · refine r_eq (y := 105) d_105 ?_
    refine lv_tableIn (tgt := 127) hx hb dX9_does_1 (by decide) (by decide) rfl (by decide) ?_
    refine lv_aload_n hx hb dX9_does_127 rfl (lv_at hl 0 rfl) ?_
    refine k_iV (As := []) (rest := []) (Rs := []) (Bs' := [moB r (hnd (wLeather S) F), arB ty (r 1) 215 (sqA 215 (gR (wLeather S) (oRenew (S, M)).2.1 S))]) ⟨hx, hb, hml, hown, hts⟩ w (c_X9_renews l D ty r F S hF hA.2.1 M) (cwV 0 hts gX9_does_X9_renews rfl rfl rfl ⟨rfl, hdN_X9_renews⟩ ⟨Nat.le_of_ble_eq_true rfl, Nat.le_of_ble_eq_true rfl⟩) [0, 1] (nB := 2) (by decide) rfl rfl rfl rfl 0 rfl rfl (ci := 13) rfl rfl rfl hl.1 rfl (Nat.le_of_ble_eq_true rfl) dX9_does_128 ⟨(Nat.zero_le _), (Nat.zero_le _)⟩ (fun H locs w => ?_)
    exact e_i hx hb hr hlocks (w.cast (by rw [dW, if_neg d_106, if_neg d_108, if_neg d_100, if_neg d_110, if_neg d_114, if_neg d_118, dX, if_neg d_106, if_neg d_108, if_neg d_100, if_neg d_110, if_neg d_114, if_neg d_118, if_neg d_114])) (by rw [dRv, if_neg d_106, if_neg d_108, if_neg d_100, if_neg d_110, if_neg d_114, if_neg d_118]) dX9_does_131 (Nat.le_refl _) (Nat.le_refl _)
  by_cases d_107 : kd = 107
  · refine r_eq (y := 107) d_107 ?_
    refine lv_tableIn (tgt := 127) hx hb dX9_does_1 (by decide) (by decide) rfl (by decide) ?_
    refine lv_aload_n hx hb dX9_does_127 rfl (lv_at hl 0 rfl) ?_
    refine k_iV (As := []) (rest := []) (Rs := []) (Bs' := [moB r (hnd (wLeather S) F), arB ty (r 1) 215 (sqA 215 (gR (wLeather S) (oRenew (S, M)).2.1 S))]) ⟨hx, hb, hml, hown, hts⟩ w (c_X9_renews l D ty r F S hF hA.2.1 M) (cwV 0 hts gX9_does_X9_renews rfl rfl rfl ⟨rfl, hdN_X9_renews⟩ ⟨Nat.le_of_ble_eq_true rfl, Nat.le_of_ble_eq_true rfl⟩) [0, 1] (nB := 2) (by decide) rfl rfl rfl rfl 0 rfl rfl (ci := 13) rfl rfl rfl hl.1 rfl (Nat.le_of_ble_eq_true rfl) dX9_does_128 ⟨(Nat.zero_le _), (Nat.zero_le _)⟩ (fun H locs w => ?_)
    exact e_i hx hb hr hlocks (w.cast (by rw [dW, if_neg d_106, if_neg d_108, if_neg d_100, if_neg d_110, if_neg d_114, if_neg d_118, dX, if_neg d_106, if_neg d_108, if_neg d_100, if_neg d_110, if_neg d_114, if_neg d_118, if_neg d_114])) (by rw [dRv, if_neg d_106, if_neg d_108, if_neg d_100, if_neg d_110, if_neg d_114, if_neg d_118]) dX9_does_131 (Nat.le_refl _) (Nat.le_refl _)
  by_cases d_109 : kd = 109
  · refine r_eq (y := 109) d_109 ?_
    refine lv_tableIn (tgt := 127) hx hb dX9_does_1 (by decide) (by decide) rfl (by decide) ?_
    refine lv_aload_n hx hb dX9_does_127 rfl (lv_at hl 0 rfl) ?_
    refine k_iV (As := []) (rest := []) (Rs := []) (Bs' := [moB r (hnd (wLeather S) F), arB ty (r 1) 215 (sqA 215 (gR (wLeather S) (oRenew (S, M)).2.1 S))]) ⟨hx, hb, hml, hown, hts⟩ w (c_X9_renews l D ty r F S hF hA.2.1 M) (cwV 0 hts gX9_does_X9_renews rfl rfl rfl ⟨rfl, hdN_X9_renews⟩ ⟨Nat.le_of_ble_eq_true rfl, Nat.le_of_ble_eq_true rfl⟩) [0, 1] (nB := 2) (by decide) rfl rfl rfl rfl 0 rfl rfl (ci := 13) rfl rfl rfl hl.1 rfl (Nat.le_of_ble_eq_true rfl) dX9_does_128 ⟨(Nat.zero_le _), (Nat.zero_le _)⟩ (fun H locs w => ?_)
    exact e_i hx hb hr hlocks (w.cast (by rw [dW, if_neg d_106, if_neg d_108, if_neg d_100, if_neg d_110, if_neg d_114, if_neg d_118, dX, if_neg d_106, if_neg d_108, if_neg d_100, if_neg d_110, if_neg d_114, if_neg d_118, if_neg d_114])) (by rw [dRv, if_neg d_106, if_neg d_108, if_neg d_100, if_neg d_110, if_neg d_114, if_neg d_118]) dX9_does_131 (Nat.le_refl _) (Nat.le_refl _)
  by_cases d_111 : kd = 111
  · refine r_eq (y := 111) d_111 ?_
    refine lv_tableIn (tgt := 127) hx hb dX9_does_1 (by decide) (by decide) rfl (by decide) ?_
    refine lv_aload_n hx hb dX9_does_127 rfl (lv_at hl 0 rfl) ?_
    refine k_iV (As := []) (rest := []) (Rs := []) (Bs' := [moB r (hnd (wLeather S) F), arB ty (r 1) 215 (sqA 215 (gR (wLeather S) (oRenew (S, M)).2.1 S))]) ⟨hx, hb, hml, hown, hts⟩ w (c_X9_renews l D ty r F S hF hA.2.1 M) (cwV 0 hts gX9_does_X9_renews rfl rfl rfl ⟨rfl, hdN_X9_renews⟩ ⟨Nat.le_of_ble_eq_true rfl, Nat.le_of_ble_eq_true rfl⟩) [0, 1] (nB := 2) (by decide) rfl rfl rfl rfl 0 rfl rfl (ci := 13) rfl rfl rfl hl.1 rfl (Nat.le_of_ble_eq_true rfl) dX9_does_128 ⟨(Nat.zero_le _), (Nat.zero_le _)⟩ (fun H locs w => ?_)
    exact e_i hx hb hr hlocks (w.cast (by rw [dW, if_neg d_106, if_neg d_108, if_neg d_100, if_neg d_110, if_neg d_114, if_neg d_118, dX, if_neg d_106, if_neg d_108, if_neg d_100, if_neg d_110, if_neg d_114, if_neg d_118, if_neg d_114])) (by rw [dRv, if_neg d_106, if_neg d_108, if_neg d_100, if_neg d_110, if_neg d_114, if_neg d_118]) dX9_does_131 (Nat.le_refl _) (Nat.le_refl _)
  by_cases d_112 : kd = 112
  · refine r_eq (y := 112) d_112 ?_
    refine lv_tableIn (tgt := 127) hx hb dX9_does_1 (by decide) (by decide) rfl (by decide) ?_
    refine lv_aload_n hx hb dX9_does_127 rfl (lv_at hl 0 rfl) ?_
    refine k_iV (As := []) (rest := []) (Rs := []) (Bs' := [moB r (hnd (wLeather S) F), arB ty (r 1) 215 (sqA 215 (gR (wLeather S) (oRenew (S, M)).2.1 S))]) ⟨hx, hb, hml, hown, hts⟩ w (c_X9_renews l D ty r F S hF hA.2.1 M) (cwV 0 hts gX9_does_X9_renews rfl rfl rfl ⟨rfl, hdN_X9_renews⟩ ⟨Nat.le_of_ble_eq_true rfl, Nat.le_of_ble_eq_true rfl⟩) [0, 1] (nB := 2) (by decide) rfl rfl rfl rfl 0 rfl rfl (ci := 13) rfl rfl rfl hl.1 rfl (Nat.le_of_ble_eq_true rfl) dX9_does_128 ⟨(Nat.zero_le _), (Nat.zero_le _)⟩ (fun H locs w => ?_)
    exact e_i hx hb hr hlocks (w.cast (by rw [dW, if_neg d_106, if_neg d_108, if_neg d_100, if_neg d_110, if_neg d_114, if_neg d_118, dX, if_neg d_106, if_neg d_108, if_neg d_100, if_neg d_110, if_neg d_114, if_neg d_118, if_neg d_114])) (by rw [dRv, if_neg d_106, if_neg d_108, if_neg d_100, if_neg d_110, if_neg d_114, if_neg d_118]) dX9_does_131 (Nat.le_refl _) (Nat.le_refl _)
  by_cases d_113 : kd = 113
  · refine r_eq (y := 113) d_113 ?_
    refine lv_tableIn (tgt := 127) hx hb dX9_does_1 (by decide) (by decide) rfl (by decide) ?_
    refine lv_aload_n hx hb dX9_does_127 rfl (lv_at hl 0 rfl) ?_
    refine k_iV (As := []) (rest := []) (Rs := []) (Bs' := [moB r (hnd (wLeather S) F), arB ty (r 1) 215 (sqA 215 (gR (wLeather S) (oRenew (S, M)).2.1 S))]) ⟨hx, hb, hml, hown, hts⟩ w (c_X9_renews l D ty r F S hF hA.2.1 M) (cwV 0 hts gX9_does_X9_renews rfl rfl rfl ⟨rfl, hdN_X9_renews⟩ ⟨Nat.le_of_ble_eq_true rfl, Nat.le_of_ble_eq_true rfl⟩) [0, 1] (nB := 2) (by decide) rfl rfl rfl rfl 0 rfl rfl (ci := 13) rfl rfl rfl hl.1 rfl (Nat.le_of_ble_eq_true rfl) dX9_does_128 ⟨(Nat.zero_le _), (Nat.zero_le _)⟩ (fun H locs w => ?_)
    exact e_i hx hb hr hlocks (w.cast (by rw [dW, if_neg d_106, if_neg d_108, if_neg d_100, if_neg d_110, if_neg d_114, if_neg d_118, dX, if_neg d_106, if_neg d_108, if_neg d_100, if_neg d_110, if_neg d_114, if_neg d_118, if_neg d_114])) (by rw [dRv, if_neg d_106, if_neg d_108, if_neg d_100, if_neg d_110, if_neg d_114, if_neg d_118]) dX9_does_131 (Nat.le_refl _) (Nat.le_refl _)
  by_cases d_115 : kd = 115
  · refine r_eq (y := 115) d_115 ?_
    refine lv_tableIn (tgt := 127) hx hb dX9_does_1 (by decide) (by decide) rfl (by decide) ?_
    refine lv_aload_n hx hb dX9_does_127 rfl (lv_at hl 0 rfl) ?_
    refine k_iV (As := []) (rest := []) (Rs := []) (Bs' := [moB r (hnd (wLeather S) F), arB ty (r 1) 215 (sqA 215 (gR (wLeather S) (oRenew (S, M)).2.1 S))]) ⟨hx, hb, hml, hown, hts⟩ w (c_X9_renews l D ty r F S hF hA.2.1 M) (cwV 0 hts gX9_does_X9_renews rfl rfl rfl ⟨rfl, hdN_X9_renews⟩ ⟨Nat.le_of_ble_eq_true rfl, Nat.le_of_ble_eq_true rfl⟩) [0, 1] (nB := 2) (by decide) rfl rfl rfl rfl 0 rfl rfl (ci := 13) rfl rfl rfl hl.1 rfl (Nat.le_of_ble_eq_true rfl) dX9_does_128 ⟨(Nat.zero_le _), (Nat.zero_le _)⟩ (fun H locs w => ?_)
    exact e_i hx hb hr hlocks (w.cast (by rw [dW, if_neg d_106, if_neg d_108, if_neg d_100, if_neg d_110, if_neg d_114, if_neg d_118, dX, if_neg d_106, if_neg d_108, if_neg d_100, if_neg d_110, if_neg d_114, if_neg d_118, if_neg d_114])) (by rw [dRv, if_neg d_106, if_neg d_108, if_neg d_100, if_neg d_110, if_neg d_114, if_neg d_118]) dX9_does_131 (Nat.le_refl _) (Nat.le_refl _)
  by_cases d_116 : kd = 116
  · refine r_eq (y := 116) d_116 ?_
    refine lv_tableIn (tgt := 127) hx hb dX9_does_1 (by decide) (by decide) rfl (by decide) ?_
    refine lv_aload_n hx hb dX9_does_127 rfl (lv_at hl 0 rfl) ?_
    refine k_iV (As := []) (rest := []) (Rs := []) (Bs' := [moB r (hnd (wLeather S) F), arB ty (r 1) 215 (sqA 215 (gR (wLeather S) (oRenew (S, M)).2.1 S))]) ⟨hx, hb, hml, hown, hts⟩ w (c_X9_renews l D ty r F S hF hA.2.1 M) (cwV 0 hts gX9_does_X9_renews rfl rfl rfl ⟨rfl, hdN_X9_renews⟩ ⟨Nat.le_of_ble_eq_true rfl, Nat.le_of_ble_eq_true rfl⟩) [0, 1] (nB := 2) (by decide) rfl rfl rfl rfl 0 rfl rfl (ci := 13) rfl rfl rfl hl.1 rfl (Nat.le_of_ble_eq_true rfl) dX9_does_128 ⟨(Nat.zero_le _), (Nat.zero_le _)⟩ (fun H locs w => ?_)
    exact e_i hx hb hr hlocks (w.cast (by rw [dW, if_neg d_106, if_neg d_108, if_neg d_100, if_neg d_110, if_neg d_114, if_neg d_118, dX, if_neg d_106, if_neg d_108, if_neg d_100, if_neg d_110, if_neg d_114, if_neg d_118, if_neg d_114])) (by rw [dRv, if_neg d_106, if_neg d_108, if_neg d_100, if_neg d_110, if_neg d_114, if_neg d_118]) dX9_does_131 (Nat.le_refl _) (Nat.le_refl _)
  by_cases d_117 : kd = 117
  · refine r_eq (y := 117) d_117 ?_
    refine lv_tableIn (tgt := 127) hx hb dX9_does_1 (by decide) (by decide) rfl (by decide) ?_
    refine lv_aload_n hx hb dX9_does_127 rfl (lv_at hl 0 rfl) ?_
    refine k_iV (As := []) (rest := []) (Rs := []) (Bs' := [moB r (hnd (wLeather S) F), arB ty (r 1) 215 (sqA 215 (gR (wLeather S) (oRenew (S, M)).2.1 S))]) ⟨hx, hb, hml, hown, hts⟩ w (c_X9_renews l D ty r F S hF hA.2.1 M) (cwV 0 hts gX9_does_X9_renews rfl rfl rfl ⟨rfl, hdN_X9_renews⟩ ⟨Nat.le_of_ble_eq_true rfl, Nat.le_of_ble_eq_true rfl⟩) [0, 1] (nB := 2) (by decide) rfl rfl rfl rfl 0 rfl rfl (ci := 13) rfl rfl rfl hl.1 rfl (Nat.le_of_ble_eq_true rfl) dX9_does_128 ⟨(Nat.zero_le _), (Nat.zero_le _)⟩ (fun H locs w => ?_)
    exact e_i hx hb hr hlocks (w.cast (by rw [dW, if_neg d_106, if_neg d_108, if_neg d_100, if_neg d_110, if_neg d_114, if_neg d_118, dX, if_neg d_106, if_neg d_108, if_neg d_100, if_neg d_110, if_neg d_114, if_neg d_118, if_neg d_114])) (by rw [dRv, if_neg d_106, if_neg d_108, if_neg d_100, if_neg d_110, if_neg d_114, if_neg d_118]) dX9_does_131 (Nat.le_refl _) (Nat.le_refl _)
  refine lv_tableOut (tgt := 127) hx hb dX9_does_1 (sw_out 100 118 (fun v h1 h2 e => by
    have h3 : v = 100 ∨ v = 101 ∨ v = 102 ∨ v = 103 ∨ v = 104 ∨ v = 105 ∨ v = 106 ∨ v = 107 ∨ v = 108 ∨ v = 109 ∨ v = 110 ∨ v = 111 ∨ v = 112 ∨ v = 113 ∨ v = 114 ∨ v = 115 ∨ v = 116 ∨ v = 117 ∨ v = 118 := by omega
    rcases h3 with rfl | rfl | rfl | rfl | rfl | rfl | rfl | rfl | rfl | rfl | rfl | rfl | rfl | rfl | rfl | rfl | rfl | rfl | rfl
    · exact d_100 (Int32.toInt_inj.mp e)
    · exact d_101 (Int32.toInt_inj.mp e)
    · exact d_102 (Int32.toInt_inj.mp e)
    · exact d_103 (Int32.toInt_inj.mp e)
    · exact d_104 (Int32.toInt_inj.mp e)
    · exact d_105 (Int32.toInt_inj.mp e)
    · exact d_106 (Int32.toInt_inj.mp e)
    · exact d_107 (Int32.toInt_inj.mp e)
    · exact d_108 (Int32.toInt_inj.mp e)
    · exact d_109 (Int32.toInt_inj.mp e)
    · exact d_110 (Int32.toInt_inj.mp e)
    · exact d_111 (Int32.toInt_inj.mp e)
    · exact d_112 (Int32.toInt_inj.mp e)
    · exact d_113 (Int32.toInt_inj.mp e)
    · exact d_114 (Int32.toInt_inj.mp e)
    · exact d_115 (Int32.toInt_inj.mp e)
    · exact d_116 (Int32.toInt_inj.mp e)
    · exact d_117 (Int32.toInt_inj.mp e)
    · exact d_118 (Int32.toInt_inj.mp e)
    )) (by decide) ?_
  refine lv_aload_n hx hb dX9_does_127 rfl (lv_at hl 0 rfl) ?_
  refine k_iV (As := []) (rest := []) (Rs := []) (Bs' := [moB r (hnd (wLeather S) F), arB ty (r 1) 215 (sqA 215 (gR (wLeather S) (oRenew (S, M)).2.1 S))]) ⟨hx, hb, hml, hown, hts⟩ w (c_X9_renews l D ty r F S hF hA.2.1 M) (cwV 0 hts gX9_does_X9_renews rfl rfl rfl ⟨rfl, hdN_X9_renews⟩ ⟨Nat.le_of_ble_eq_true rfl, Nat.le_of_ble_eq_true rfl⟩) [0, 1] (nB := 2) (by decide) rfl rfl rfl rfl 0 rfl rfl (ci := 13) rfl rfl rfl hl.1 rfl (Nat.le_of_ble_eq_true rfl) dX9_does_128 ⟨(Nat.zero_le _), (Nat.zero_le _)⟩ (fun H locs w => ?_)
  exact e_i hx hb hr hlocks (w.cast (by rw [dW, if_neg d_106, if_neg d_108, if_neg d_100, if_neg d_110, if_neg d_114, if_neg d_118, dX, if_neg d_106, if_neg d_108, if_neg d_100, if_neg d_110, if_neg d_114, if_neg d_118, if_neg d_114])) (by rw [dRv, if_neg d_106, if_neg d_108, if_neg d_100, if_neg d_110, if_neg d_114, if_neg d_118]) dX9_does_131 (Nat.le_refl _) (Nat.le_refl _)
