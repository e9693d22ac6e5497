theorem in_X8_householdOf_X2 : ∀ w ∈ wsX20, w ∈ wsX8_householdOf := by decide +kernel
theorem in_X8_householdOf_X6 : ∀ w ∈ wsX60, w ∈ wsX8_householdOf := by decide +kernel
theorem in_X8_householdOf_X8 : ∀ w ∈ wsX80, w ∈ wsX8_householdOf := by decide +kernel
theorem inx_X8_householdOf_161 : ∀ w ∈ (vx_atS RX8 161 "java/lang/IndexOutOfBoundsException" ["java/lang/RuntimeException", "java/lang/Exception"]).filter goodWord, w ∈ wsX8_householdOf := by decide +kernel
theorem inx_X8_householdOf_200 : ∀ w ∈ (vx_atS RX8 200 "java/lang/IllegalArgumentException" ["java/lang/RuntimeException", "java/lang/Exception"]).filter goodWord, w ∈ wsX8_householdOf := by decide +kernel
theorem hdN_X8_householdOf : yX8_householdOf.cls ≠ "java/lang/invoke/MethodHandle" ∧ yX8_householdOf.cls ≠ "java/lang/invoke/VarHandle" ∧ (parseMethodDescriptor yX8_householdOf.desc).map (fun d => d.parameters.length) = some 2 := by decide +kernel
set_option maxRecDepth 100000 in
set_option maxHeartbeats 4000000 in
theorem c_X8_householdOf (l : Launch) (hst : l.stackTraces = false) (D : va_G) (ty : Nat → ClassId) (o : Nat) (a b sn h t : Nat → Nat) (r sb : Nat) (hs lf : Int32) (S M : pS) (n q : Nat) (hA : IA S n q) (v y : Int32) : Xi l yX8_householdOf wsX8_householdOf (kR 6 90 1 6) D (kTY ty) [.ref o, .int v, .int y] [ppB o (a 0) (b 0) (sn 0) (h 0) r (t 0) sb hs lf, stB a S, lnB ty a S, quB ty a S, weB a S, miB ty a M] (tHo n v y = 0) [ppB o (a 0) (b 0) (sn 0) (h 0) r (t 0) sb hs lf, stB a S, lnB ty a S, quB ty a S, weB a S, miB ty a M] (vHo S q v y) (if tHo n v y = 2 then "java/lang/IllegalArgumentException" else "java/lang/IndexOutOfBoundsException") [ppB o (a 0) (b 0) (sn 0) (h 0) r (t 0) sb hs lf, stB a S, lnB ty a S, quB ty a S, weB a S, miB ty a M] 1 6 := by
  refine m_xi (cc := cX8_householdOf) (maxL := 3) (ret := (some .int)) (by decide +kernel) rfl (Nat.le_of_ble_eq_true rfl) ?_
  intro p e s m below meth c A ls hx hb hml hr hlocks hown hts hex hz w hl
  have hown : s.vm.findClass RX8 = some m.cls := hown
  have hl : lv_has ls 3 [(0, .ref o), (1, .int v), (2, .int y)] := hl
  have hI := hA.1
  obtain ⟨h0, hn, h1, hq, he, hd, hdr, hwr⟩ := id hI
  refine lv_aload_n hx hb dX8_householdOf_0 rfl (lv_at hl 0 rfl) ?_
  refine r_get (v' := .ref (a 0)) hx hb hts in_X8_householdOf_X8 hown w 0 0 rfl rfl (ci := 12) rfl 0 (by decide) (hts _ (List.mem_of_getElem? (i := 5) rfl)) rfl rfl rfl dX8_householdOf_1 ?_
  refine r_getN (v' := .ref (a 1)) hx hb hts in_X8_householdOf_X6 hown w 1 0 rfl rfl (ci := 10) rfl 0 (by decide) (w.2.2.2.2.2 _ (List.mem_of_getElem? (i := 33) rfl)) rfl rfl rfl dX8_householdOf_4 ?_
  refine lv_iload_n hx hb dX8_householdOf_7 rfl (lv_at hl 1 rfl) ?_
  refine k_iVN (As := [.int v]) (rest := []) (Rs := [ppB o (a 0) (b 0) (sn 0) (h 0) r (t 0) sb hs lf, stB a S, quB ty a S, weB a S, miB ty a M]) (Bs' := [ppB o (a 0) (b 0) (sn 0) (h 0) r (t 0) sb hs lf, stB a S, lnB ty a S, quB ty a S, weB a S, miB ty a M]) ⟨hx, hb, hml, hown, hts⟩ w (c_X2_has l D ty a S n (hI).1 (hI).2.1 v) ⟨va_cnB 1 hts gX8_householdOf_X2_has_n153 rfl rfl rfl (w.2.2.2.2.2 _ (List.mem_of_getElem? (i := 86) rfl)) (hts _ (List.mem_of_getElem? (i := 7) rfl)) hdN_X2_has ⟨Nat.le_of_ble_eq_true rfl, Nat.le_of_ble_eq_true rfl⟩, (hts _ (List.mem_of_getElem? (i := 6) rfl)), (hts _ (List.mem_of_getElem? (i := 8) rfl))⟩ [2, 0, 1, 3, 4, 5] (nB := 6) (by decide) rfl rfl rfl rfl 2 rfl rfl (ci := 6) rfl rfl rfl hl.1 rfl (Nat.le_of_ble_eq_true rfl) dX8_householdOf_8 ⟨(Nat.zero_le _), (Nat.zero_le _)⟩ (fun H locs w => ?_)
  refine lv_if_ne (tgt := 24) hx hb dX8_householdOf_11 (by decide) (fun c11 => ?_) (fun c11 => ?_)
  · have c11 := bI_1.mp c11
    obtain ⟨i, ggi, rfl⟩ := (pHas_iff (by omega)).mp c11
    refine lv_iload_n hx hb dX8_householdOf_24 rfl (lv_at hl 2 rfl) ?_
    by_cases e25_0 : y = 0
    · have hok : tHo n (nI i) y = 0 := by rw [tHo, if_pos c11, e25_0, if_pos (by decide)]
      have hvv : vHo S q (nI i) y = vHo S q (nI i) 0 := by rw [e25_0]
      refine r_eq (y := 0) e25_0 ?_
      refine lv_tableIn (tgt := 76) hx hb dX8_householdOf_25 (by decide) (by decide) rfl (by decide) ?_
      refine lv_aload_n hx hb dX8_householdOf_76 rfl (lv_at hl 0 rfl) ?_
      refine r_get (v' := .ref (a 0)) hx hb hts in_X8_householdOf_X8 hown w 0 0 rfl rfl (ci := 12) rfl 0 (by decide) (hts _ (List.mem_of_getElem? (i := 5) rfl)) rfl rfl rfl dX8_householdOf_77 ?_
      refine r_getN (v' := .ref (a 1)) hx hb hts in_X8_householdOf_X6 hown w 1 0 rfl rfl (ci := 10) rfl 0 (by decide) (w.2.2.2.2.2 _ (List.mem_of_getElem? (i := 33) rfl)) rfl rfl rfl dX8_householdOf_80 ?_
      refine r_getN (v' := .ref (a 2)) hx hb hts in_X8_householdOf_X2 hown w 2 0 rfl rfl (ci := 6) rfl 2 (by decide) (w.2.2.2.2.2 _ (List.mem_of_getElem? (i := 5) rfl)) rfl rfl rfl dX8_householdOf_83 ?_
      refine lv_iload_n hx hb dX8_householdOf_86 rfl (lv_at hl 1 rfl) ?_
      refine r_iald (v := (S (1 + 6 * i + 0))) hx hb w 2 1 rfl rfl 0 rfl i (by omega) (Nat.le_of_ble_eq_true rfl) rfl (lnA_at (by omega)) dX8_householdOf_87 ?_
      exact x_i hx hb hr hlocks w hok (by rw [hvv, vHo, cN_nI (show i < 2 ^ 31 by omega)]; rfl) dX8_householdOf_88 (Nat.le_of_ble_eq_true rfl) (Nat.le_of_ble_eq_true rfl)
    by_cases e25_1 : y = 1
    · have hok : tHo n (nI i) y = 0 := by rw [tHo, if_pos c11, e25_1, if_pos (by decide)]
      have hvv : vHo S q (nI i) y = vHo S q (nI i) 1 := by rw [e25_1]
      refine r_eq (y := 1) e25_1 ?_
      refine lv_tableIn (tgt := 89) hx hb dX8_householdOf_25 (by decide) (by decide) rfl (by decide) ?_
      refine lv_aload_n hx hb dX8_householdOf_89 rfl (lv_at hl 0 rfl) ?_
      refine r_get (v' := .ref (a 0)) hx hb hts in_X8_householdOf_X8 hown w 0 0 rfl rfl (ci := 12) rfl 0 (by decide) (hts _ (List.mem_of_getElem? (i := 5) rfl)) rfl rfl rfl dX8_householdOf_90 ?_
      refine r_getN (v' := .ref (a 1)) hx hb hts in_X8_householdOf_X6 hown w 1 0 rfl rfl (ci := 10) rfl 0 (by decide) (w.2.2.2.2.2 _ (List.mem_of_getElem? (i := 33) rfl)) rfl rfl rfl dX8_householdOf_93 ?_
      refine r_getN (v' := .ref (a 3)) hx hb hts in_X8_householdOf_X2 hown w 2 0 rfl rfl (ci := 6) rfl 3 (by decide) (w.2.2.2.2.2 _ (List.mem_of_getElem? (i := 6) rfl)) rfl rfl rfl dX8_householdOf_96 ?_
      refine lv_iload_n hx hb dX8_householdOf_99 rfl (lv_at hl 1 rfl) ?_
      refine r_iald (v := (S (1 + 6 * i + 1))) hx hb w 2 2 rfl rfl 0 rfl i (by omega) (Nat.le_of_ble_eq_true rfl) rfl (lnA_at (by omega)) dX8_householdOf_100 ?_
      exact x_i hx hb hr hlocks w hok (by rw [hvv, vHo, cN_nI (show i < 2 ^ 31 by omega)]; rfl) dX8_householdOf_101 (Nat.le_of_ble_eq_true rfl) (Nat.le_of_ble_eq_true rfl)
    by_cases e25_2 : y = 2
    · have hok : tHo n (nI i) y = 0 := by rw [tHo, if_pos c11, e25_2, if_pos (by decide)]
      have hvv : vHo S q (nI i) y = vHo S q (nI i) 2 := by rw [e25_2]
      refine r_eq (y := 2) e25_2 ?_
      refine lv_tableIn (tgt := 102) hx hb dX8_householdOf_25 (by decide) (by decide) rfl (by decide) ?_
      refine lv_aload_n hx hb dX8_householdOf_102 rfl (lv_at hl 0 rfl) ?_
      refine r_get (v' := .ref (a 0)) hx hb hts in_X8_householdOf_X8 hown w 0 0 rfl rfl (ci := 12) rfl 0 (by decide) (hts _ (List.mem_of_getElem? (i := 5) rfl)) rfl rfl rfl dX8_householdOf_103 ?_
      refine r_getN (v' := .ref (a 1)) hx hb hts in_X8_householdOf_X6 hown w 1 0 rfl rfl (ci := 10) rfl 0 (by decide) (w.2.2.2.2.2 _ (List.mem_of_getElem? (i := 33) rfl)) rfl rfl rfl dX8_householdOf_106 ?_
      refine r_getN (v' := .ref (a 4)) hx hb hts in_X8_householdOf_X2 hown w 2 0 rfl rfl (ci := 6) rfl 4 (by decide) (w.2.2.2.2.2 _ (List.mem_of_getElem? (i := 7) rfl)) rfl rfl rfl dX8_householdOf_109 ?_
      refine lv_iload_n hx hb dX8_householdOf_112 rfl (lv_at hl 1 rfl) ?_
      refine r_iald (v := (S (1 + 6 * i + 2))) hx hb w 2 3 rfl rfl 0 rfl i (by omega) (Nat.le_of_ble_eq_true rfl) rfl (lnA_at (by omega)) dX8_householdOf_113 ?_
      exact x_i hx hb hr hlocks w hok (by rw [hvv, vHo, cN_nI (show i < 2 ^ 31 by omega)]; rfl) dX8_householdOf_114 (Nat.le_of_ble_eq_true rfl) (Nat.le_of_ble_eq_true rfl)
    by_cases e25_3 : y = 3
    · have hok : tHo n (nI i) y = 0 := by rw [tHo, if_pos c11, e25_3, if_pos (by decide)]
      have hvv : vHo S q (nI i) y = vHo S q (nI i) 3 := by rw [e25_3]
      refine r_eq (y := 3) e25_3 ?_
      refine lv_tableIn (tgt := 115) hx hb dX8_householdOf_25 (by decide) (by decide) rfl (by decide) ?_
      refine lv_aload_n hx hb dX8_householdOf_115 rfl (lv_at hl 0 rfl) ?_
      refine r_get (v' := .ref (a 0)) hx hb hts in_X8_householdOf_X8 hown w 0 0 rfl rfl (ci := 12) rfl 0 (by decide) (hts _ (List.mem_of_getElem? (i := 5) rfl)) rfl rfl rfl dX8_householdOf_116 ?_
      refine lv_iload_n hx hb dX8_householdOf_119 rfl (lv_at hl 1 rfl) ?_
      refine k_iVN (As := [.int (nI i)]) (rest := []) (Rs := [ppB o (a 0) (b 0) (sn 0) (h 0) r (t 0) sb hs lf]) (Bs' := [ppB o (a 0) (b 0) (sn 0) (h 0) r (t 0) sb hs lf, stB a S, lnB ty a S, quB ty a S, weB a S, miB ty a M]) ⟨hx, hb, hml, hown, hts⟩ w (c_X6_turnsOf l D ty a S M n q (hI) i (by omega)) ⟨va_cnB 1 hts gX8_householdOf_X6_turnsOf_n172 rfl rfl rfl (w.2.2.2.2.2 _ (List.mem_of_getElem? (i := 88) rfl)) (hts _ (List.mem_of_getElem? (i := 12) rfl)) hdN_X6_turnsOf ⟨Nat.le_of_ble_eq_true rfl, Nat.le_of_ble_eq_true rfl⟩, (hts _ (List.mem_of_getElem? (i := 11) rfl)), (hts _ (List.mem_of_getElem? (i := 13) rfl))⟩ [1, 2, 3, 4, 5, 0] (nB := 6) (by decide) rfl rfl rfl rfl 1 rfl rfl (ci := 10) rfl rfl rfl hl.1 rfl (Nat.le_of_ble_eq_true rfl) dX8_householdOf_120 ⟨(Nat.zero_le _), (Nat.zero_le _)⟩ (fun H locs w => ?_)
      exact x_i hx hb hr hlocks w hok (by rw [hvv, vHo, cN_nI (show i < 2 ^ 31 by omega)]; rfl) dX8_householdOf_123 (Nat.le_of_ble_eq_true rfl) (Nat.le_of_ble_eq_true rfl)
    by_cases e25_4 : y = 4
    · have hok : tHo n (nI i) y = 0 := by rw [tHo, if_pos c11, e25_4, if_pos (by decide)]
      have hvv : vHo S q (nI i) y = vHo S q (nI i) 4 := by rw [e25_4]
      refine r_eq (y := 4) e25_4 ?_
      refine lv_tableIn (tgt := 124) hx hb dX8_householdOf_25 (by decide) (by decide) rfl (by decide) ?_
      refine lv_aload_n hx hb dX8_householdOf_124 rfl (lv_at hl 0 rfl) ?_
      refine r_get (v' := .ref (a 0)) hx hb hts in_X8_householdOf_X8 hown w 0 0 rfl rfl (ci := 12) rfl 0 (by decide) (hts _ (List.mem_of_getElem? (i := 5) rfl)) rfl rfl rfl dX8_householdOf_125 ?_
      refine lv_iload_n hx hb dX8_householdOf_128 rfl (lv_at hl 1 rfl) ?_
      refine k_iVN (As := [.int (nI i)]) (rest := []) (Rs := [ppB o (a 0) (b 0) (sn 0) (h 0) r (t 0) sb hs lf]) (Bs' := [ppB o (a 0) (b 0) (sn 0) (h 0) r (t 0) sb hs lf, stB a S, lnB ty a S, quB ty a S, weB a S, miB ty a M]) ⟨hx, hb, hml, hown, hts⟩ w (c_X6_turnsLeft l D ty a S M n q (hI) i (by omega)) ⟨va_cnB 1 hts gX8_householdOf_X6_turnsLeft_n175 rfl rfl rfl (w.2.2.2.2.2 _ (List.mem_of_getElem? (i := 89) rfl)) (hts _ (List.mem_of_getElem? (i := 12) rfl)) hdN_X6_turnsLeft ⟨Nat.le_of_ble_eq_true rfl, Nat.le_of_ble_eq_true rfl⟩, (hts _ (List.mem_of_getElem? (i := 23) rfl)), (hts _ (List.mem_of_getElem? (i := 24) rfl))⟩ [1, 2, 3, 4, 5, 0] (nB := 6) (by decide) rfl rfl rfl rfl 1 rfl rfl (ci := 10) rfl rfl rfl hl.1 rfl (Nat.le_of_ble_eq_true rfl) dX8_householdOf_129 ⟨(Nat.zero_le _), (Nat.zero_le _)⟩ (fun H locs w => ?_)
      exact x_i hx hb hr hlocks w hok (by rw [hvv, vHo, cN_nI (show i < 2 ^ 31 by omega)]; rfl) dX8_householdOf_132 (Nat.le_of_ble_eq_true rfl) (Nat.le_of_ble_eq_true rfl)
    by_cases e25_5 : y = 5
    · have hok : tHo n (nI i) y = 0 := by rw [tHo, if_pos c11, e25_5, if_pos (by decide)]
      have hvv : vHo S q (nI i) y = vHo S q (nI i) 5 := by rw [e25_5]
      refine r_eq (y := 5) e25_5 ?_
      refine lv_tableIn (tgt := 133) hx hb dX8_householdOf_25 (by decide) (by decide) rfl (by decide) ?_
      refine lv_aload_n hx hb dX8_householdOf_133 rfl (lv_at hl 0 rfl) ?_
      refine r_get (v' := .ref (a 0)) hx hb hts in_X8_householdOf_X8 hown w 0 0 rfl rfl (ci := 12) rfl 0 (by decide) (hts _ (List.mem_of_getElem? (i := 5) rfl)) rfl rfl rfl dX8_householdOf_134 ?_
      refine r_getN (v' := .ref (a 1)) hx hb hts in_X8_householdOf_X6 hown w 1 0 rfl rfl (ci := 10) rfl 0 (by decide) (w.2.2.2.2.2 _ (List.mem_of_getElem? (i := 33) rfl)) rfl rfl rfl dX8_householdOf_137 ?_
      refine r_getN (v' := .ref (a 5)) hx hb hts in_X8_householdOf_X2 hown w 2 0 rfl rfl (ci := 6) rfl 5 (by decide) (w.2.2.2.2.2 _ (List.mem_of_getElem? (i := 9) rfl)) rfl rfl rfl dX8_householdOf_140 ?_
      refine lv_iload_n hx hb dX8_householdOf_143 rfl (lv_at hl 1 rfl) ?_
      refine r_iald (v := (S (1 + 6 * i + 3))) hx hb w 2 4 rfl rfl 0 rfl i (by omega) (Nat.le_of_ble_eq_true rfl) rfl (lnA_at (by omega)) dX8_householdOf_144 ?_
      exact x_i hx hb hr hlocks w hok (by rw [hvv, vHo, cN_nI (show i < 2 ^ 31 by omega)]; rfl) dX8_householdOf_145 (Nat.le_of_ble_eq_true rfl) (Nat.le_of_ble_eq_true rfl)
    by_cases e25_6 : y = 6
    · have hok : tHo n (nI i) y = 0 := by rw [tHo, if_pos c11, e25_6, if_pos (by decide)]
      have hvv : vHo S q (nI i) y = vHo S q (nI i) 6 := by rw [e25_6]
      refine r_eq (y := 6) e25_6 ?_
      refine lv_tableIn (tgt := 146) hx hb dX8_householdOf_25 (by decide) (by decide) rfl (by decide) ?_
      refine lv_aload_n hx hb dX8_householdOf_146 rfl (lv_at hl 0 rfl) ?_
      refine r_get (v' := .ref (a 0)) hx hb hts in_X8_householdOf_X8 hown w 0 0 rfl rfl (ci := 12) rfl 0 (by decide) (hts _ (List.mem_of_getElem? (i := 5) rfl)) rfl rfl rfl dX8_householdOf_147 ?_
      refine r_getN (v' := .ref (a 1)) hx hb hts in_X8_householdOf_X6 hown w 1 0 rfl rfl (ci := 10) rfl 0 (by decide) (w.2.2.2.2.2 _ (List.mem_of_getElem? (i := 33) rfl)) rfl rfl rfl dX8_householdOf_150 ?_
      refine r_getN (v' := .ref (a 6)) hx hb hts in_X8_householdOf_X2 hown w 2 0 rfl rfl (ci := 6) rfl 6 (by decide) (w.2.2.2.2.2 _ (List.mem_of_getElem? (i := 11) rfl)) rfl rfl rfl dX8_householdOf_153 ?_
      refine lv_iload_n hx hb dX8_householdOf_156 rfl (lv_at hl 1 rfl) ?_
      refine r_iald (v := (S (1 + 6 * i + 4))) hx hb w 2 5 rfl rfl 0 rfl i (by omega) (Nat.le_of_ble_eq_true rfl) rfl (lnA_at (by omega)) dX8_householdOf_157 ?_
      exact x_i hx hb hr hlocks w hok (by rw [hvv, vHo, cN_nI (show i < 2 ^ 31 by omega)]; rfl) dX8_householdOf_158 (Nat.le_of_ble_eq_true rfl) (Nat.le_of_ble_eq_true rfl)
    by_cases e25_7 : y = 7
    · have hok : tHo n (nI i) y = 0 := by rw [tHo, if_pos c11, e25_7, if_pos (by decide)]
      have hvv : vHo S q (nI i) y = vHo S q (nI i) 7 := by rw [e25_7]
      refine r_eq (y := 7) e25_7 ?_
      refine lv_tableIn (tgt := 159) hx hb dX8_householdOf_25 (by decide) (by decide) rfl (by decide) ?_
      refine lv_aload_n hx hb dX8_householdOf_159 rfl (lv_at hl 0 rfl) ?_
      refine r_get (v' := .ref (a 0)) hx hb hts in_X8_householdOf_X8 hown w 0 0 rfl rfl (ci := 12) rfl 0 (by decide) (hts _ (List.mem_of_getElem? (i := 5) rfl)) rfl rfl rfl dX8_householdOf_160 ?_
      refine r_getN (v' := .ref (a 1)) hx hb hts in_X8_householdOf_X6 hown w 1 0 rfl rfl (ci := 10) rfl 0 (by decide) (w.2.2.2.2.2 _ (List.mem_of_getElem? (i := 33) rfl)) rfl rfl rfl dX8_householdOf_163 ?_
      refine r_getN (v' := .ref (a 7)) hx hb hts in_X8_householdOf_X2 hown w 2 0 rfl rfl (ci := 6) rfl 7 (by decide) (w.2.2.2.2.2 _ (List.mem_of_getElem? (i := 12) rfl)) rfl rfl rfl dX8_householdOf_166 ?_
      refine lv_iload_n hx hb dX8_householdOf_169 rfl (lv_at hl 1 rfl) ?_
      refine r_iald (v := (S (1 + 6 * i + 5))) hx hb w 2 6 rfl rfl 0 rfl i (by omega) (Nat.le_of_ble_eq_true rfl) rfl (lnA_at (by omega)) dX8_householdOf_170 ?_
      exact x_i hx hb hr hlocks w hok (by rw [hvv, vHo, cN_nI (show i < 2 ^ 31 by omega)]; rfl) dX8_householdOf_171 (Nat.le_of_ble_eq_true rfl) (Nat.le_of_ble_eq_true rfl)
    by_cases e25_8 : y = 8
    · have hok : tHo n (nI i) y = 0 := by rw [tHo, if_pos c11, e25_8, if_pos (by decide)]
      have hvv : vHo S q (nI i) y = vHo S q (nI i) 8 := by rw [e25_8]
      refine r_eq (y := 8) e25_8 ?_
      refine lv_tableIn (tgt := 172) hx hb dX8_householdOf_25 (by decide) (by decide) rfl (by decide) ?_
      refine lv_aload_n hx hb dX8_householdOf_172 rfl (lv_at hl 0 rfl) ?_
      refine r_get (v' := .ref (a 0)) hx hb hts in_X8_householdOf_X8 hown w 0 0 rfl rfl (ci := 12) rfl 0 (by decide) (hts _ (List.mem_of_getElem? (i := 5) rfl)) rfl rfl rfl dX8_householdOf_173 ?_
      refine r_getN (v' := .ref (a 17)) hx hb hts in_X8_householdOf_X6 hown w 1 0 rfl rfl (ci := 10) rfl 1 (by decide) (w.2.2.2.2.2 _ (List.mem_of_getElem? (i := 34) rfl)) rfl rfl rfl dX8_householdOf_176 ?_
      refine lv_iload_n hx hb dX8_householdOf_179 rfl (lv_at hl 1 rfl) ?_
      refine k_iVN (As := [.int (nI i)]) (rest := []) (Rs := [ppB o (a 0) (b 0) (sn 0) (h 0) r (t 0) sb hs lf, stB a S, lnB ty a S, weB a S, miB ty a M]) (Bs' := [ppB o (a 0) (b 0) (sn 0) (h 0) r (t 0) sb hs lf, stB a S, lnB ty a S, quB ty a S, weB a S, miB ty a M]) ⟨hx, hb, hml, hown, hts⟩ w (c_X4_placeOf l D ty a S q (hI).2.2.1 (hI).2.2.2.1 (hI).2.2.2.2.2.1 (nI i)) ⟨va_cnB 1 hts gX8_householdOf_X4_placeOf_n191 rfl rfl rfl (w.2.2.2.2.2 _ (List.mem_of_getElem? (i := 90) rfl)) (hts _ (List.mem_of_getElem? (i := 32) rfl)) hdN_X4_placeOf ⟨Nat.le_of_ble_eq_true rfl, Nat.le_of_ble_eq_true rfl⟩, (hts _ (List.mem_of_getElem? (i := 31) rfl)), (hts _ (List.mem_of_getElem? (i := 33) rfl))⟩ [3, 0, 1, 2, 4, 5] (nB := 6) (by decide) rfl rfl rfl rfl 3 rfl rfl (ci := 8) rfl rfl rfl hl.1 rfl (Nat.le_of_ble_eq_true rfl) dX8_householdOf_180 ⟨(Nat.zero_le _), (Nat.zero_le _)⟩ (fun H locs w => ?_)
      exact x_i hx hb hr hlocks w hok (by rw [hvv, vHo, cN_nI (show i < 2 ^ 31 by omega)]; rfl) dX8_householdOf_183 (Nat.le_of_ble_eq_true rfl) (Nat.le_of_ble_eq_true rfl)
    have hpi : pIn y 0 8 = false := pIn_no8 (fun j hj e => by
      rcases (show j = 0 ∨ j = 1 ∨ j = 2 ∨ j = 3 ∨ j = 4 ∨ j = 5 ∨ j = 6 ∨ j = 7 ∨ j = 8 by omega) with rfl | rfl | rfl | rfl | rfl | rfl | rfl | rfl | rfl
      · exact e25_0 e
      · exact e25_1 e
      · exact e25_2 e
      · exact e25_3 e
      · exact e25_4 e
      · exact e25_5 e
      · exact e25_6 e
      · exact e25_7 e
      · exact e25_8 e)
    have hno : tHo n (nI i) y = 2 := by rw [tHo, if_pos c11, if_neg (bt_n hpi)]
    refine lv_tableOut (tgt := 184) hx hb dX8_householdOf_25 (sw_out 0 8 (fun v h1 h2 e => by
      have h3 : v = 0 ∨ v = 1 ∨ v = 2 ∨ v = 3 ∨ v = 4 ∨ v = 5 ∨ v = 6 ∨ v = 7 ∨ v = 8 := by omega
      rcases h3 with rfl | rfl | rfl | rfl | rfl | rfl | rfl | rfl | rfl
      · exact e25_0 (Int32.toInt_inj.mp e)
      · exact e25_1 (Int32.toInt_inj.mp e)
      · exact e25_2 (Int32.toInt_inj.mp e)
      · exact e25_3 (Int32.toInt_inj.mp e)
      · exact e25_4 (Int32.toInt_inj.mp e)
      · exact e25_5 (Int32.toInt_inj.mp e)
      · exact e25_6 (Int32.toInt_inj.mp e)
      · exact e25_7 (Int32.toInt_inj.mp e)
      · exact e25_8 (Int32.toInt_inj.mp e)
      )) (by decide) ?_
    exact x_throw hx hb hst w hz (by rw [hno]; decide) (by rw [hno]; rfl) hown (by decide) (by decide) (hts _ (List.mem_of_getElem? (i := 3) rfl)) (hts _ (List.mem_of_getElem? (i := 4) rfl)) (hz.1.2 (198, "there is no such number of a household") (by decide)) (vx_hat (fun w hw => hts w (inx_X8_householdOf_200 w hw)) xb_200 hz.1.1.use) (xg_c xg_200) (hl.1.trans hml.symm) dX8_householdOf_184 dX8_householdOf_187 dX8_householdOf_188 dX8_householdOf_190 dX8_householdOf_193 hex (Nat.le_of_ble_eq_true rfl) (Nat.le_of_ble_eq_true rfl) (Nat.le_of_ble_eq_true rfl) (Nat.le_of_ble_eq_true rfl) hlocks (Nat.le_of_ble_eq_true rfl) (Nat.le_of_ble_eq_true rfl)
  · have c11 := bI_0.mp c11
    have hno : tHo n v y = 1 := by rw [tHo, if_neg (bt_n c11)]
    exact x_throw hx hb hst w hz (by rw [hno]; decide) (by rw [hno]; rfl) hown (by decide) (by decide) (hts _ (List.mem_of_getElem? (i := 1) rfl)) (hts _ (List.mem_of_getElem? (i := 2) rfl)) (hz.1.2 (159, "there is no such household") (by decide)) (vx_hat (fun w hw => hts w (inx_X8_householdOf_161 w hw)) xb_161 hz.1.1.use) (xg_c xg_161) (hl.1.trans hml.symm) dX8_householdOf_14 dX8_householdOf_17 dX8_householdOf_18 dX8_householdOf_20 dX8_householdOf_23 hex (Nat.le_of_ble_eq_true rfl) (Nat.le_of_ble_eq_true rfl) (Nat.le_of_ble_eq_true rfl) (Nat.le_of_ble_eq_true rfl) hlocks (Nat.le_of_ble_eq_true rfl) (Nat.le_of_ble_eq_true rfl)
