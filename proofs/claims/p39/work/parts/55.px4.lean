theorem in_X8_account_X0 : ∀ w ∈ wsX00, w ∈ wsX8_account := by decide +kernel
theorem in_X8_account_X1 : ∀ w ∈ wsX10, w ∈ wsX8_account := by decide +kernel
theorem in_X8_account_X2 : ∀ w ∈ wsX20, w ∈ wsX8_account := by decide +kernel
theorem in_X8_account_X3 : ∀ w ∈ wsX30, w ∈ wsX8_account := by decide +kernel
theorem in_X8_account_X4 : ∀ w ∈ wsX40, w ∈ wsX8_account := by decide +kernel
theorem in_X8_account_X6 : ∀ w ∈ wsX60, w ∈ wsX8_account := by decide +kernel
theorem in_X8_account_X7 : ∀ w ∈ wsX70, w ∈ wsX8_account := by decide +kernel
theorem in_X8_account_X8 : ∀ w ∈ wsX80, w ∈ wsX8_account := by decide +kernel
theorem inx_X8_account_200 : ∀ w ∈ (vx_atS RX8 200 "java/lang/IllegalArgumentException" ["java/lang/RuntimeException", "java/lang/Exception"]).filter goodWord, w ∈ wsX8_account := by decide +kernel
theorem hdN_X8_account : yX8_account.cls ≠ "java/lang/invoke/MethodHandle" ∧ yX8_account.cls ≠ "java/lang/invoke/VarHandle" ∧ (parseMethodDescriptor yX8_account.desc).map (fun d => d.parameters.length) = some 1 := by decide +kernel
set_option maxRecDepth 100000 in
set_option maxHeartbeats 4000000 in
theorem c_X8_account (l : Launch) (hst : l.stackTraces = false) (D : va_G) (ty : Nat → ClassId) (o : Nat) (a b sn h t : Nat → Nat) (r sb : Nat) (hs lf : Int32) (S M : pS) (n q : Nat) (hA : IA S n q) (ha : Nat → Nat → Nat) (sz nx ln cn : Int32) (ch le nu : Nat → Int32) (hM0 : M 0 = S 122) (y : Int32) : Xi l yX8_account wsX8_account (kR 6 90 1 6) D (kTY ty) [.ref o, .int y] [ppB o (a 0) (b 0) (sn 0) (h 0) r (t 0) sb hs lf, stB a S, lnB ty a S, quB ty a S, weB a S, miB ty a M, hiB ty h ha sz nx, txB ty t ln cn ch le nu] (t1 (pIn y 0 15) = 0) [ppB o (a 0) (b 0) (sn 0) (h 0) r (t 0) sb hs lf, stB a S, lnB ty a S, quB ty a S, weB a S, miB ty a M, hiB ty h ha sz nx, txB ty t ln cn ch le nu] (acV (acF sz ln) S y) "java/lang/IllegalArgumentException" [ppB o (a 0) (b 0) (sn 0) (h 0) r (t 0) sb hs lf, stB a S, lnB ty a S, quB ty a S, weB a S, miB ty a M, hiB ty h ha sz nx, txB ty t ln cn ch le nu] 1 6 := by
  refine m_xi (cc := cX8_account) (maxL := 2) (ret := (some .int)) (by decide +kernel) rfl (Nat.le_of_ble_eq_true rfl) ?_
  intro p e s m below meth c A ls hx hb hml hr hlocks hown hts hex hz w hl
  have hown : s.vm.findClass RX8 = some m.cls := hown
  have hl : lv_has ls 2 [(0, .ref o), (1, .int y)] := hl
  have hI := hA.1
  obtain ⟨h0, hn, h1, hq, he, hd, hdr, hwr⟩ := id hI
  refine lv_iload_n hx hb dX8_account_0 rfl (lv_at hl 1 rfl) ?_
  by_cases e1_0 : y = 0
  · have hok : t1 (pIn y 0 15) = 0 := by rw [t1, e1_0, if_pos (by decide)]
    have hvv : acV (acF sz ln) S y = acV (acF sz ln) S 0 := by rw [e1_0]
    refine r_eq (y := 0) e1_0 ?_
    refine lv_tableIn (tgt := 80) hx hb dX8_account_1 (by decide) (by decide) rfl (by decide) ?_
    refine lv_aload_n hx hb dX8_account_80 rfl (lv_at hl 0 rfl) ?_
    refine r_get (v' := .ref (a 0)) hx hb hts in_X8_account_X8 hown w 0 0 rfl rfl (ci := 12) rfl 0 (by decide) (hts _ (List.mem_of_getElem? (i := 3) rfl)) rfl rfl rfl dX8_account_81 ?_
    refine r_getN (v' := .int (S 206)) hx hb hts in_X8_account_X6 hown w 1 0 rfl rfl (ci := 10) rfl 4 (by decide) (w.2.2.2.2.2 _ (List.mem_of_getElem? (i := 37) rfl)) rfl rfl rfl dX8_account_84 ?_
    exact x_i hx hb hr hlocks w hok (by rw [hvv]; rfl) dX8_account_87 (Nat.le_of_ble_eq_true rfl) (Nat.le_of_ble_eq_true rfl)
  by_cases e1_1 : y = 1
  · have hok : t1 (pIn y 0 15) = 0 := by rw [t1, e1_1, if_pos (by decide)]
    have hvv : acV (acF sz ln) S y = acV (acF sz ln) S 1 := by rw [e1_1]
    refine r_eq (y := 1) e1_1 ?_
    refine lv_tableIn (tgt := 88) hx hb dX8_account_1 (by decide) (by decide) rfl (by decide) ?_
    refine lv_aload_n hx hb dX8_account_88 rfl (lv_at hl 0 rfl) ?_
    refine r_get (v' := .ref (a 0)) hx hb hts in_X8_account_X8 hown w 0 0 rfl rfl (ci := 12) rfl 0 (by decide) (hts _ (List.mem_of_getElem? (i := 3) rfl)) rfl rfl rfl dX8_account_89 ?_
    refine r_getN (v' := .ref (a 1)) hx hb hts in_X8_account_X6 hown w 1 0 rfl rfl (ci := 10) rfl 0 (by decide) (w.2.2.2.2.2 _ (List.mem_of_getElem? (i := 33) rfl)) rfl rfl rfl dX8_account_92 ?_
    refine r_getN (v' := .int (S 0)) hx hb hts in_X8_account_X2 hown w 2 0 rfl rfl (ci := 6) rfl 0 (by decide) (w.2.2.2.2.2 _ (List.mem_of_getElem? (i := 3) rfl)) rfl rfl rfl dX8_account_95 ?_
    exact x_i hx hb hr hlocks w hok (by rw [hvv]; rfl) dX8_account_98 (Nat.le_of_ble_eq_true rfl) (Nat.le_of_ble_eq_true rfl)
  by_cases e1_2 : y = 2
  · have hok : t1 (pIn y 0 15) = 0 := by rw [t1, e1_2, if_pos (by decide)]
    have hvv : acV (acF sz ln) S y = acV (acF sz ln) S 2 := by rw [e1_2]
    refine r_eq (y := 2) e1_2 ?_
    refine lv_tableIn (tgt := 99) hx hb dX8_account_1 (by decide) (by decide) rfl (by decide) ?_
    refine lv_aload_n hx hb dX8_account_99 rfl (lv_at hl 0 rfl) ?_
    refine r_get (v' := .ref (a 0)) hx hb hts in_X8_account_X8 hown w 0 0 rfl rfl (ci := 12) rfl 0 (by decide) (hts _ (List.mem_of_getElem? (i := 3) rfl)) rfl rfl rfl dX8_account_100 ?_
    refine r_getN (v' := .ref (a 17)) hx hb hts in_X8_account_X6 hown w 1 0 rfl rfl (ci := 10) rfl 1 (by decide) (w.2.2.2.2.2 _ (List.mem_of_getElem? (i := 34) rfl)) rfl rfl rfl dX8_account_103 ?_
    refine r_getN (v' := .int (S 49)) hx hb hts in_X8_account_X4 hown w 3 0 rfl rfl (ci := 8) rfl 0 (by decide) (w.2.2.2.2.2 _ (List.mem_of_getElem? (i := 17) rfl)) rfl rfl rfl dX8_account_106 ?_
    exact x_i hx hb hr hlocks w hok (by rw [hvv]; rfl) dX8_account_109 (Nat.le_of_ble_eq_true rfl) (Nat.le_of_ble_eq_true rfl)
  by_cases e1_3 : y = 3
  · have hok : t1 (pIn y 0 15) = 0 := by rw [t1, e1_3, if_pos (by decide)]
    have hvv : acV (acF sz ln) S y = acV (acF sz ln) S 3 := by rw [e1_3]
    refine r_eq (y := 3) e1_3 ?_
    refine lv_tableIn (tgt := 110) hx hb dX8_account_1 (by decide) (by decide) rfl (by decide) ?_
    refine lv_aload_n hx hb dX8_account_110 rfl (lv_at hl 0 rfl) ?_
    refine r_get (v' := .ref (a 0)) hx hb hts in_X8_account_X8 hown w 0 0 rfl rfl (ci := 12) rfl 0 (by decide) (hts _ (List.mem_of_getElem? (i := 3) rfl)) rfl rfl rfl dX8_account_111 ?_
    refine r_getN (v' := .ref (a 19)) hx hb hts in_X8_account_X6 hown w 1 0 rfl rfl (ci := 10) rfl 2 (by decide) (w.2.2.2.2.2 _ (List.mem_of_getElem? (i := 35) rfl)) rfl rfl rfl dX8_account_114 ?_
    refine r_getN (v' := .int (S 204)) hx hb hts in_X8_account_X7 hown w 4 0 rfl rfl (ci := 11) rfl 0 (by decide) (w.2.2.2.2.2 _ (List.mem_of_getElem? (i := 22) rfl)) rfl rfl rfl dX8_account_117 ?_
    exact x_i hx hb hr hlocks w hok (by rw [hvv]; rfl) dX8_account_120 (Nat.le_of_ble_eq_true rfl) (Nat.le_of_ble_eq_true rfl)
  by_cases e1_4 : y = 4
  · have hok : t1 (pIn y 0 15) = 0 := by rw [t1, e1_4, if_pos (by decide)]
    have hvv : acV (acF sz ln) S y = acV (acF sz ln) S 4 := by rw [e1_4]
    refine r_eq (y := 4) e1_4 ?_
    refine lv_tableIn (tgt := 121) hx hb dX8_account_1 (by decide) (by decide) rfl (by decide) ?_
    refine lv_aload_n hx hb dX8_account_121 rfl (lv_at hl 0 rfl) ?_
    refine r_get (v' := .ref (a 0)) hx hb hts in_X8_account_X8 hown w 0 0 rfl rfl (ci := 12) rfl 0 (by decide) (hts _ (List.mem_of_getElem? (i := 3) rfl)) rfl rfl rfl dX8_account_122 ?_
    refine r_getN (v' := .ref (a 19)) hx hb hts in_X8_account_X6 hown w 1 0 rfl rfl (ci := 10) rfl 2 (by decide) (w.2.2.2.2.2 _ (List.mem_of_getElem? (i := 35) rfl)) rfl rfl rfl dX8_account_125 ?_
    refine r_getN (v' := .int (S 210)) hx hb hts in_X8_account_X7 hown w 4 0 rfl rfl (ci := 11) rfl 1 (by decide) (w.2.2.2.2.2 _ (List.mem_of_getElem? (i := 23) rfl)) rfl rfl rfl dX8_account_128 ?_
    exact x_i hx hb hr hlocks w hok (by rw [hvv]; rfl) dX8_account_131 (Nat.le_of_ble_eq_true rfl) (Nat.le_of_ble_eq_true rfl)
  by_cases e1_5 : y = 5
  · have hok : t1 (pIn y 0 15) = 0 := by rw [t1, e1_5, if_pos (by decide)]
    have hvv : acV (acF sz ln) S y = acV (acF sz ln) S 5 := by rw [e1_5]
    refine r_eq (y := 5) e1_5 ?_
    refine lv_tableIn (tgt := 132) hx hb dX8_account_1 (by decide) (by decide) rfl (by decide) ?_
    refine lv_aload_n hx hb dX8_account_132 rfl (lv_at hl 0 rfl) ?_
    refine r_get (v' := .ref (a 0)) hx hb hts in_X8_account_X8 hown w 0 0 rfl rfl (ci := 12) rfl 0 (by decide) (hts _ (List.mem_of_getElem? (i := 3) rfl)) rfl rfl rfl dX8_account_133 ?_
    refine r_getN (v' := .ref (a 19)) hx hb hts in_X8_account_X6 hown w 1 0 rfl rfl (ci := 10) rfl 2 (by decide) (w.2.2.2.2.2 _ (List.mem_of_getElem? (i := 35) rfl)) rfl rfl rfl dX8_account_136 ?_
    refine r_getN (v' := .int (S 211)) hx hb hts in_X8_account_X7 hown w 4 0 rfl rfl (ci := 11) rfl 2 (by decide) (w.2.2.2.2.2 _ (List.mem_of_getElem? (i := 24) rfl)) rfl rfl rfl dX8_account_139 ?_
    exact x_i hx hb hr hlocks w hok (by rw [hvv]; rfl) dX8_account_142 (Nat.le_of_ble_eq_true rfl) (Nat.le_of_ble_eq_true rfl)
  by_cases e1_6 : y = 6
  · have hok : t1 (pIn y 0 15) = 0 := by rw [t1, e1_6, if_pos (by decide)]
    have hvv : acV (acF sz ln) S y = acV (acF sz ln) S 6 := by rw [e1_6]
    refine r_eq (y := 6) e1_6 ?_
    refine lv_tableIn (tgt := 143) hx hb dX8_account_1 (by decide) (by decide) rfl (by decide) ?_
    refine lv_aload_n hx hb dX8_account_143 rfl (lv_at hl 0 rfl) ?_
    refine r_get (v' := .ref (a 0)) hx hb hts in_X8_account_X8 hown w 0 0 rfl rfl (ci := 12) rfl 0 (by decide) (hts _ (List.mem_of_getElem? (i := 3) rfl)) rfl rfl rfl dX8_account_144 ?_
    refine r_getN (v' := .ref (a 19)) hx hb hts in_X8_account_X6 hown w 1 0 rfl rfl (ci := 10) rfl 2 (by decide) (w.2.2.2.2.2 _ (List.mem_of_getElem? (i := 35) rfl)) rfl rfl rfl dX8_account_147 ?_
    refine r_getN (v' := .int (S 212)) hx hb hts in_X8_account_X7 hown w 4 0 rfl rfl (ci := 11) rfl 6 (by decide) (w.2.2.2.2.2 _ (List.mem_of_getElem? (i := 28) rfl)) rfl rfl rfl dX8_account_150 ?_
    exact x_i hx hb hr hlocks w hok (by rw [hvv]; rfl) dX8_account_153 (Nat.le_of_ble_eq_true rfl) (Nat.le_of_ble_eq_true rfl)
  by_cases e1_7 : y = 7
  · have hok : t1 (pIn y 0 15) = 0 := by rw [t1, e1_7, if_pos (by decide)]
    have hvv : acV (acF sz ln) S y = acV (acF sz ln) S 7 := by rw [e1_7]
    refine r_eq (y := 7) e1_7 ?_
    refine lv_tableIn (tgt := 154) hx hb dX8_account_1 (by decide) (by decide) rfl (by decide) ?_
    refine lv_aload_n hx hb dX8_account_154 rfl (lv_at hl 0 rfl) ?_
    refine r_get (v' := .ref (a 0)) hx hb hts in_X8_account_X8 hown w 0 0 rfl rfl (ci := 12) rfl 0 (by decide) (hts _ (List.mem_of_getElem? (i := 3) rfl)) rfl rfl rfl dX8_account_155 ?_
    refine r_getN (v' := .ref (a 1)) hx hb hts in_X8_account_X6 hown w 1 0 rfl rfl (ci := 10) rfl 0 (by decide) (w.2.2.2.2.2 _ (List.mem_of_getElem? (i := 33) rfl)) rfl rfl rfl dX8_account_158 ?_
    refine r_getN (v' := .int (S 213)) hx hb hts in_X8_account_X2 hown w 2 0 rfl rfl (ci := 6) rfl 1 (by decide) (w.2.2.2.2.2 _ (List.mem_of_getElem? (i := 4) rfl)) rfl rfl rfl dX8_account_161 ?_
    exact x_i hx hb hr hlocks w hok (by rw [hvv]; rfl) dX8_account_164 (Nat.le_of_ble_eq_true rfl) (Nat.le_of_ble_eq_true rfl)
  by_cases e1_8 : y = 8
  · have hok : t1 (pIn y 0 15) = 0 := by rw [t1, e1_8, if_pos (by decide)]
    have hvv : acV (acF sz ln) S y = acV (acF sz ln) S 8 := by rw [e1_8]
    refine r_eq (y := 8) e1_8 ?_
    refine lv_tableIn (tgt := 165) hx hb dX8_account_1 (by decide) (by decide) rfl (by decide) ?_
    refine lv_aload_n hx hb dX8_account_165 rfl (lv_at hl 0 rfl) ?_
    refine r_get (v' := .ref (a 0)) hx hb hts in_X8_account_X8 hown w 0 0 rfl rfl (ci := 12) rfl 0 (by decide) (hts _ (List.mem_of_getElem? (i := 3) rfl)) rfl rfl rfl dX8_account_166 ?_
    refine r_getN (v' := .ref (a 19)) hx hb hts in_X8_account_X6 hown w 1 0 rfl rfl (ci := 10) rfl 2 (by decide) (w.2.2.2.2.2 _ (List.mem_of_getElem? (i := 35) rfl)) rfl rfl rfl dX8_account_169 ?_
    refine r_getN (v' := .int (S 205)) hx hb hts in_X8_account_X7 hown w 4 0 rfl rfl (ci := 11) rfl 5 (by decide) (w.2.2.2.2.2 _ (List.mem_of_getElem? (i := 27) rfl)) rfl rfl rfl dX8_account_172 ?_
    exact x_i hx hb hr hlocks w hok (by rw [hvv]; rfl) dX8_account_175 (Nat.le_of_ble_eq_true rfl) (Nat.le_of_ble_eq_true rfl)
  by_cases e1_9 : y = 9
  · have hok : t1 (pIn y 0 15) = 0 := by rw [t1, e1_9, if_pos (by decide)]
    have hvv : acV (acF sz ln) S y = acV (acF sz ln) S 9 := by rw [e1_9]
    refine r_eq (y := 9) e1_9 ?_
    refine lv_tableIn (tgt := 176) hx hb dX8_account_1 (by decide) (by decide) rfl (by decide) ?_
    refine lv_aload_n hx hb dX8_account_176 rfl (lv_at hl 0 rfl) ?_
    refine r_get (v' := .ref (a 0)) hx hb hts in_X8_account_X8 hown w 0 0 rfl rfl (ci := 12) rfl 0 (by decide) (hts _ (List.mem_of_getElem? (i := 3) rfl)) rfl rfl rfl dX8_account_177 ?_
    refine r_getN (v' := .int (S 209)) hx hb hts in_X8_account_X6 hown w 1 0 rfl rfl (ci := 10) rfl 6 (by decide) (w.2.2.2.2.2 _ (List.mem_of_getElem? (i := 39) rfl)) rfl rfl rfl dX8_account_180 ?_
    exact x_i hx hb hr hlocks w hok (by rw [hvv]; rfl) dX8_account_183 (Nat.le_of_ble_eq_true rfl) (Nat.le_of_ble_eq_true rfl)
  by_cases e1_10 : y = 10
  · have hok : t1 (pIn y 0 15) = 0 := by rw [t1, e1_10, if_pos (by decide)]
    have hvv : acV (acF sz ln) S y = acV (acF sz ln) S 10 := by rw [e1_10]
    refine r_eq (y := 10) e1_10 ?_
    refine lv_tableIn (tgt := 184) hx hb dX8_account_1 (by decide) (by decide) rfl (by decide) ?_
    refine lv_aload_n hx hb dX8_account_184 rfl (lv_at hl 0 rfl) ?_
    refine r_get (v' := .ref (a 0)) hx hb hts in_X8_account_X8 hown w 0 0 rfl rfl (ci := 12) rfl 0 (by decide) (hts _ (List.mem_of_getElem? (i := 3) rfl)) rfl rfl rfl dX8_account_185 ?_
    refine r_getN (v' := .int (S 203)) hx hb hts in_X8_account_X6 hown w 1 0 rfl rfl (ci := 10) rfl 5 (by decide) (w.2.2.2.2.2 _ (List.mem_of_getElem? (i := 38) rfl)) rfl rfl rfl dX8_account_188 ?_
    exact x_i hx hb hr hlocks w hok (by rw [hvv]; rfl) dX8_account_191 (Nat.le_of_ble_eq_true rfl) (Nat.le_of_ble_eq_true rfl)
  by_cases e1_11 : y = 11
  · have hok : t1 (pIn y 0 15) = 0 := by rw [t1, e1_11, if_pos (by decide)]
    have hvv : acV (acF sz ln) S y = acV (acF sz ln) S 11 := by rw [e1_11]
    refine r_eq (y := 11) e1_11 ?_
    refine lv_tableIn (tgt := 192) hx hb dX8_account_1 (by decide) (by decide) rfl (by decide) ?_
    refine lv_aload_n hx hb dX8_account_192 rfl (lv_at hl 0 rfl) ?_
    refine r_get (v' := .ref (a 0)) hx hb hts in_X8_account_X8 hown w 0 0 rfl rfl (ci := 12) rfl 0 (by decide) (hts _ (List.mem_of_getElem? (i := 3) rfl)) rfl rfl rfl dX8_account_193 ?_
    refine r_getN (v' := .ref (a 19)) hx hb hts in_X8_account_X6 hown w 1 0 rfl rfl (ci := 10) rfl 2 (by decide) (w.2.2.2.2.2 _ (List.mem_of_getElem? (i := 35) rfl)) rfl rfl rfl dX8_account_196 ?_
    refine r_getN (v' := .int (S 208)) hx hb hts in_X8_account_X7 hown w 4 0 rfl rfl (ci := 11) rfl 4 (by decide) (w.2.2.2.2.2 _ (List.mem_of_getElem? (i := 26) rfl)) rfl rfl rfl dX8_account_199 ?_
    exact x_i hx hb hr hlocks w hok (by rw [hvv]; rfl) dX8_account_202 (Nat.le_of_ble_eq_true rfl) (Nat.le_of_ble_eq_true rfl)
  by_cases e1_12 : y = 12
  · have hok : t1 (pIn y 0 15) = 0 := by rw [t1, e1_12, if_pos (by decide)]
    have hvv : acV (acF sz ln) S y = acV (acF sz ln) S 12 := by rw [e1_12]
    refine r_eq (y := 12) e1_12 ?_
    refine lv_tableIn (tgt := 203) hx hb dX8_account_1 (by decide) (by decide) rfl (by decide) ?_
    refine lv_aload_n hx hb dX8_account_203 rfl (lv_at hl 0 rfl) ?_
    refine r_get (v' := .ref (a 0)) hx hb hts in_X8_account_X8 hown w 0 0 rfl rfl (ci := 12) rfl 0 (by decide) (hts _ (List.mem_of_getElem? (i := 3) rfl)) rfl rfl rfl dX8_account_204 ?_
    refine r_getN (v' := .ref (a 19)) hx hb hts in_X8_account_X6 hown w 1 0 rfl rfl (ci := 10) rfl 2 (by decide) (w.2.2.2.2.2 _ (List.mem_of_getElem? (i := 35) rfl)) rfl rfl rfl dX8_account_207 ?_
    refine r_getN (v' := .int (S 207)) hx hb hts in_X8_account_X7 hown w 4 0 rfl rfl (ci := 11) rfl 7 (by decide) (w.2.2.2.2.2 _ (List.mem_of_getElem? (i := 30) rfl)) rfl rfl rfl dX8_account_210 ?_
    refine lv_if_eq (tgt := 220) hx hb dX8_account_213 (by decide) (fun c213 => ?_) (fun c213 => ?_)
    · refine lv_iconst (v := 0) hx hb dX8_account_220 (by decide) ?_
      exact x_i hx hb hr hlocks w hok (by rw [hvv]; exact c213.symm) dX8_account_221 (Nat.le_of_ble_eq_true rfl) (Nat.le_of_ble_eq_true rfl)
    · refine lv_iconst (v := 1) hx hb dX8_account_216 (by decide) ?_
      refine lv_goto (tgt := 221) hx hb dX8_account_217 (by decide) ?_
      exact x_i hx hb hr hlocks w hok (by rw [hvv]; exact (hdr.resolve_left c213).symm) dX8_account_221 (Nat.le_of_ble_eq_true rfl) (Nat.le_of_ble_eq_true rfl)
  by_cases e1_13 : y = 13
  · have hok : t1 (pIn y 0 15) = 0 := by rw [t1, e1_13, if_pos (by decide)]
    have hvv : acV (acF sz ln) S y = acV (acF sz ln) S 13 := by rw [e1_13]
    refine r_eq (y := 13) e1_13 ?_
    refine lv_tableIn (tgt := 222) hx hb dX8_account_1 (by decide) (by decide) rfl (by decide) ?_
    refine lv_aload_n hx hb dX8_account_222 rfl (lv_at hl 0 rfl) ?_
    refine r_get (v' := .ref (a 0)) hx hb hts in_X8_account_X8 hown w 0 0 rfl rfl (ci := 12) rfl 0 (by decide) (hts _ (List.mem_of_getElem? (i := 3) rfl)) rfl rfl rfl dX8_account_223 ?_
    refine r_getN (v' := .ref (a 20)) hx hb hts in_X8_account_X6 hown w 1 0 rfl rfl (ci := 10) rfl 3 (by decide) (w.2.2.2.2.2 _ (List.mem_of_getElem? (i := 36) rfl)) rfl rfl rfl dX8_account_226 ?_
    refine r_getN (v' := .int (M 0)) hx hb hts in_X8_account_X3 hown w 5 0 rfl rfl (ci := 7) rfl 0 (by decide) (w.2.2.2.2.2 _ (List.mem_of_getElem? (i := 32) rfl)) rfl rfl rfl dX8_account_229 ?_
    exact x_i hx hb hr hlocks w hok (by rw [hvv]; exact hM0) dX8_account_232 (Nat.le_of_ble_eq_true rfl) (Nat.le_of_ble_eq_true rfl)
  by_cases e1_14 : y = 14
  · have hok : t1 (pIn y 0 15) = 0 := by rw [t1, e1_14, if_pos (by decide)]
    have hvv : acV (acF sz ln) S y = acV (acF sz ln) S 14 := by rw [e1_14]
    refine r_eq (y := 14) e1_14 ?_
    refine lv_tableIn (tgt := 233) hx hb dX8_account_1 (by decide) (by decide) rfl (by decide) ?_
    refine lv_aload_n hx hb dX8_account_233 rfl (lv_at hl 0 rfl) ?_
    refine r_get (v' := .ref (h 0)) hx hb hts in_X8_account_X8 hown w 0 0 rfl rfl (ci := 12) rfl 4 (by decide) (hts _ (List.mem_of_getElem? (i := 4) rfl)) rfl rfl rfl dX8_account_234 ?_
    refine r_getN (v' := .int sz) hx hb hts in_X8_account_X1 hown w 6 0 rfl rfl (ci := 5) rfl 0 (by decide) (w.2.2.2.2.2 _ (List.mem_of_getElem? (i := 42) rfl)) rfl rfl rfl dX8_account_237 ?_
    exact x_i hx hb hr hlocks w hok (by rw [hvv]; rfl) dX8_account_240 (Nat.le_of_ble_eq_true rfl) (Nat.le_of_ble_eq_true rfl)
  by_cases e1_15 : y = 15
  · have hok : t1 (pIn y 0 15) = 0 := by rw [t1, e1_15, if_pos (by decide)]
    have hvv : acV (acF sz ln) S y = acV (acF sz ln) S 15 := by rw [e1_15]
    refine r_eq (y := 15) e1_15 ?_
    refine lv_tableIn (tgt := 241) hx hb dX8_account_1 (by decide) (by decide) rfl (by decide) ?_
    refine lv_aload_n hx hb dX8_account_241 rfl (lv_at hl 0 rfl) ?_
    refine r_get (v' := .ref (t 0)) hx hb hts in_X8_account_X8 hown w 0 0 rfl rfl (ci := 12) rfl 6 (by decide) (hts _ (List.mem_of_getElem? (i := 5) rfl)) rfl rfl rfl dX8_account_242 ?_
    refine r_getN (v' := .int ln) hx hb hts in_X8_account_X0 hown w 7 0 rfl rfl (ci := 4) rfl 0 (by decide) (w.2.2.2.2.2 _ (List.mem_of_getElem? (i := 45) rfl)) rfl rfl rfl dX8_account_245 ?_
    exact x_i hx hb hr hlocks w hok (by rw [hvv]; rfl) dX8_account_248 (Nat.le_of_ble_eq_true rfl) (Nat.le_of_ble_eq_true rfl)
  have hpi : pIn y 0 15 = false := pIn_no15 (fun j hj e => by
    rcases (show j = 0 ∨ j = 1 ∨ j = 2 ∨ j = 3 ∨ j = 4 ∨ j = 5 ∨ j = 6 ∨ j = 7 ∨ j = 8 ∨ j = 9 ∨ j = 10 ∨ j = 11 ∨ j = 12 ∨ j = 13 ∨ j = 14 ∨ j = 15 by omega) with rfl | rfl | rfl | rfl | rfl | rfl | rfl | rfl | rfl | rfl | rfl | rfl | rfl | rfl | rfl | rfl
    · exact e1_0 e
    · exact e1_1 e
    · exact e1_2 e
    · exact e1_3 e
    · exact e1_4 e
    · exact e1_5 e
    · exact e1_6 e
    · exact e1_7 e
    · exact e1_8 e
    · exact e1_9 e
    · exact e1_10 e
    · exact e1_11 e
    · exact e1_12 e
    · exact e1_13 e
    · exact e1_14 e
    · exact e1_15 e)
  have hno : ¬ t1 (pIn y 0 15) = 0 := by rw [t1, if_neg (bt_n hpi)]; decide
  refine lv_tableOut (tgt := 249) hx hb dX8_account_1 (sw_out 0 15 (fun v h1 h2 e => by
    have h3 : v = 0 ∨ v = 1 ∨ v = 2 ∨ v = 3 ∨ v = 4 ∨ v = 5 ∨ v = 6 ∨ v = 7 ∨ v = 8 ∨ v = 9 ∨ v = 10 ∨ v = 11 ∨ v = 12 ∨ v = 13 ∨ v = 14 ∨ v = 15 := by omega
    rcases h3 with rfl | rfl | rfl | rfl | rfl | rfl | rfl | rfl | rfl | rfl | rfl | rfl | rfl | rfl | rfl | rfl
    · exact e1_0 (Int32.toInt_inj.mp e)
    · exact e1_1 (Int32.toInt_inj.mp e)
    · exact e1_2 (Int32.toInt_inj.mp e)
    · exact e1_3 (Int32.toInt_inj.mp e)
    · exact e1_4 (Int32.toInt_inj.mp e)
    · exact e1_5 (Int32.toInt_inj.mp e)
    · exact e1_6 (Int32.toInt_inj.mp e)
    · exact e1_7 (Int32.toInt_inj.mp e)
    · exact e1_8 (Int32.toInt_inj.mp e)
    · exact e1_9 (Int32.toInt_inj.mp e)
    · exact e1_10 (Int32.toInt_inj.mp e)
    · exact e1_11 (Int32.toInt_inj.mp e)
    · exact e1_12 (Int32.toInt_inj.mp e)
    · exact e1_13 (Int32.toInt_inj.mp e)
    · exact e1_14 (Int32.toInt_inj.mp e)
    · exact e1_15 (Int32.toInt_inj.mp e)
    )) (by decide) ?_
  exact x_throwW hx hb hst w hz hno rfl hown (by decide) (by decide) (hts _ (List.mem_of_getElem? (i := 1) rfl)) (hts _ (List.mem_of_getElem? (i := 2) rfl)) (hz.1.2 (391, "there is no such account") (by decide)) (vx_hat (fun w hw => hts w (inx_X8_account_200 w hw)) xb_200 hz.1.1.use) (xg_c xg_200) (hl.1.trans hml.symm) dX8_account_249 dX8_account_252 dX8_account_253 dX8_account_256 dX8_account_259 hex (Nat.le_of_ble_eq_true rfl) (Nat.le_of_ble_eq_true rfl) (Nat.le_of_ble_eq_true rfl) (Nat.le_of_ble_eq_true rfl) hlocks (Nat.le_of_ble_eq_true rfl) (Nat.le_of_ble_eq_true rfl)
