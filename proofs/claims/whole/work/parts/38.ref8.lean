theorem in_X9_line_X9 : ∀ w ∈ wsX90, w ∈ wsX9_line := by decide +kernel
theorem hdN_X9_line : yX9_line.cls ≠ "java/lang/invoke/MethodHandle" ∧ yX9_line.cls ≠ "java/lang/invoke/VarHandle" ∧ (parseMethodDescriptor yX9_line.desc).map (fun d => d.parameters.length) = some 1 := by decide +kernel
set_option maxRecDepth 100000 in
set_option maxHeartbeats 4000000 in
theorem c_X9_line (l : Launch) (D : va_G) (ty : Nat → ClassId) (r : Nat → Nat) (F S g : pS) (mm : Nat) (h2 : S 122 = nI mm) (hc : mm ≤ 20) (hm : ∀ j, j < mm → mRow S j) (v : Int32)  : Mi l yX9_line wsX9_line (kR 2 46 0 0) D (kTY ty) [.ref (r 0), .int v] [moB r F, arB ty (r 1) 215 (sqA 215 S), arB ty (r 7) 60 g] [moB r (lnF F (pHas v mm) (lnS S (cN v)).length), arB ty (r 1) 215 (sqA 215 S), arB ty (r 7) 60 (lnG g (pHas v mm) (lnS S (cN v)))] (lnV (pHas v mm) (lnS S (cN v)).length) 0 0 := by
  refine m_i (cc := cX9_line) (maxL := 4) (ret := (some .int)) (by decide +kernel) rfl (Nat.le_of_ble_eq_true rfl) ?_
  intro p e s m below meth c A ls hx hb hml hr hlocks hown hts w hl
  have hown : s.vm.findClass RX9 = some m.cls := hown
  have hl : lv_has ls 4 [(0, .ref (r 0)), (1, .int v)] := hl
  refine lv_aload_n hx hb dX9_line_0 rfl (lv_at hl 0 rfl) ?_
  refine lv_iload_n hx hb dX9_line_1 rfl (lv_at hl 1 rfl) ?_
  refine lv_iconst (v := 0) hx hb dX9_line_2 (by decide) ?_
  refine lv_aload_n hx hb dX9_line_3 rfl (lv_at hl 0 rfl) ?_
  refine r_get (v' := .ref (r 1)) hx hb hts in_X9_line_X9 hown w 0 0 rfl rfl (ci := 13) rfl 0 (by decide) (hts _ (List.mem_of_getElem? (i := 1) rfl)) rfl rfl rfl dX9_line_4 ?_
  refine lv_bipush (v := 122) hx hb dX9_line_7 (by decide) ?_
  refine r_iald (v := (S 122)) hx hb w 1 0 rfl rfl 0 rfl 122 (by omega) (Nat.le_of_ble_eq_true rfl) rfl (sqA_at (by omega)) dX9_line_9 ?_
  refine r_eq (y := (nI mm)) h2 ?_
  refine lv_iconst (v := 1) hx hb dX9_line_10 (by decide) ?_
  refine lv_isub hx hb dX9_line_11 ?_
  refine k_iS (As := [.int v, .int 0, .int ((nI mm) - 1)]) (rest := [.ref (r 0)]) (Rs := [moB r F, arB ty (r 1) 215 (sqA 215 S), arB ty (r 7) 60 g]) (Bs' := [moB r F, arB ty (r 1) 215 (sqA 215 S), arB ty (r 7) 60 g]) ⟨hx, hb, hml, hown, hts⟩ w (c_X9_isIn l D ty v 0 ((nI mm) - 1)) (va_cwS 3 hts gX9_line_X9_isIn rfl rfl rfl hdN_X9_isIn ⟨Nat.le_of_ble_eq_true rfl, Nat.le_of_ble_eq_true rfl⟩) [0, 1, 2] (nB := 3) (by decide) rfl rfl rfl rfl rfl hl.1 rfl (Nat.le_of_ble_eq_true rfl) dX9_line_12 ⟨(Nat.zero_le _), (Nat.zero_le _)⟩ (fun H locs w => ?_)
  refine lv_if_eq (tgt := 22) hx hb dX9_line_15 (by decide) (fun c15 => ?_) (fun c15 => ?_)
  · have c15 := bI_0.mp c15
    rw [pIn_hasN (by omega)] at c15
    refine lv_iconst (v := 1) hx hb dX9_line_22 (by decide) ?_
    refine r_put hx hb hts in_X9_line_X9 tyX9 tyX9_ok nmX9 hown w 0 0 rfl rfl (ci := 13) rfl 7 (by decide) (hts _ (List.mem_of_getElem? (i := 2) rfl)) rfl rfl (ty := .int) (by decide +kernel) rfl rfl (Nat.le_of_ble_eq_true rfl) (moB r (upd F 7 1)) rfl [moB r (upd F 7 1), arB ty (r 1) 215 (sqA 215 S), arB ty (r 7) 60 g] rfl dX9_line_23 (fun H locs w => ?_)
    refine lv_aload_n hx hb dX9_line_26 rfl (lv_at hl 0 rfl) ?_
    refine r_get (v' := .int 1) hx hb hts in_X9_line_X9 hown w 0 0 rfl rfl (ci := 13) rfl 7 (by decide) (hts _ (List.mem_of_getElem? (i := 2) rfl)) rfl rfl rfl dX9_line_27 ?_
    refine lv_if_eq (tgt := 35) hx hb dX9_line_30 (by decide) (fun c30 => ?_) (fun c30 => ?_)
    · exact absurd c30 (by decide)
    · refine lv_iconst (v := 0) hx hb dX9_line_33 (by decide) ?_
      exact e_i hx hb hr hlocks (w.cast (by rw [lnF, lnG, if_neg (bt_n c15), if_neg (bt_n c15)])) (by rw [lnV, if_neg (bt_n c15)]) dX9_line_34 (Nat.le_refl _) (Nat.le_refl _)
  · have c15 := bI_1.mp c15
    rw [pIn_hasN (by omega)] at c15
    obtain ⟨j, gj, rfl⟩ := (pHas_iff (by omega)).mp c15
    obtain ⟨kd, d, a, b, e0, e1, e2, e3, k0, k1, k2, k3⟩ := hm j gj
    have hdd := dgE_b k1
    have hda := dgE_b (d := a) (by omega)
    have hdb := dgE_b (d := b) (by omega)
    have k1b : d < 10000000 := k1
    have hL := lnS_e e0 e1 e2 e3 k0 k1 k2 k3
    refine lv_iconst (v := 0) hx hb dX9_line_18 (by decide) ?_
    refine lv_goto (tgt := 23) hx hb dX9_line_19 (by decide) ?_
    refine r_put hx hb hts in_X9_line_X9 tyX9 tyX9_ok nmX9 hown w 0 0 rfl rfl (ci := 13) rfl 7 (by decide) (hts _ (List.mem_of_getElem? (i := 2) rfl)) rfl rfl (ty := .int) (by decide +kernel) rfl rfl (Nat.le_of_ble_eq_true rfl) (moB r (upd F 7 0)) rfl [moB r (upd F 7 0), arB ty (r 1) 215 (sqA 215 S), arB ty (r 7) 60 g] rfl dX9_line_23 (fun H locs w => ?_)
    refine lv_aload_n hx hb dX9_line_26 rfl (lv_at hl 0 rfl) ?_
    refine r_get (v' := .int 0) hx hb hts in_X9_line_X9 hown w 0 0 rfl rfl (ci := 13) rfl 7 (by decide) (hts _ (List.mem_of_getElem? (i := 2) rfl)) rfl rfl rfl dX9_line_27 ?_
    refine lv_if_eq (tgt := 35) hx hb dX9_line_30 (by decide) (fun c30 => ?_) (fun c30 => ?_)
    · refine lv_bipush (v := 123) hx hb dX9_line_35 (by decide) ?_
      refine lv_iconst (v := 4) hx hb dX9_line_37 (by decide) ?_
      refine lv_iload_n hx hb dX9_line_38 rfl (lv_at hl 1 rfl) ?_
      refine lv_imul hx hb dX9_line_39 ?_
      refine r_eq (y := (nI (4 * j))) (pk_mul 4 j) ?_
      refine lv_iadd hx hb dX9_line_40 ?_
      refine r_eq (y := (nI (123 + (4 * j)))) (nI_add 123 (4 * j)) ?_
      refine lv_istore_n (lv' := [(2, .int (nI (123 + (4 * j)))), (0, .ref (r 0)), (1, .int (nI j))]) hx hb dX9_line_41 rfl hl (by decide) rfl (fun ls hl => ?_)
      refine lv_aload_n hx hb dX9_line_42 rfl (lv_at hl 1 rfl) ?_
      refine lv_aload_n hx hb dX9_line_43 rfl (lv_at hl 1 rfl) ?_
      refine lv_aload_n hx hb dX9_line_44 rfl (lv_at hl 1 rfl) ?_
      refine lv_iconst (v := 0) hx hb dX9_line_45 (by decide) ?_
      refine lv_bipush (v := 100) hx hb dX9_line_46 (by decide) ?_
      refine k_iV (As := [.int 0, .int 100]) (rest := [.ref (r 0), .ref (r 0)]) (Rs := [arB ty (r 1) 215 (sqA 215 S)]) (Bs' := [moB r (upd F 7 0), arB ty (r 1) 215 (sqA 215 S), arB ty (r 7) 60 (putL g 0 [100])]) ⟨hx, hb, hml, hown, hts⟩ w (c_X9_put l D ty r (upd F 7 0) g 0 (by omega) 100) (cwV 2 hts gX9_line_X9_put rfl rfl rfl ⟨rfl, hdN_X9_put⟩ ⟨Nat.le_of_ble_eq_true rfl, Nat.le_of_ble_eq_true rfl⟩) [0, 2, 1] (nB := 3) (by decide) rfl rfl rfl rfl 0 rfl rfl (ci := 13) rfl rfl rfl hl.1 rfl (Nat.le_of_ble_eq_true rfl) dX9_line_48 ⟨(Nat.zero_le _), (Nat.zero_le _)⟩ (fun H locs w => ?_)
      refine lv_aload_n hx hb dX9_line_51 rfl (lv_at hl 1 rfl) ?_
      refine r_get (v' := .ref (r 1)) hx hb hts in_X9_line_X9 hown w 0 0 rfl rfl (ci := 13) rfl 0 (by decide) (hts _ (List.mem_of_getElem? (i := 1) rfl)) rfl rfl rfl dX9_line_52 ?_
      refine lv_iload_n hx hb dX9_line_55 rfl (lv_at hl 0 rfl) ?_
      refine lv_iconst (v := 1) hx hb dX9_line_56 (by decide) ?_
      refine lv_iadd hx hb dX9_line_57 ?_
      refine r_eq (y := (nI ((123 + (4 * j)) + 1))) (nI_add (123 + (4 * j)) 1) ?_
      refine r_iald (v := (S ((123 + (4 * j)) + 1))) hx hb w 1 0 rfl rfl 0 rfl ((123 + (4 * j)) + 1) (by omega) (Nat.le_of_ble_eq_true rfl) rfl (sqA_at (by omega)) dX9_line_58 ?_
      refine r_eq (y := (nI d)) e1 ?_
      refine k_iV (As := [.int (nI (0 + 1)), .int (nI d)]) (rest := [.ref (r 0)]) (Rs := [arB ty (r 1) 215 (sqA 215 S)]) (Bs' := [moB r (upd F 7 0), arB ty (r 1) 215 (sqA 215 S), arB ty (r 7) 60 (putL (putL g 0 [100]) (0 + 1) (dig d))]) ⟨hx, hb, hml, hown, hts⟩ w (c_X9_writes l D ty r (upd F 7 0) (putL g 0 [100]) (0 + 1) (by omega) d (by omega)) (cwV 2 hts gX9_line_X9_writes rfl rfl rfl ⟨rfl, hdN_X9_writes⟩ ⟨Nat.le_of_ble_eq_true rfl, Nat.le_of_ble_eq_true rfl⟩) [0, 2, 1] (nB := 3) (by decide) rfl rfl rfl rfl 0 rfl rfl (ci := 13) rfl rfl rfl hl.1 rfl (Nat.le_of_ble_eq_true rfl) dX9_line_59 ⟨(Nat.zero_le _), (Nat.zero_le _)⟩ (fun H locs w => ?_)
      refine lv_bipush (v := 32) hx hb dX9_line_62 (by decide) ?_
      refine k_iV (As := [.int (nI ((0 + 1) + (dgE 9 d + 1))), .int 32]) (rest := []) (Rs := [arB ty (r 1) 215 (sqA 215 S)]) (Bs' := [moB r (upd F 7 0), arB ty (r 1) 215 (sqA 215 S), arB ty (r 7) 60 (putL (putL (putL g 0 [100]) (0 + 1) (dig d)) ((0 + 1) + (dgE 9 d + 1)) [32])]) ⟨hx, hb, hml, hown, hts⟩ w (c_X9_put l D ty r (upd F 7 0) (putL (putL g 0 [100]) (0 + 1) (dig d)) ((0 + 1) + (dgE 9 d + 1)) (by omega) 32) (cwV 2 hts gX9_line_X9_put rfl rfl rfl ⟨rfl, hdN_X9_put⟩ ⟨Nat.le_of_ble_eq_true rfl, Nat.le_of_ble_eq_true rfl⟩) [0, 2, 1] (nB := 3) (by decide) rfl rfl rfl rfl 0 rfl rfl (ci := 13) rfl rfl rfl hl.1 rfl (Nat.le_of_ble_eq_true rfl) dX9_line_64 ⟨(Nat.zero_le _), (Nat.zero_le _)⟩ (fun H locs w => ?_)
      refine lv_istore_n (lv' := [(3, .int (nI (((0 + 1) + (dgE 9 d + 1)) + 1))), (2, .int (nI (123 + (4 * j)))), (0, .ref (r 0)), (1, .int (nI j))]) hx hb dX9_line_67 rfl hl (by decide) rfl (fun ls hl => ?_)
      refine lv_aload_n hx hb dX9_line_68 rfl (lv_at hl 2 rfl) ?_
      refine r_get (v' := .ref (r 1)) hx hb hts in_X9_line_X9 hown w 0 0 rfl rfl (ci := 13) rfl 0 (by decide) (hts _ (List.mem_of_getElem? (i := 1) rfl)) rfl rfl rfl dX9_line_69 ?_
      refine lv_iload_n hx hb dX9_line_72 rfl (lv_at hl 1 rfl) ?_
      refine r_iald (v := (S (123 + (4 * j)))) hx hb w 1 0 rfl rfl 0 rfl (123 + (4 * j)) (by omega) (Nat.le_of_ble_eq_true rfl) rfl (sqA_at (by omega)) dX9_line_73 ?_
      refine r_eq (y := (nI kd)) e0 ?_
      refine lv_iconst (v := 2) hx hb dX9_line_74 (by decide) ?_
      refine lv_icmp_ge (tgt := 135) hx hb dX9_line_75 (by decide) (fun c75 => ?_) (fun c75 => ?_)
      · have c75 := (nI_leI (a := 2) (b := kd) (by omega) (by omega)).mp c75
        have c75 : ¬ kd < 2 := by omega
        refine lv_aload_n hx hb dX9_line_135 rfl (lv_at hl 2 rfl) ?_
        refine r_get (v' := .ref (r 1)) hx hb hts in_X9_line_X9 hown w 0 0 rfl rfl (ci := 13) rfl 0 (by decide) (hts _ (List.mem_of_getElem? (i := 1) rfl)) rfl rfl rfl dX9_line_136 ?_
        refine lv_iload_n hx hb dX9_line_139 rfl (lv_at hl 1 rfl) ?_
        refine r_iald (v := (S (123 + (4 * j)))) hx hb w 1 0 rfl rfl 0 rfl (123 + (4 * j)) (by omega) (Nat.le_of_ble_eq_true rfl) rfl (sqA_at (by omega)) dX9_line_140 ?_
        refine r_eq (y := (nI kd)) e0 ?_
        refine lv_iconst (v := 2) hx hb dX9_line_141 (by decide) ?_
        refine lv_icmp_ne (tgt := 180) hx hb dX9_line_142 (by decide) (fun c142 => ?_) (fun c142 => ?_)
        · have c142 := mt (nI_eq (a := kd) (b := 2) (by omega) (by omega)).mpr c142
          refine lv_aload_n hx hb dX9_line_180 rfl (lv_at hl 2 rfl) ?_
          refine lv_aload_n hx hb dX9_line_181 rfl (lv_at hl 2 rfl) ?_
          refine lv_aload_n hx hb dX9_line_182 rfl (lv_at hl 2 rfl) ?_
          refine lv_aload_n hx hb dX9_line_183 rfl (lv_at hl 2 rfl) ?_
          refine lv_iload_n hx hb dX9_line_184 rfl (lv_at hl 0 rfl) ?_
          refine lv_bipush (v := 108) hx hb dX9_line_185 (by decide) ?_
          refine k_iV (As := [.int (nI (((0 + 1) + (dgE 9 d + 1)) + 1)), .int 108]) (rest := [.ref (r 0), .ref (r 0), .ref (r 0)]) (Rs := [arB ty (r 1) 215 (sqA 215 S)]) (Bs' := [moB r (upd F 7 0), arB ty (r 1) 215 (sqA 215 S), arB ty (r 7) 60 (putL (putL (putL (putL g 0 [100]) (0 + 1) (dig d)) ((0 + 1) + (dgE 9 d + 1)) [32]) (((0 + 1) + (dgE 9 d + 1)) + 1) [108])]) ⟨hx, hb, hml, hown, hts⟩ w (c_X9_put l D ty r (upd F 7 0) (putL (putL (putL g 0 [100]) (0 + 1) (dig d)) ((0 + 1) + (dgE 9 d + 1)) [32]) (((0 + 1) + (dgE 9 d + 1)) + 1) (by omega) 108) (cwV 2 hts gX9_line_X9_put rfl rfl rfl ⟨rfl, hdN_X9_put⟩ ⟨Nat.le_of_ble_eq_true rfl, Nat.le_of_ble_eq_true rfl⟩) [0, 2, 1] (nB := 3) (by decide) rfl rfl rfl rfl 0 rfl rfl (ci := 13) rfl rfl rfl hl.1 rfl (Nat.le_of_ble_eq_true rfl) dX9_line_187 ⟨(Nat.zero_le _), (Nat.zero_le _)⟩ (fun H locs w => ?_)
          refine lv_bipush (v := 101) hx hb dX9_line_190 (by decide) ?_
          refine k_iV (As := [.int (nI ((((0 + 1) + (dgE 9 d + 1)) + 1) + 1)), .int 101]) (rest := [.ref (r 0), .ref (r 0)]) (Rs := [arB ty (r 1) 215 (sqA 215 S)]) (Bs' := [moB r (upd F 7 0), arB ty (r 1) 215 (sqA 215 S), arB ty (r 7) 60 (putL (putL (putL (putL (putL g 0 [100]) (0 + 1) (dig d)) ((0 + 1) + (dgE 9 d + 1)) [32]) (((0 + 1) + (dgE 9 d + 1)) + 1) [108]) ((((0 + 1) + (dgE 9 d + 1)) + 1) + 1) [101])]) ⟨hx, hb, hml, hown, hts⟩ w (c_X9_put l D ty r (upd F 7 0) (putL (putL (putL (putL g 0 [100]) (0 + 1) (dig d)) ((0 + 1) + (dgE 9 d + 1)) [32]) (((0 + 1) + (dgE 9 d + 1)) + 1) [108]) ((((0 + 1) + (dgE 9 d + 1)) + 1) + 1) (by omega) 101) (cwV 2 hts gX9_line_X9_put rfl rfl rfl ⟨rfl, hdN_X9_put⟩ ⟨Nat.le_of_ble_eq_true rfl, Nat.le_of_ble_eq_true rfl⟩) [0, 2, 1] (nB := 3) (by decide) rfl rfl rfl rfl 0 rfl rfl (ci := 13) rfl rfl rfl hl.1 rfl (Nat.le_of_ble_eq_true rfl) dX9_line_192 ⟨(Nat.zero_le _), (Nat.zero_le _)⟩ (fun H locs w => ?_)
          refine lv_bipush (v := 97) hx hb dX9_line_195 (by decide) ?_
          refine k_iV (As := [.int (nI (((((0 + 1) + (dgE 9 d + 1)) + 1) + 1) + 1)), .int 97]) (rest := [.ref (r 0)]) (Rs := [arB ty (r 1) 215 (sqA 215 S)]) (Bs' := [moB r (upd F 7 0), arB ty (r 1) 215 (sqA 215 S), arB ty (r 7) 60 (putL (putL (putL (putL (putL (putL g 0 [100]) (0 + 1) (dig d)) ((0 + 1) + (dgE 9 d + 1)) [32]) (((0 + 1) + (dgE 9 d + 1)) + 1) [108]) ((((0 + 1) + (dgE 9 d + 1)) + 1) + 1) [101]) (((((0 + 1) + (dgE 9 d + 1)) + 1) + 1) + 1) [97])]) ⟨hx, hb, hml, hown, hts⟩ w (c_X9_put l D ty r (upd F 7 0) (putL (putL (putL (putL (putL g 0 [100]) (0 + 1) (dig d)) ((0 + 1) + (dgE 9 d + 1)) [32]) (((0 + 1) + (dgE 9 d + 1)) + 1) [108]) ((((0 + 1) + (dgE 9 d + 1)) + 1) + 1) [101]) (((((0 + 1) + (dgE 9 d + 1)) + 1) + 1) + 1) (by omega) 97) (cwV 2 hts gX9_line_X9_put rfl rfl rfl ⟨rfl, hdN_X9_put⟩ ⟨Nat.le_of_ble_eq_true rfl, Nat.le_of_ble_eq_true rfl⟩) [0, 2, 1] (nB := 3) (by decide) rfl rfl rfl rfl 0 rfl rfl (ci := 13) rfl rfl rfl hl.1 rfl (Nat.le_of_ble_eq_true rfl) dX9_line_197 ⟨(Nat.zero_le _), (Nat.zero_le _)⟩ (fun H locs w => ?_)
          refine lv_bipush (v := 116) hx hb dX9_line_200 (by decide) ?_
          refine k_iV (As := [.int (nI ((((((0 + 1) + (dgE 9 d + 1)) + 1) + 1) + 1) + 1)), .int 116]) (rest := []) (Rs := [arB ty (r 1) 215 (sqA 215 S)]) (Bs' := [moB r (upd F 7 0), arB ty (r 1) 215 (sqA 215 S), arB ty (r 7) 60 (putL (putL (putL (putL (putL (putL (putL g 0 [100]) (0 + 1) (dig d)) ((0 + 1) + (dgE 9 d + 1)) [32]) (((0 + 1) + (dgE 9 d + 1)) + 1) [108]) ((((0 + 1) + (dgE 9 d + 1)) + 1) + 1) [101]) (((((0 + 1) + (dgE 9 d + 1)) + 1) + 1) + 1) [97]) ((((((0 + 1) + (dgE 9 d + 1)) + 1) + 1) + 1) + 1) [116])]) ⟨hx, hb, hml, hown, hts⟩ w (c_X9_put l D ty r (upd F 7 0) (putL (putL (putL (putL (putL (putL g 0 [100]) (0 + 1) (dig d)) ((0 + 1) + (dgE 9 d + 1)) [32]) (((0 + 1) + (dgE 9 d + 1)) + 1) [108]) ((((0 + 1) + (dgE 9 d + 1)) + 1) + 1) [101]) (((((0 + 1) + (dgE 9 d + 1)) + 1) + 1) + 1) [97]) ((((((0 + 1) + (dgE 9 d + 1)) + 1) + 1) + 1) + 1) (by omega) 116) (cwV 2 hts gX9_line_X9_put rfl rfl rfl ⟨rfl, hdN_X9_put⟩ ⟨Nat.le_of_ble_eq_true rfl, Nat.le_of_ble_eq_true rfl⟩) [0, 2, 1] (nB := 3) (by decide) rfl rfl rfl rfl 0 rfl rfl (ci := 13) rfl rfl rfl hl.1 rfl (Nat.le_of_ble_eq_true rfl) dX9_line_202 ⟨(Nat.zero_le _), (Nat.zero_le _)⟩ (fun H locs w => ?_)
          refine lv_istore_n (lv' := [(3, .int (nI (((((((0 + 1) + (dgE 9 d + 1)) + 1) + 1) + 1) + 1) + 1))), (2, .int (nI (123 + (4 * j)))), (0, .ref (r 0)), (1, .int (nI j))]) hx hb dX9_line_205 rfl hl (by decide) rfl (fun ls hl => ?_)
          refine lv_aload_n hx hb dX9_line_206 rfl (lv_at hl 2 rfl) ?_
          refine lv_aload_n hx hb dX9_line_207 rfl (lv_at hl 2 rfl) ?_
          refine lv_aload_n hx hb dX9_line_208 rfl (lv_at hl 2 rfl) ?_
          refine lv_iload_n hx hb dX9_line_209 rfl (lv_at hl 0 rfl) ?_
          refine lv_bipush (v := 104) hx hb dX9_line_210 (by decide) ?_
          refine k_iV (As := [.int (nI (((((((0 + 1) + (dgE 9 d + 1)) + 1) + 1) + 1) + 1) + 1)), .int 104]) (rest := [.ref (r 0), .ref (r 0)]) (Rs := [arB ty (r 1) 215 (sqA 215 S)]) (Bs' := [moB r (upd F 7 0), arB ty (r 1) 215 (sqA 215 S), arB ty (r 7) 60 (putL (putL (putL (putL (putL (putL (putL (putL g 0 [100]) (0 + 1) (dig d)) ((0 + 1) + (dgE 9 d + 1)) [32]) (((0 + 1) + (dgE 9 d + 1)) + 1) [108]) ((((0 + 1) + (dgE 9 d + 1)) + 1) + 1) [101]) (((((0 + 1) + (dgE 9 d + 1)) + 1) + 1) + 1) [97]) ((((((0 + 1) + (dgE 9 d + 1)) + 1) + 1) + 1) + 1) [116]) (((((((0 + 1) + (dgE 9 d + 1)) + 1) + 1) + 1) + 1) + 1) [104])]) ⟨hx, hb, hml, hown, hts⟩ w (c_X9_put l D ty r (upd F 7 0) (putL (putL (putL (putL (putL (putL (putL g 0 [100]) (0 + 1) (dig d)) ((0 + 1) + (dgE 9 d + 1)) [32]) (((0 + 1) + (dgE 9 d + 1)) + 1) [108]) ((((0 + 1) + (dgE 9 d + 1)) + 1) + 1) [101]) (((((0 + 1) + (dgE 9 d + 1)) + 1) + 1) + 1) [97]) ((((((0 + 1) + (dgE 9 d + 1)) + 1) + 1) + 1) + 1) [116]) (((((((0 + 1) + (dgE 9 d + 1)) + 1) + 1) + 1) + 1) + 1) (by omega) 104) (cwV 2 hts gX9_line_X9_put rfl rfl rfl ⟨rfl, hdN_X9_put⟩ ⟨Nat.le_of_ble_eq_true rfl, Nat.le_of_ble_eq_true rfl⟩) [0, 2, 1] (nB := 3) (by decide) rfl rfl rfl rfl 0 rfl rfl (ci := 13) rfl rfl rfl hl.1 rfl (Nat.le_of_ble_eq_true rfl) dX9_line_212 ⟨(Nat.zero_le _), (Nat.zero_le _)⟩ (fun H locs w => ?_)
          refine lv_bipush (v := 101) hx hb dX9_line_215 (by decide) ?_
          refine k_iV (As := [.int (nI ((((((((0 + 1) + (dgE 9 d + 1)) + 1) + 1) + 1) + 1) + 1) + 1)), .int 101]) (rest := [.ref (r 0)]) (Rs := [arB ty (r 1) 215 (sqA 215 S)]) (Bs' := [moB r (upd F 7 0), arB ty (r 1) 215 (sqA 215 S), arB ty (r 7) 60 (putL (putL (putL (putL (putL (putL (putL (putL (putL g 0 [100]) (0 + 1) (dig d)) ((0 + 1) + (dgE 9 d + 1)) [32]) (((0 + 1) + (dgE 9 d + 1)) + 1) [108]) ((((0 + 1) + (dgE 9 d + 1)) + 1) + 1) [101]) (((((0 + 1) + (dgE 9 d + 1)) + 1) + 1) + 1) [97]) ((((((0 + 1) + (dgE 9 d + 1)) + 1) + 1) + 1) + 1) [116]) (((((((0 + 1) + (dgE 9 d + 1)) + 1) + 1) + 1) + 1) + 1) [104]) ((((((((0 + 1) + (dgE 9 d + 1)) + 1) + 1) + 1) + 1) + 1) + 1) [101])]) ⟨hx, hb, hml, hown, hts⟩ w (c_X9_put l D ty r (upd F 7 0) (putL (putL (putL (putL (putL (putL (putL (putL g 0 [100]) (0 + 1) (dig d)) ((0 + 1) + (dgE 9 d + 1)) [32]) (((0 + 1) + (dgE 9 d + 1)) + 1) [108]) ((((0 + 1) + (dgE 9 d + 1)) + 1) + 1) [101]) (((((0 + 1) + (dgE 9 d + 1)) + 1) + 1) + 1) [97]) ((((((0 + 1) + (dgE 9 d + 1)) + 1) + 1) + 1) + 1) [116]) (((((((0 + 1) + (dgE 9 d + 1)) + 1) + 1) + 1) + 1) + 1) [104]) ((((((((0 + 1) + (dgE 9 d + 1)) + 1) + 1) + 1) + 1) + 1) + 1) (by omega) 101) (cwV 2 hts gX9_line_X9_put rfl rfl rfl ⟨rfl, hdN_X9_put⟩ ⟨Nat.le_of_ble_eq_true rfl, Nat.le_of_ble_eq_true rfl⟩) [0, 2, 1] (nB := 3) (by decide) rfl rfl rfl rfl 0 rfl rfl (ci := 13) rfl rfl rfl hl.1 rfl (Nat.le_of_ble_eq_true rfl) dX9_line_217 ⟨(Nat.zero_le _), (Nat.zero_le _)⟩ (fun H locs w => ?_)
          refine lv_bipush (v := 114) hx hb dX9_line_220 (by decide) ?_
          refine k_iV (As := [.int (nI (((((((((0 + 1) + (dgE 9 d + 1)) + 1) + 1) + 1) + 1) + 1) + 1) + 1)), .int 114]) (rest := []) (Rs := [arB ty (r 1) 215 (sqA 215 S)]) (Bs' := [moB r (upd F 7 0), arB ty (r 1) 215 (sqA 215 S), arB ty (r 7) 60 (putL (putL (putL (putL (putL (putL (putL (putL (putL (putL g 0 [100]) (0 + 1) (dig d)) ((0 + 1) + (dgE 9 d + 1)) [32]) (((0 + 1) + (dgE 9 d + 1)) + 1) [108]) ((((0 + 1) + (dgE 9 d + 1)) + 1) + 1) [101]) (((((0 + 1) + (dgE 9 d + 1)) + 1) + 1) + 1) [97]) ((((((0 + 1) + (dgE 9 d + 1)) + 1) + 1) + 1) + 1) [116]) (((((((0 + 1) + (dgE 9 d + 1)) + 1) + 1) + 1) + 1) + 1) [104]) ((((((((0 + 1) + (dgE 9 d + 1)) + 1) + 1) + 1) + 1) + 1) + 1) [101]) (((((((((0 + 1) + (dgE 9 d + 1)) + 1) + 1) + 1) + 1) + 1) + 1) + 1) [114])]) ⟨hx, hb, hml, hown, hts⟩ w (c_X9_put l D ty r (upd F 7 0) (putL (putL (putL (putL (putL (putL (putL (putL (putL g 0 [100]) (0 + 1) (dig d)) ((0 + 1) + (dgE 9 d + 1)) [32]) (((0 + 1) + (dgE 9 d + 1)) + 1) [108]) ((((0 + 1) + (dgE 9 d + 1)) + 1) + 1) [101]) (((((0 + 1) + (dgE 9 d + 1)) + 1) + 1) + 1) [97]) ((((((0 + 1) + (dgE 9 d + 1)) + 1) + 1) + 1) + 1) [116]) (((((((0 + 1) + (dgE 9 d + 1)) + 1) + 1) + 1) + 1) + 1) [104]) ((((((((0 + 1) + (dgE 9 d + 1)) + 1) + 1) + 1) + 1) + 1) + 1) [101]) (((((((((0 + 1) + (dgE 9 d + 1)) + 1) + 1) + 1) + 1) + 1) + 1) + 1) (by omega) 114) (cwV 2 hts gX9_line_X9_put rfl rfl rfl ⟨rfl, hdN_X9_put⟩ ⟨Nat.le_of_ble_eq_true rfl, Nat.le_of_ble_eq_true rfl⟩) [0, 2, 1] (nB := 3) (by decide) rfl rfl rfl rfl 0 rfl rfl (ci := 13) rfl rfl rfl hl.1 rfl (Nat.le_of_ble_eq_true rfl) dX9_line_222 ⟨(Nat.zero_le _), (Nat.zero_le _)⟩ (fun H locs w => ?_)
          refine lv_istore_n (lv' := [(3, .int (nI ((((((((((0 + 1) + (dgE 9 d + 1)) + 1) + 1) + 1) + 1) + 1) + 1) + 1) + 1))), (2, .int (nI (123 + (4 * j)))), (0, .ref (r 0)), (1, .int (nI j))]) hx hb dX9_line_225 rfl hl (by decide) rfl (fun ls hl => ?_)
          refine lv_aload_n hx hb dX9_line_226 rfl (lv_at hl 2 rfl) ?_
          refine lv_iload_n hx hb dX9_line_227 rfl (lv_at hl 0 rfl) ?_
          refine r_put hx hb hts in_X9_line_X9 tyX9 tyX9_ok nmX9 hown w 0 0 rfl rfl (ci := 13) rfl 15 (by decide) (hts _ (List.mem_of_getElem? (i := 3) rfl)) rfl rfl (ty := .int) (by decide +kernel) rfl rfl (Nat.le_of_ble_eq_true rfl) (moB r (upd (upd F 7 0) 15 (nI ((((((((((0 + 1) + (dgE 9 d + 1)) + 1) + 1) + 1) + 1) + 1) + 1) + 1) + 1)))) rfl [moB r (upd (upd F 7 0) 15 (nI ((((((((((0 + 1) + (dgE 9 d + 1)) + 1) + 1) + 1) + 1) + 1) + 1) + 1) + 1))), arB ty (r 1) 215 (sqA 215 S), arB ty (r 7) 60 (putL (putL (putL (putL (putL (putL (putL (putL (putL (putL g 0 [100]) (0 + 1) (dig d)) ((0 + 1) + (dgE 9 d + 1)) [32]) (((0 + 1) + (dgE 9 d + 1)) + 1) [108]) ((((0 + 1) + (dgE 9 d + 1)) + 1) + 1) [101]) (((((0 + 1) + (dgE 9 d + 1)) + 1) + 1) + 1) [97]) ((((((0 + 1) + (dgE 9 d + 1)) + 1) + 1) + 1) + 1) [116]) (((((((0 + 1) + (dgE 9 d + 1)) + 1) + 1) + 1) + 1) + 1) [104]) ((((((((0 + 1) + (dgE 9 d + 1)) + 1) + 1) + 1) + 1) + 1) + 1) [101]) (((((((((0 + 1) + (dgE 9 d + 1)) + 1) + 1) + 1) + 1) + 1) + 1) + 1) [114])] rfl dX9_line_228 (fun H locs w => ?_)
          refine lv_aload_n hx hb dX9_line_231 rfl (lv_at hl 2 rfl) ?_
          refine r_get (v' := .int (nI ((((((((((0 + 1) + (dgE 9 d + 1)) + 1) + 1) + 1) + 1) + 1) + 1) + 1) + 1))) hx hb hts in_X9_line_X9 hown w 0 0 rfl rfl (ci := 13) rfl 15 (by decide) (hts _ (List.mem_of_getElem? (i := 3) rfl)) rfl rfl rfl dX9_line_232 ?_
          exact e_i hx hb hr hlocks (w.cast (by rw [lnF, lnG, if_pos c15, if_pos c15, cN_nI (by omega), hL, lnT, if_neg (by omega), if_neg c142, putL_app (g := g) (k := 0) (m := (0 + 1)) (L1 := [100]) (L2 := (dig d)) (by simp only [List.length_append, List.length_cons, List.length_nil, dig_len]; try omega), putL_app (g := g) (k := 0) (m := ((0 + 1) + (dgE 9 d + 1))) (L1 := ([100] ++ (dig d))) (L2 := [32]) (by simp only [List.length_append, List.length_cons, List.length_nil, dig_len]; try omega), putL_app (g := g) (k := 0) (m := (((0 + 1) + (dgE 9 d + 1)) + 1)) (L1 := (([100] ++ (dig d)) ++ [32])) (L2 := [108]) (by simp only [List.length_append, List.length_cons, List.length_nil, dig_len]; try omega), putL_app (g := g) (k := 0) (m := ((((0 + 1) + (dgE 9 d + 1)) + 1) + 1)) (L1 := ((([100] ++ (dig d)) ++ [32]) ++ [108])) (L2 := [101]) (by simp only [List.length_append, List.length_cons, List.length_nil, dig_len]; try omega), putL_app (g := g) (k := 0) (m := (((((0 + 1) + (dgE 9 d + 1)) + 1) + 1) + 1)) (L1 := (((([100] ++ (dig d)) ++ [32]) ++ [108]) ++ [101])) (L2 := [97]) (by simp only [List.length_append, List.length_cons, List.length_nil, dig_len]; try omega), putL_app (g := g) (k := 0) (m := ((((((0 + 1) + (dgE 9 d + 1)) + 1) + 1) + 1) + 1)) (L1 := ((((([100] ++ (dig d)) ++ [32]) ++ [108]) ++ [101]) ++ [97])) (L2 := [116]) (by simp only [List.length_append, List.length_cons, List.length_nil, dig_len]; try omega), putL_app (g := g) (k := 0) (m := (((((((0 + 1) + (dgE 9 d + 1)) + 1) + 1) + 1) + 1) + 1)) (L1 := (((((([100] ++ (dig d)) ++ [32]) ++ [108]) ++ [101]) ++ [97]) ++ [116])) (L2 := [104]) (by simp only [List.length_append, List.length_cons, List.length_nil, dig_len]; try omega), putL_app (g := g) (k := 0) (m := ((((((((0 + 1) + (dgE 9 d + 1)) + 1) + 1) + 1) + 1) + 1) + 1)) (L1 := ((((((([100] ++ (dig d)) ++ [32]) ++ [108]) ++ [101]) ++ [97]) ++ [116]) ++ [104])) (L2 := [101]) (by simp only [List.length_append, List.length_cons, List.length_nil, dig_len]; try omega), putL_app (g := g) (k := 0) (m := (((((((((0 + 1) + (dgE 9 d + 1)) + 1) + 1) + 1) + 1) + 1) + 1) + 1)) (L1 := (((((((([100] ++ (dig d)) ++ [32]) ++ [108]) ++ [101]) ++ [97]) ++ [116]) ++ [104]) ++ [101])) (L2 := [114]) (by simp only [List.length_append, List.length_cons, List.length_nil, dig_len]; try omega)]; congr 1; exact congrArg (fun x => moB r (upd (upd F 7 0) 15 (nI x))) (by simp only [List.length_append, List.length_cons, List.length_nil, dig_len]; try omega))) (by rw [lnV, if_pos c15, cN_nI (by omega), hL, lnT, if_neg (by omega), if_neg c142]; exact congrArg nI (by simp only [List.length_append, List.length_cons, List.length_nil, dig_len]; try omega)) dX9_line_235 (Nat.le_refl _) (Nat.le_refl _)
        · have c142 := (nI_eq (a := kd) (b := 2) (by omega) (by omega)).mp c142
          refine lv_aload_n hx hb dX9_line_145 rfl (lv_at hl 2 rfl) ?_
          refine lv_aload_n hx hb dX9_line_146 rfl (lv_at hl 2 rfl) ?_
          refine lv_aload_n hx hb dX9_line_147 rfl (lv_at hl 2 rfl) ?_
          refine lv_aload_n hx hb dX9_line_148 rfl (lv_at hl 2 rfl) ?_
          refine lv_iload_n hx hb dX9_line_149 rfl (lv_at hl 0 rfl) ?_
          refine lv_bipush (v := 108) hx hb dX9_line_150 (by decide) ?_
          refine k_iV (As := [.int (nI (((0 + 1) + (dgE 9 d + 1)) + 1)), .int 108]) (rest := [.ref (r 0), .ref (r 0), .ref (r 0)]) (Rs := [arB ty (r 1) 215 (sqA 215 S)]) (Bs' := [moB r (upd F 7 0), arB ty (r 1) 215 (sqA 215 S), arB ty (r 7) 60 (putL (putL (putL (putL g 0 [100]) (0 + 1) (dig d)) ((0 + 1) + (dgE 9 d + 1)) [32]) (((0 + 1) + (dgE 9 d + 1)) + 1) [108])]) ⟨hx, hb, hml, hown, hts⟩ w (c_X9_put l D ty r (upd F 7 0) (putL (putL (putL g 0 [100]) (0 + 1) (dig d)) ((0 + 1) + (dgE 9 d + 1)) [32]) (((0 + 1) + (dgE 9 d + 1)) + 1) (by omega) 108) (cwV 2 hts gX9_line_X9_put rfl rfl rfl ⟨rfl, hdN_X9_put⟩ ⟨Nat.le_of_ble_eq_true rfl, Nat.le_of_ble_eq_true rfl⟩) [0, 2, 1] (nB := 3) (by decide) rfl rfl rfl rfl 0 rfl rfl (ci := 13) rfl rfl rfl hl.1 rfl (Nat.le_of_ble_eq_true rfl) dX9_line_152 ⟨(Nat.zero_le _), (Nat.zero_le _)⟩ (fun H locs w => ?_)
          refine lv_bipush (v := 97) hx hb dX9_line_155 (by decide) ?_
          refine k_iV (As := [.int (nI ((((0 + 1) + (dgE 9 d + 1)) + 1) + 1)), .int 97]) (rest := [.ref (r 0), .ref (r 0)]) (Rs := [arB ty (r 1) 215 (sqA 215 S)]) (Bs' := [moB r (upd F 7 0), arB ty (r 1) 215 (sqA 215 S), arB ty (r 7) 60 (putL (putL (putL (putL (putL g 0 [100]) (0 + 1) (dig d)) ((0 + 1) + (dgE 9 d + 1)) [32]) (((0 + 1) + (dgE 9 d + 1)) + 1) [108]) ((((0 + 1) + (dgE 9 d + 1)) + 1) + 1) [97])]) ⟨hx, hb, hml, hown, hts⟩ w (c_X9_put l D ty r (upd F 7 0) (putL (putL (putL (putL g 0 [100]) (0 + 1) (dig d)) ((0 + 1) + (dgE 9 d + 1)) [32]) (((0 + 1) + (dgE 9 d + 1)) + 1) [108]) ((((0 + 1) + (dgE 9 d + 1)) + 1) + 1) (by omega) 97) (cwV 2 hts gX9_line_X9_put rfl rfl rfl ⟨rfl, hdN_X9_put⟩ ⟨Nat.le_of_ble_eq_true rfl, Nat.le_of_ble_eq_true rfl⟩) [0, 2, 1] (nB := 3) (by decide) rfl rfl rfl rfl 0 rfl rfl (ci := 13) rfl rfl rfl hl.1 rfl (Nat.le_of_ble_eq_true rfl) dX9_line_157 ⟨(Nat.zero_le _), (Nat.zero_le _)⟩ (fun H locs w => ?_)
          refine lv_bipush (v := 119) hx hb dX9_line_160 (by decide) ?_
          refine k_iV (As := [.int (nI (((((0 + 1) + (dgE 9 d + 1)) + 1) + 1) + 1)), .int 119]) (rest := [.ref (r 0)]) (Rs := [arB ty (r 1) 215 (sqA 215 S)]) (Bs' := [moB r (upd F 7 0), arB ty (r 1) 215 (sqA 215 S), arB ty (r 7) 60 (putL (putL (putL (putL (putL (putL g 0 [100]) (0 + 1) (dig d)) ((0 + 1) + (dgE 9 d + 1)) [32]) (((0 + 1) + (dgE 9 d + 1)) + 1) [108]) ((((0 + 1) + (dgE 9 d + 1)) + 1) + 1) [97]) (((((0 + 1) + (dgE 9 d + 1)) + 1) + 1) + 1) [119])]) ⟨hx, hb, hml, hown, hts⟩ w (c_X9_put l D ty r (upd F 7 0) (putL (putL (putL (putL (putL g 0 [100]) (0 + 1) (dig d)) ((0 + 1) + (dgE 9 d + 1)) [32]) (((0 + 1) + (dgE 9 d + 1)) + 1) [108]) ((((0 + 1) + (dgE 9 d + 1)) + 1) + 1) [97]) (((((0 + 1) + (dgE 9 d + 1)) + 1) + 1) + 1) (by omega) 119) (cwV 2 hts gX9_line_X9_put rfl rfl rfl ⟨rfl, hdN_X9_put⟩ ⟨Nat.le_of_ble_eq_true rfl, Nat.le_of_ble_eq_true rfl⟩) [0, 2, 1] (nB := 3) (by decide) rfl rfl rfl rfl 0 rfl rfl (ci := 13) rfl rfl rfl hl.1 rfl (Nat.le_of_ble_eq_true rfl) dX9_line_162 ⟨(Nat.zero_le _), (Nat.zero_le _)⟩ (fun H locs w => ?_)
          refine lv_aload_n hx hb dX9_line_165 rfl (lv_at hl 2 rfl) ?_
          refine r_get (v' := .ref (r 1)) hx hb hts in_X9_line_X9 hown w 0 0 rfl rfl (ci := 13) rfl 0 (by decide) (hts _ (List.mem_of_getElem? (i := 1) rfl)) rfl rfl rfl dX9_line_166 ?_
          refine lv_iload_n hx hb dX9_line_169 rfl (lv_at hl 1 rfl) ?_
          refine lv_iconst (v := 2) hx hb dX9_line_170 (by decide) ?_
          refine lv_iadd hx hb dX9_line_171 ?_
          refine r_eq (y := (nI ((123 + (4 * j)) + 2))) (nI_add (123 + (4 * j)) 2) ?_
          refine r_iald (v := (S ((123 + (4 * j)) + 2))) hx hb w 1 0 rfl rfl 0 rfl ((123 + (4 * j)) + 2) (by omega) (Nat.le_of_ble_eq_true rfl) rfl (sqA_at (by omega)) dX9_line_172 ?_
          refine r_eq (y := (nI a)) e2 ?_
          refine k_iV (As := [.int (nI ((((((0 + 1) + (dgE 9 d + 1)) + 1) + 1) + 1) + 1)), .int (nI a)]) (rest := []) (Rs := [arB ty (r 1) 215 (sqA 215 S)]) (Bs' := [moB r (upd F 7 0), arB ty (r 1) 215 (sqA 215 S), arB ty (r 7) 60 (putL (putL (putL (putL (putL (putL (putL g 0 [100]) (0 + 1) (dig d)) ((0 + 1) + (dgE 9 d + 1)) [32]) (((0 + 1) + (dgE 9 d + 1)) + 1) [108]) ((((0 + 1) + (dgE 9 d + 1)) + 1) + 1) [97]) (((((0 + 1) + (dgE 9 d + 1)) + 1) + 1) + 1) [119]) ((((((0 + 1) + (dgE 9 d + 1)) + 1) + 1) + 1) + 1) (dig a))]) ⟨hx, hb, hml, hown, hts⟩ w (c_X9_writes l D ty r (upd F 7 0) (putL (putL (putL (putL (putL (putL g 0 [100]) (0 + 1) (dig d)) ((0 + 1) + (dgE 9 d + 1)) [32]) (((0 + 1) + (dgE 9 d + 1)) + 1) [108]) ((((0 + 1) + (dgE 9 d + 1)) + 1) + 1) [97]) (((((0 + 1) + (dgE 9 d + 1)) + 1) + 1) + 1) [119]) ((((((0 + 1) + (dgE 9 d + 1)) + 1) + 1) + 1) + 1) (by omega) a (by omega)) (cwV 2 hts gX9_line_X9_writes rfl rfl rfl ⟨rfl, hdN_X9_writes⟩ ⟨Nat.le_of_ble_eq_true rfl, Nat.le_of_ble_eq_true rfl⟩) [0, 2, 1] (nB := 3) (by decide) rfl rfl rfl rfl 0 rfl rfl (ci := 13) rfl rfl rfl hl.1 rfl (Nat.le_of_ble_eq_true rfl) dX9_line_173 ⟨(Nat.zero_le _), (Nat.zero_le _)⟩ (fun H locs w => ?_)
          refine lv_istore_n (lv' := [(3, .int (nI (((((((0 + 1) + (dgE 9 d + 1)) + 1) + 1) + 1) + 1) + (dgE 9 a + 1)))), (2, .int (nI (123 + (4 * j)))), (0, .ref (r 0)), (1, .int (nI j))]) hx hb dX9_line_176 rfl hl (by decide) rfl (fun ls hl => ?_)
          refine lv_goto (tgt := 226) hx hb dX9_line_177 (by decide) ?_
          refine lv_aload_n hx hb dX9_line_226 rfl (lv_at hl 2 rfl) ?_
          refine lv_iload_n hx hb dX9_line_227 rfl (lv_at hl 0 rfl) ?_
          refine r_put hx hb hts in_X9_line_X9 tyX9 tyX9_ok nmX9 hown w 0 0 rfl rfl (ci := 13) rfl 15 (by decide) (hts _ (List.mem_of_getElem? (i := 3) rfl)) rfl rfl (ty := .int) (by decide +kernel) rfl rfl (Nat.le_of_ble_eq_true rfl) (moB r (upd (upd F 7 0) 15 (nI (((((((0 + 1) + (dgE 9 d + 1)) + 1) + 1) + 1) + 1) + (dgE 9 a + 1))))) rfl [moB r (upd (upd F 7 0) 15 (nI (((((((0 + 1) + (dgE 9 d + 1)) + 1) + 1) + 1) + 1) + (dgE 9 a + 1)))), arB ty (r 1) 215 (sqA 215 S), arB ty (r 7) 60 (putL (putL (putL (putL (putL (putL (putL g 0 [100]) (0 + 1) (dig d)) ((0 + 1) + (dgE 9 d + 1)) [32]) (((0 + 1) + (dgE 9 d + 1)) + 1) [108]) ((((0 + 1) + (dgE 9 d + 1)) + 1) + 1) [97]) (((((0 + 1) + (dgE 9 d + 1)) + 1) + 1) + 1) [119]) ((((((0 + 1) + (dgE 9 d + 1)) + 1) + 1) + 1) + 1) (dig a))] rfl dX9_line_228 (fun H locs w => ?_)
          refine lv_aload_n hx hb dX9_line_231 rfl (lv_at hl 2 rfl) ?_
          refine r_get (v' := .int (nI (((((((0 + 1) + (dgE 9 d + 1)) + 1) + 1) + 1) + 1) + (dgE 9 a + 1)))) hx hb hts in_X9_line_X9 hown w 0 0 rfl rfl (ci := 13) rfl 15 (by decide) (hts _ (List.mem_of_getElem? (i := 3) rfl)) rfl rfl rfl dX9_line_232 ?_
          exact e_i hx hb hr hlocks (w.cast (by rw [lnF, lnG, if_pos c15, if_pos c15, cN_nI (by omega), hL, lnT, if_neg (by omega), if_pos c142, putL_app (g := g) (k := 0) (m := (0 + 1)) (L1 := [100]) (L2 := (dig d)) (by simp only [List.length_append, List.length_cons, List.length_nil, dig_len]; try omega), putL_app (g := g) (k := 0) (m := ((0 + 1) + (dgE 9 d + 1))) (L1 := ([100] ++ (dig d))) (L2 := [32]) (by simp only [List.length_append, List.length_cons, List.length_nil, dig_len]; try omega), putL_app (g := g) (k := 0) (m := (((0 + 1) + (dgE 9 d + 1)) + 1)) (L1 := (([100] ++ (dig d)) ++ [32])) (L2 := [108]) (by simp only [List.length_append, List.length_cons, List.length_nil, dig_len]; try omega), putL_app (g := g) (k := 0) (m := ((((0 + 1) + (dgE 9 d + 1)) + 1) + 1)) (L1 := ((([100] ++ (dig d)) ++ [32]) ++ [108])) (L2 := [97]) (by simp only [List.length_append, List.length_cons, List.length_nil, dig_len]; try omega), putL_app (g := g) (k := 0) (m := (((((0 + 1) + (dgE 9 d + 1)) + 1) + 1) + 1)) (L1 := (((([100] ++ (dig d)) ++ [32]) ++ [108]) ++ [97])) (L2 := [119]) (by simp only [List.length_append, List.length_cons, List.length_nil, dig_len]; try omega), putL_app (g := g) (k := 0) (m := ((((((0 + 1) + (dgE 9 d + 1)) + 1) + 1) + 1) + 1)) (L1 := ((((([100] ++ (dig d)) ++ [32]) ++ [108]) ++ [97]) ++ [119])) (L2 := (dig a)) (by simp only [List.length_append, List.length_cons, List.length_nil, dig_len]; try omega)]; congr 1; exact congrArg (fun x => moB r (upd (upd F 7 0) 15 (nI x))) (by simp only [List.length_append, List.length_cons, List.length_nil, dig_len]; try omega))) (by rw [lnV, if_pos c15, cN_nI (by omega), hL, lnT, if_neg (by omega), if_pos c142]; exact congrArg nI (by simp only [List.length_append, List.length_cons, List.length_nil, dig_len]; try omega)) dX9_line_235 (Nat.le_refl _) (Nat.le_refl _)
      · have c75 := mt (nI_leI (a := 2) (b := kd) (by omega) (by omega)).mpr c75
        have c75 : kd < 2 := by omega
        refine lv_aload_n hx hb dX9_line_78 rfl (lv_at hl 2 rfl) ?_
        refine lv_aload_n hx hb dX9_line_79 rfl (lv_at hl 2 rfl) ?_
        refine lv_iload_n hx hb dX9_line_80 rfl (lv_at hl 0 rfl) ?_
        refine lv_bipush (v := 104) hx hb dX9_line_81 (by decide) ?_
        refine k_iV (As := [.int (nI (((0 + 1) + (dgE 9 d + 1)) + 1)), .int 104]) (rest := [.ref (r 0)]) (Rs := [arB ty (r 1) 215 (sqA 215 S)]) (Bs' := [moB r (upd F 7 0), arB ty (r 1) 215 (sqA 215 S), arB ty (r 7) 60 (putL (putL (putL (putL g 0 [100]) (0 + 1) (dig d)) ((0 + 1) + (dgE 9 d + 1)) [32]) (((0 + 1) + (dgE 9 d + 1)) + 1) [104])]) ⟨hx, hb, hml, hown, hts⟩ w (c_X9_put l D ty r (upd F 7 0) (putL (putL (putL g 0 [100]) (0 + 1) (dig d)) ((0 + 1) + (dgE 9 d + 1)) [32]) (((0 + 1) + (dgE 9 d + 1)) + 1) (by omega) 104) (cwV 2 hts gX9_line_X9_put rfl rfl rfl ⟨rfl, hdN_X9_put⟩ ⟨Nat.le_of_ble_eq_true rfl, Nat.le_of_ble_eq_true rfl⟩) [0, 2, 1] (nB := 3) (by decide) rfl rfl rfl rfl 0 rfl rfl (ci := 13) rfl rfl rfl hl.1 rfl (Nat.le_of_ble_eq_true rfl) dX9_line_83 ⟨(Nat.zero_le _), (Nat.zero_le _)⟩ (fun H locs w => ?_)
        refine lv_aload_n hx hb dX9_line_86 rfl (lv_at hl 2 rfl) ?_
        refine r_get (v' := .ref (r 1)) hx hb hts in_X9_line_X9 hown w 0 0 rfl rfl (ci := 13) rfl 0 (by decide) (hts _ (List.mem_of_getElem? (i := 1) rfl)) rfl rfl rfl dX9_line_87 ?_
        refine lv_iload_n hx hb dX9_line_90 rfl (lv_at hl 1 rfl) ?_
        refine lv_iconst (v := 2) hx hb dX9_line_91 (by decide) ?_
        refine lv_iadd hx hb dX9_line_92 ?_
        refine r_eq (y := (nI ((123 + (4 * j)) + 2))) (nI_add (123 + (4 * j)) 2) ?_
        refine r_iald (v := (S ((123 + (4 * j)) + 2))) hx hb w 1 0 rfl rfl 0 rfl ((123 + (4 * j)) + 2) (by omega) (Nat.le_of_ble_eq_true rfl) rfl (sqA_at (by omega)) dX9_line_93 ?_
        refine r_eq (y := (nI a)) e2 ?_
        refine k_iV (As := [.int (nI ((((0 + 1) + (dgE 9 d + 1)) + 1) + 1)), .int (nI a)]) (rest := []) (Rs := [arB ty (r 1) 215 (sqA 215 S)]) (Bs' := [moB r (upd F 7 0), arB ty (r 1) 215 (sqA 215 S), arB ty (r 7) 60 (putL (putL (putL (putL (putL g 0 [100]) (0 + 1) (dig d)) ((0 + 1) + (dgE 9 d + 1)) [32]) (((0 + 1) + (dgE 9 d + 1)) + 1) [104]) ((((0 + 1) + (dgE 9 d + 1)) + 1) + 1) (dig a))]) ⟨hx, hb, hml, hown, hts⟩ w (c_X9_writes l D ty r (upd F 7 0) (putL (putL (putL (putL g 0 [100]) (0 + 1) (dig d)) ((0 + 1) + (dgE 9 d + 1)) [32]) (((0 + 1) + (dgE 9 d + 1)) + 1) [104]) ((((0 + 1) + (dgE 9 d + 1)) + 1) + 1) (by omega) a (by omega)) (cwV 2 hts gX9_line_X9_writes rfl rfl rfl ⟨rfl, hdN_X9_writes⟩ ⟨Nat.le_of_ble_eq_true rfl, Nat.le_of_ble_eq_true rfl⟩) [0, 2, 1] (nB := 3) (by decide) rfl rfl rfl rfl 0 rfl rfl (ci := 13) rfl rfl rfl hl.1 rfl (Nat.le_of_ble_eq_true rfl) dX9_line_94 ⟨(Nat.zero_le _), (Nat.zero_le _)⟩ (fun H locs w => ?_)
        refine lv_istore_n (lv' := [(3, .int (nI (((((0 + 1) + (dgE 9 d + 1)) + 1) + 1) + (dgE 9 a + 1)))), (2, .int (nI (123 + (4 * j)))), (0, .ref (r 0)), (1, .int (nI j))]) hx hb dX9_line_97 rfl hl (by decide) rfl (fun ls hl => ?_)
        refine lv_aload_n hx hb dX9_line_98 rfl (lv_at hl 2 rfl) ?_
        refine lv_aload_n hx hb dX9_line_99 rfl (lv_at hl 2 rfl) ?_
        refine lv_iload_n hx hb dX9_line_100 rfl (lv_at hl 0 rfl) ?_
        refine lv_aload_n hx hb dX9_line_101 rfl (lv_at hl 2 rfl) ?_
        refine r_get (v' := .ref (r 1)) hx hb hts in_X9_line_X9 hown w 0 0 rfl rfl (ci := 13) rfl 0 (by decide) (hts _ (List.mem_of_getElem? (i := 1) rfl)) rfl rfl rfl dX9_line_102 ?_
        refine lv_iload_n hx hb dX9_line_105 rfl (lv_at hl 1 rfl) ?_
        refine r_iald (v := (S (123 + (4 * j)))) hx hb w 1 0 rfl rfl 0 rfl (123 + (4 * j)) (by omega) (Nat.le_of_ble_eq_true rfl) rfl (sqA_at (by omega)) dX9_line_106 ?_
        refine r_eq (y := (nI kd)) e0 ?_
        refine lv_if_ne (tgt := 115) hx hb dX9_line_107 (by decide) (fun c107 => ?_) (fun c107 => ?_)
        · have c107 : ¬ kd = 0 := fun q => c107 (by rw [q]; rfl)
          refine lv_bipush (v := 120) hx hb dX9_line_115 (by decide) ?_
          refine k_iV (As := [.int (nI (((((0 + 1) + (dgE 9 d + 1)) + 1) + 1) + (dgE 9 a + 1))), .int 120]) (rest := [.ref (r 0)]) (Rs := [arB ty (r 1) 215 (sqA 215 S)]) (Bs' := [moB r (upd F 7 0), arB ty (r 1) 215 (sqA 215 S), arB ty (r 7) 60 (putL (putL (putL (putL (putL (putL g 0 [100]) (0 + 1) (dig d)) ((0 + 1) + (dgE 9 d + 1)) [32]) (((0 + 1) + (dgE 9 d + 1)) + 1) [104]) ((((0 + 1) + (dgE 9 d + 1)) + 1) + 1) (dig a)) (((((0 + 1) + (dgE 9 d + 1)) + 1) + 1) + (dgE 9 a + 1)) [120])]) ⟨hx, hb, hml, hown, hts⟩ w (c_X9_put l D ty r (upd F 7 0) (putL (putL (putL (putL (putL g 0 [100]) (0 + 1) (dig d)) ((0 + 1) + (dgE 9 d + 1)) [32]) (((0 + 1) + (dgE 9 d + 1)) + 1) [104]) ((((0 + 1) + (dgE 9 d + 1)) + 1) + 1) (dig a)) (((((0 + 1) + (dgE 9 d + 1)) + 1) + 1) + (dgE 9 a + 1)) (by omega) 120) (cwV 2 hts gX9_line_X9_put rfl rfl rfl ⟨rfl, hdN_X9_put⟩ ⟨Nat.le_of_ble_eq_true rfl, Nat.le_of_ble_eq_true rfl⟩) [0, 2, 1] (nB := 3) (by decide) rfl rfl rfl rfl 0 rfl rfl (ci := 13) rfl rfl rfl hl.1 rfl (Nat.le_of_ble_eq_true rfl) dX9_line_117 ⟨(Nat.zero_le _), (Nat.zero_le _)⟩ (fun H locs w => ?_)
          refine lv_aload_n hx hb dX9_line_120 rfl (lv_at hl 2 rfl) ?_
          refine r_get (v' := .ref (r 1)) hx hb hts in_X9_line_X9 hown w 0 0 rfl rfl (ci := 13) rfl 0 (by decide) (hts _ (List.mem_of_getElem? (i := 1) rfl)) rfl rfl rfl dX9_line_121 ?_
          refine lv_iload_n hx hb dX9_line_124 rfl (lv_at hl 1 rfl) ?_
          refine lv_iconst (v := 3) hx hb dX9_line_125 (by decide) ?_
          refine lv_iadd hx hb dX9_line_126 ?_
          refine r_eq (y := (nI ((123 + (4 * j)) + 3))) (nI_add (123 + (4 * j)) 3) ?_
          refine r_iald (v := (S ((123 + (4 * j)) + 3))) hx hb w 1 0 rfl rfl 0 rfl ((123 + (4 * j)) + 3) (by omega) (Nat.le_of_ble_eq_true rfl) rfl (sqA_at (by omega)) dX9_line_127 ?_
          refine r_eq (y := (nI b)) e3 ?_
          refine k_iV (As := [.int (nI ((((((0 + 1) + (dgE 9 d + 1)) + 1) + 1) + (dgE 9 a + 1)) + 1)), .int (nI b)]) (rest := []) (Rs := [arB ty (r 1) 215 (sqA 215 S)]) (Bs' := [moB r (upd F 7 0), arB ty (r 1) 215 (sqA 215 S), arB ty (r 7) 60 (putL (putL (putL (putL (putL (putL (putL g 0 [100]) (0 + 1) (dig d)) ((0 + 1) + (dgE 9 d + 1)) [32]) (((0 + 1) + (dgE 9 d + 1)) + 1) [104]) ((((0 + 1) + (dgE 9 d + 1)) + 1) + 1) (dig a)) (((((0 + 1) + (dgE 9 d + 1)) + 1) + 1) + (dgE 9 a + 1)) [120]) ((((((0 + 1) + (dgE 9 d + 1)) + 1) + 1) + (dgE 9 a + 1)) + 1) (dig b))]) ⟨hx, hb, hml, hown, hts⟩ w (c_X9_writes l D ty r (upd F 7 0) (putL (putL (putL (putL (putL (putL g 0 [100]) (0 + 1) (dig d)) ((0 + 1) + (dgE 9 d + 1)) [32]) (((0 + 1) + (dgE 9 d + 1)) + 1) [104]) ((((0 + 1) + (dgE 9 d + 1)) + 1) + 1) (dig a)) (((((0 + 1) + (dgE 9 d + 1)) + 1) + 1) + (dgE 9 a + 1)) [120]) ((((((0 + 1) + (dgE 9 d + 1)) + 1) + 1) + (dgE 9 a + 1)) + 1) (by omega) b (by omega)) (cwV 2 hts gX9_line_X9_writes rfl rfl rfl ⟨rfl, hdN_X9_writes⟩ ⟨Nat.le_of_ble_eq_true rfl, Nat.le_of_ble_eq_true rfl⟩) [0, 2, 1] (nB := 3) (by decide) rfl rfl rfl rfl 0 rfl rfl (ci := 13) rfl rfl rfl hl.1 rfl (Nat.le_of_ble_eq_true rfl) dX9_line_128 ⟨(Nat.zero_le _), (Nat.zero_le _)⟩ (fun H locs w => ?_)
          refine lv_istore_n (lv' := [(3, .int (nI (((((((0 + 1) + (dgE 9 d + 1)) + 1) + 1) + (dgE 9 a + 1)) + 1) + (dgE 9 b + 1)))), (2, .int (nI (123 + (4 * j)))), (0, .ref (r 0)), (1, .int (nI j))]) hx hb dX9_line_131 rfl hl (by decide) rfl (fun ls hl => ?_)
          refine lv_goto (tgt := 226) hx hb dX9_line_132 (by decide) ?_
          refine lv_aload_n hx hb dX9_line_226 rfl (lv_at hl 2 rfl) ?_
          refine lv_iload_n hx hb dX9_line_227 rfl (lv_at hl 0 rfl) ?_
          refine r_put hx hb hts in_X9_line_X9 tyX9 tyX9_ok nmX9 hown w 0 0 rfl rfl (ci := 13) rfl 15 (by decide) (hts _ (List.mem_of_getElem? (i := 3) rfl)) rfl rfl (ty := .int) (by decide +kernel) rfl rfl (Nat.le_of_ble_eq_true rfl) (moB r (upd (upd F 7 0) 15 (nI (((((((0 + 1) + (dgE 9 d + 1)) + 1) + 1) + (dgE 9 a + 1)) + 1) + (dgE 9 b + 1))))) rfl [moB r (upd (upd F 7 0) 15 (nI (((((((0 + 1) + (dgE 9 d + 1)) + 1) + 1) + (dgE 9 a + 1)) + 1) + (dgE 9 b + 1)))), arB ty (r 1) 215 (sqA 215 S), arB ty (r 7) 60 (putL (putL (putL (putL (putL (putL (putL g 0 [100]) (0 + 1) (dig d)) ((0 + 1) + (dgE 9 d + 1)) [32]) (((0 + 1) + (dgE 9 d + 1)) + 1) [104]) ((((0 + 1) + (dgE 9 d + 1)) + 1) + 1) (dig a)) (((((0 + 1) + (dgE 9 d + 1)) + 1) + 1) + (dgE 9 a + 1)) [120]) ((((((0 + 1) + (dgE 9 d + 1)) + 1) + 1) + (dgE 9 a + 1)) + 1) (dig b))] rfl dX9_line_228 (fun H locs w => ?_)
          refine lv_aload_n hx hb dX9_line_231 rfl (lv_at hl 2 rfl) ?_
          refine r_get (v' := .int (nI (((((((0 + 1) + (dgE 9 d + 1)) + 1) + 1) + (dgE 9 a + 1)) + 1) + (dgE 9 b + 1)))) hx hb hts in_X9_line_X9 hown w 0 0 rfl rfl (ci := 13) rfl 15 (by decide) (hts _ (List.mem_of_getElem? (i := 3) rfl)) rfl rfl rfl dX9_line_232 ?_
          exact e_i hx hb hr hlocks (w.cast (by rw [lnF, lnG, if_pos c15, if_pos c15, cN_nI (by omega), hL, lnT, if_pos c75, if_neg c107, putL_app (g := g) (k := 0) (m := (0 + 1)) (L1 := [100]) (L2 := (dig d)) (by simp only [List.length_append, List.length_cons, List.length_nil, dig_len]; try omega), putL_app (g := g) (k := 0) (m := ((0 + 1) + (dgE 9 d + 1))) (L1 := ([100] ++ (dig d))) (L2 := [32]) (by simp only [List.length_append, List.length_cons, List.length_nil, dig_len]; try omega), putL_app (g := g) (k := 0) (m := (((0 + 1) + (dgE 9 d + 1)) + 1)) (L1 := (([100] ++ (dig d)) ++ [32])) (L2 := [104]) (by simp only [List.length_append, List.length_cons, List.length_nil, dig_len]; try omega), putL_app (g := g) (k := 0) (m := ((((0 + 1) + (dgE 9 d + 1)) + 1) + 1)) (L1 := ((([100] ++ (dig d)) ++ [32]) ++ [104])) (L2 := (dig a)) (by simp only [List.length_append, List.length_cons, List.length_nil, dig_len]; try omega), putL_app (g := g) (k := 0) (m := (((((0 + 1) + (dgE 9 d + 1)) + 1) + 1) + (dgE 9 a + 1))) (L1 := (((([100] ++ (dig d)) ++ [32]) ++ [104]) ++ (dig a))) (L2 := [120]) (by simp only [List.length_append, List.length_cons, List.length_nil, dig_len]; try omega), putL_app (g := g) (k := 0) (m := ((((((0 + 1) + (dgE 9 d + 1)) + 1) + 1) + (dgE 9 a + 1)) + 1)) (L1 := ((((([100] ++ (dig d)) ++ [32]) ++ [104]) ++ (dig a)) ++ [120])) (L2 := (dig b)) (by simp only [List.length_append, List.length_cons, List.length_nil, dig_len]; try omega)]; congr 1; exact congrArg (fun x => moB r (upd (upd F 7 0) 15 (nI x))) (by simp only [List.length_append, List.length_cons, List.length_nil, dig_len]; try omega))) (by rw [lnV, if_pos c15, cN_nI (by omega), hL, lnT, if_pos c75, if_neg c107]; exact congrArg nI (by simp only [List.length_append, List.length_cons, List.length_nil, dig_len]; try omega)) dX9_line_235 (Nat.le_refl _) (Nat.le_refl _)
        · have c107 : kd = 0 := by rcases Nat.eq_zero_or_pos kd with q | q; exact q; exact absurd c107 (nI_ne0 q (by omega))
          refine lv_bipush (v := 98) hx hb dX9_line_110 (by decide) ?_
          refine lv_goto (tgt := 117) hx hb dX9_line_112 (by decide) ?_
          refine k_iV (As := [.int (nI (((((0 + 1) + (dgE 9 d + 1)) + 1) + 1) + (dgE 9 a + 1))), .int 98]) (rest := [.ref (r 0)]) (Rs := [arB ty (r 1) 215 (sqA 215 S)]) (Bs' := [moB r (upd F 7 0), arB ty (r 1) 215 (sqA 215 S), arB ty (r 7) 60 (putL (putL (putL (putL (putL (putL g 0 [100]) (0 + 1) (dig d)) ((0 + 1) + (dgE 9 d + 1)) [32]) (((0 + 1) + (dgE 9 d + 1)) + 1) [104]) ((((0 + 1) + (dgE 9 d + 1)) + 1) + 1) (dig a)) (((((0 + 1) + (dgE 9 d + 1)) + 1) + 1) + (dgE 9 a + 1)) [98])]) ⟨hx, hb, hml, hown, hts⟩ w (c_X9_put l D ty r (upd F 7 0) (putL (putL (putL (putL (putL g 0 [100]) (0 + 1) (dig d)) ((0 + 1) + (dgE 9 d + 1)) [32]) (((0 + 1) + (dgE 9 d + 1)) + 1) [104]) ((((0 + 1) + (dgE 9 d + 1)) + 1) + 1) (dig a)) (((((0 + 1) + (dgE 9 d + 1)) + 1) + 1) + (dgE 9 a + 1)) (by omega) 98) (cwV 2 hts gX9_line_X9_put rfl rfl rfl ⟨rfl, hdN_X9_put⟩ ⟨Nat.le_of_ble_eq_true rfl, Nat.le_of_ble_eq_true rfl⟩) [0, 2, 1] (nB := 3) (by decide) rfl rfl rfl rfl 0 rfl rfl (ci := 13) rfl rfl rfl hl.1 rfl (Nat.le_of_ble_eq_true rfl) dX9_line_117 ⟨(Nat.zero_le _), (Nat.zero_le _)⟩ (fun H locs w => ?_)
          refine lv_aload_n hx hb dX9_line_120 rfl (lv_at hl 2 rfl) ?_
          refine r_get (v' := .ref (r 1)) hx hb hts in_X9_line_X9 hown w 0 0 rfl rfl (ci := 13) rfl 0 (by decide) (hts _ (List.mem_of_getElem? (i := 1) rfl)) rfl rfl rfl dX9_line_121 ?_
          refine lv_iload_n hx hb dX9_line_124 rfl (lv_at hl 1 rfl) ?_
          refine lv_iconst (v := 3) hx hb dX9_line_125 (by decide) ?_
          refine lv_iadd hx hb dX9_line_126 ?_
          refine r_eq (y := (nI ((123 + (4 * j)) + 3))) (nI_add (123 + (4 * j)) 3) ?_
          refine r_iald (v := (S ((123 + (4 * j)) + 3))) hx hb w 1 0 rfl rfl 0 rfl ((123 + (4 * j)) + 3) (by omega) (Nat.le_of_ble_eq_true rfl) rfl (sqA_at (by omega)) dX9_line_127 ?_
          refine r_eq (y := (nI b)) e3 ?_
          refine k_iV (As := [.int (nI ((((((0 + 1) + (dgE 9 d + 1)) + 1) + 1) + (dgE 9 a + 1)) + 1)), .int (nI b)]) (rest := []) (Rs := [arB ty (r 1) 215 (sqA 215 S)]) (Bs' := [moB r (upd F 7 0), arB ty (r 1) 215 (sqA 215 S), arB ty (r 7) 60 (putL (putL (putL (putL (putL (putL (putL g 0 [100]) (0 + 1) (dig d)) ((0 + 1) + (dgE 9 d + 1)) [32]) (((0 + 1) + (dgE 9 d + 1)) + 1) [104]) ((((0 + 1) + (dgE 9 d + 1)) + 1) + 1) (dig a)) (((((0 + 1) + (dgE 9 d + 1)) + 1) + 1) + (dgE 9 a + 1)) [98]) ((((((0 + 1) + (dgE 9 d + 1)) + 1) + 1) + (dgE 9 a + 1)) + 1) (dig b))]) ⟨hx, hb, hml, hown, hts⟩ w (c_X9_writes l D ty r (upd F 7 0) (putL (putL (putL (putL (putL (putL g 0 [100]) (0 + 1) (dig d)) ((0 + 1) + (dgE 9 d + 1)) [32]) (((0 + 1) + (dgE 9 d + 1)) + 1) [104]) ((((0 + 1) + (dgE 9 d + 1)) + 1) + 1) (dig a)) (((((0 + 1) + (dgE 9 d + 1)) + 1) + 1) + (dgE 9 a + 1)) [98]) ((((((0 + 1) + (dgE 9 d + 1)) + 1) + 1) + (dgE 9 a + 1)) + 1) (by omega) b (by omega)) (cwV 2 hts gX9_line_X9_writes rfl rfl rfl ⟨rfl, hdN_X9_writes⟩ ⟨Nat.le_of_ble_eq_true rfl, Nat.le_of_ble_eq_true rfl⟩) [0, 2, 1] (nB := 3) (by decide) rfl rfl rfl rfl 0 rfl rfl (ci := 13) rfl rfl rfl hl.1 rfl (Nat.le_of_ble_eq_true rfl) dX9_line_128 ⟨(Nat.zero_le _), (Nat.zero_le _)⟩ (fun H locs w => ?_)
          refine lv_istore_n (lv' := [(3, .int (nI (((((((0 + 1) + (dgE 9 d + 1)) + 1) + 1) + (dgE 9 a + 1)) + 1) + (dgE 9 b + 1)))), (2, .int (nI (123 + (4 * j)))), (0, .ref (r 0)), (1, .int (nI j))]) hx hb dX9_line_131 rfl hl (by decide) rfl (fun ls hl => ?_)
          refine lv_goto (tgt := 226) hx hb dX9_line_132 (by decide) ?_
          refine lv_aload_n hx hb dX9_line_226 rfl (lv_at hl 2 rfl) ?_
          refine lv_iload_n hx hb dX9_line_227 rfl (lv_at hl 0 rfl) ?_
          refine r_put hx hb hts in_X9_line_X9 tyX9 tyX9_ok nmX9 hown w 0 0 rfl rfl (ci := 13) rfl 15 (by decide) (hts _ (List.mem_of_getElem? (i := 3) rfl)) rfl rfl (ty := .int) (by decide +kernel) rfl rfl (Nat.le_of_ble_eq_true rfl) (moB r (upd (upd F 7 0) 15 (nI (((((((0 + 1) + (dgE 9 d + 1)) + 1) + 1) + (dgE 9 a + 1)) + 1) + (dgE 9 b + 1))))) rfl [moB r (upd (upd F 7 0) 15 (nI (((((((0 + 1) + (dgE 9 d + 1)) + 1) + 1) + (dgE 9 a + 1)) + 1) + (dgE 9 b + 1)))), arB ty (r 1) 215 (sqA 215 S), arB ty (r 7) 60 (putL (putL (putL (putL (putL (putL (putL g 0 [100]) (0 + 1) (dig d)) ((0 + 1) + (dgE 9 d + 1)) [32]) (((0 + 1) + (dgE 9 d + 1)) + 1) [104]) ((((0 + 1) + (dgE 9 d + 1)) + 1) + 1) (dig a)) (((((0 + 1) + (dgE 9 d + 1)) + 1) + 1) + (dgE 9 a + 1)) [98]) ((((((0 + 1) + (dgE 9 d + 1)) + 1) + 1) + (dgE 9 a + 1)) + 1) (dig b))] rfl dX9_line_228 (fun H locs w => ?_)
          refine lv_aload_n hx hb dX9_line_231 rfl (lv_at hl 2 rfl) ?_
          refine r_get (v' := .int (nI (((((((0 + 1) + (dgE 9 d + 1)) + 1) + 1) + (dgE 9 a + 1)) + 1) + (dgE 9 b + 1)))) hx hb hts in_X9_line_X9 hown w 0 0 rfl rfl (ci := 13) rfl 15 (by decide) (hts _ (List.mem_of_getElem? (i := 3) rfl)) rfl rfl rfl dX9_line_232 ?_
          exact e_i hx hb hr hlocks (w.cast (by rw [lnF, lnG, if_pos c15, if_pos c15, cN_nI (by omega), hL, lnT, if_pos c75, if_pos c107, putL_app (g := g) (k := 0) (m := (0 + 1)) (L1 := [100]) (L2 := (dig d)) (by simp only [List.length_append, List.length_cons, List.length_nil, dig_len]; try omega), putL_app (g := g) (k := 0) (m := ((0 + 1) + (dgE 9 d + 1))) (L1 := ([100] ++ (dig d))) (L2 := [32]) (by simp only [List.length_append, List.length_cons, List.length_nil, dig_len]; try omega), putL_app (g := g) (k := 0) (m := (((0 + 1) + (dgE 9 d + 1)) + 1)) (L1 := (([100] ++ (dig d)) ++ [32])) (L2 := [104]) (by simp only [List.length_append, List.length_cons, List.length_nil, dig_len]; try omega), putL_app (g := g) (k := 0) (m := ((((0 + 1) + (dgE 9 d + 1)) + 1) + 1)) (L1 := ((([100] ++ (dig d)) ++ [32]) ++ [104])) (L2 := (dig a)) (by simp only [List.length_append, List.length_cons, List.length_nil, dig_len]; try omega), putL_app (g := g) (k := 0) (m := (((((0 + 1) + (dgE 9 d + 1)) + 1) + 1) + (dgE 9 a + 1))) (L1 := (((([100] ++ (dig d)) ++ [32]) ++ [104]) ++ (dig a))) (L2 := [98]) (by simp only [List.length_append, List.length_cons, List.length_nil, dig_len]; try omega), putL_app (g := g) (k := 0) (m := ((((((0 + 1) + (dgE 9 d + 1)) + 1) + 1) + (dgE 9 a + 1)) + 1)) (L1 := ((((([100] ++ (dig d)) ++ [32]) ++ [104]) ++ (dig a)) ++ [98])) (L2 := (dig b)) (by simp only [List.length_append, List.length_cons, List.length_nil, dig_len]; try omega)]; congr 1; exact congrArg (fun x => moB r (upd (upd F 7 0) 15 (nI x))) (by simp only [List.length_append, List.length_cons, List.length_nil, dig_len]; try omega))) (by rw [lnV, if_pos c15, cN_nI (by omega), hL, lnT, if_pos c75, if_pos c107]; exact congrArg nI (by simp only [List.length_append, List.length_cons, List.length_nil, dig_len]; try omega)) dX9_line_235 (Nat.le_refl _) (Nat.le_refl _)
    · exact absurd c30 (by decide)

theorem in_X9_character_X9 : ∀ w ∈ wsX90, w ∈ wsX9_character := by decide +kernel
theorem hdN_X9_character : yX9_character.cls ≠ "java/lang/invoke/MethodHandle" ∧ yX9_character.cls ≠ "java/lang/invoke/VarHandle" ∧ (parseMethodDescriptor yX9_character.desc).map (fun d => d.parameters.length) = some 1 := by decide +kernel
set_option maxRecDepth 100000 in
set_option maxHeartbeats 4000000 in
theorem c_X9_character (l : Launch) (D : va_G) (ty : Nat → ClassId) (r : Nat → Nat) (F g : pS) (k : Nat) (hk : k ≤ 60) (h15 : F 15 = nI k) (hg : ∀ i, i < k → vp_nar .char (g i) = g i) (v : Int32)  : Mi l yX9_character wsX9_character (kR 1 22 0 0) D (kTY ty) [.ref (r 0), .int v] [moB r F, arB ty (r 7) 60 g] [moB r (upd F 7 (t1 (pHas v k))), arB ty (r 7) 60 g] (gT (t1 (pHas v k)) (g (cN v))) 0 0 := by
  refine m_i (cc := cX9_character) (maxL := 2) (ret := (some .char)) (by decide +kernel) rfl (Nat.le_of_ble_eq_true rfl) ?_
  intro p e s m below meth c A ls hx hb hml hr hlocks hown hts w hl
  have hown : s.vm.findClass RX9 = some m.cls := hown
  have hl : lv_has ls 2 [(0, .ref (r 0)), (1, .int v)] := hl
  refine lv_aload_n hx hb dX9_character_0 rfl (lv_at hl 0 rfl) ?_
  refine lv_iload_n hx hb dX9_character_1 rfl (lv_at hl 1 rfl) ?_
  refine lv_iconst (v := 0) hx hb dX9_character_2 (by decide) ?_
  refine lv_aload_n hx hb dX9_character_3 rfl (lv_at hl 0 rfl) ?_
  refine r_get (v' := .int (nI k)) hx hb hts in_X9_character_X9 hown w 0 0 rfl rfl (ci := 13) rfl 15 (by decide) (hts _ (List.mem_of_getElem? (i := 1) rfl)) rfl rfl (congrArg Value.int h15) dX9_character_4 ?_
  refine lv_iconst (v := 1) hx hb dX9_character_7 (by decide) ?_
  refine lv_isub hx hb dX9_character_8 ?_
  refine k_iS (As := [.int v, .int 0, .int ((nI k) - 1)]) (rest := [.ref (r 0)]) (Rs := [moB r F, arB ty (r 7) 60 g]) (Bs' := [moB r F, arB ty (r 7) 60 g]) ⟨hx, hb, hml, hown, hts⟩ w (c_X9_isIn l D ty v 0 ((nI k) - 1)) (va_cwS 3 hts gX9_character_X9_isIn rfl rfl rfl hdN_X9_isIn ⟨Nat.le_of_ble_eq_true rfl, Nat.le_of_ble_eq_true rfl⟩) [0, 1] (nB := 2) (by decide) rfl rfl rfl rfl rfl hl.1 rfl (Nat.le_of_ble_eq_true rfl) dX9_character_9 ⟨(Nat.zero_le _), (Nat.zero_le _)⟩ (fun H locs w => ?_)
  refine lv_if_eq (tgt := 19) hx hb dX9_character_12 (by decide) (fun c12 => ?_) (fun c12 => ?_)
  · have c12 := bI_0.mp c12
    rw [pIn_hasN (by omega)] at c12
    refine lv_iconst (v := 1) hx hb dX9_character_19 (by decide) ?_
    refine r_put hx hb hts in_X9_character_X9 tyX9 tyX9_ok nmX9 hown w 0 0 rfl rfl (ci := 13) rfl 7 (by decide) (hts _ (List.mem_of_getElem? (i := 2) rfl)) rfl rfl (ty := .int) (by decide +kernel) rfl rfl (Nat.le_of_ble_eq_true rfl) (moB r (upd F 7 1)) rfl [moB r (upd F 7 1), arB ty (r 7) 60 g] rfl dX9_character_20 (fun H locs w => ?_)
    refine lv_aload_n hx hb dX9_character_23 rfl (lv_at hl 0 rfl) ?_
    refine r_get (v' := .int 1) hx hb hts in_X9_character_X9 hown w 0 0 rfl rfl (ci := 13) rfl 7 (by decide) (hts _ (List.mem_of_getElem? (i := 2) rfl)) rfl rfl rfl dX9_character_24 ?_
    refine lv_if_ne (tgt := 40) hx hb dX9_character_27 (by decide) (fun c27 => ?_) (fun c27 => ?_)
    · refine lv_iconst (v := 0) hx hb dX9_character_40 (by decide) ?_
      exact e_z (ty := .char) hx hb hr rfl hlocks (w.cast (by rw [t1, if_neg (bt_n c12)])) (by rw [gT, t1, if_neg (bt_n c12)]; rfl) dX9_character_41 (Nat.le_refl _) (Nat.le_refl _)
    · exact absurd c27 (by decide)
  · have c12 := bI_1.mp c12
    rw [pIn_hasN (by omega)] at c12
    obtain ⟨j, gj, rfl⟩ := (pHas_iff (by omega)).mp c12
    refine lv_iconst (v := 0) hx hb dX9_character_15 (by decide) ?_
    refine lv_goto (tgt := 20) hx hb dX9_character_16 (by decide) ?_
    refine r_put hx hb hts in_X9_character_X9 tyX9 tyX9_ok nmX9 hown w 0 0 rfl rfl (ci := 13) rfl 7 (by decide) (hts _ (List.mem_of_getElem? (i := 2) rfl)) rfl rfl (ty := .int) (by decide +kernel) rfl rfl (Nat.le_of_ble_eq_true rfl) (moB r (upd F 7 0)) rfl [moB r (upd F 7 0), arB ty (r 7) 60 g] rfl dX9_character_20 (fun H locs w => ?_)
    refine lv_aload_n hx hb dX9_character_23 rfl (lv_at hl 0 rfl) ?_
    refine r_get (v' := .int 0) hx hb hts in_X9_character_X9 hown w 0 0 rfl rfl (ci := 13) rfl 7 (by decide) (hts _ (List.mem_of_getElem? (i := 2) rfl)) rfl rfl rfl dX9_character_24 ?_
    refine lv_if_ne (tgt := 40) hx hb dX9_character_27 (by decide) (fun c27 => ?_) (fun c27 => ?_)
    · exact absurd c27 (by decide)
    · refine lv_aload_n hx hb dX9_character_30 rfl (lv_at hl 0 rfl) ?_
      refine r_get (v' := .ref (r 7)) hx hb hts in_X9_character_X9 hown w 0 0 rfl rfl (ci := 13) rfl 14 (by decide) (hts _ (List.mem_of_getElem? (i := 3) rfl)) rfl rfl rfl dX9_character_31 ?_
      refine lv_iload_n hx hb dX9_character_34 rfl (lv_at hl 1 rfl) ?_
      refine r_iald (v := (g j)) hx hb w 1 0 rfl rfl 0 rfl j (by omega) (by omega) rfl rfl dX9_character_35 ?_
      refine lv_i2c (v := (g j)) hx hb dX9_character_36 (hg j gj) ?_
      refine lv_goto (tgt := 41) hx hb dX9_character_37 (by decide) ?_
      exact e_z (ty := .char) hx hb hr (by rw [← hg j gj]; exact pk_nc _) hlocks (w.cast (by rw [t1, if_pos c12])) (by rw [gT, t1, if_pos c12, if_pos rfl, cN_nI (by omega)]) dX9_character_41 (Nat.le_refl _) (Nat.le_refl _)

theorem in_X9_account_X9 : ∀ w ∈ wsX90, w ∈ wsX9_account := by decide +kernel
theorem hdN_X9_account : yX9_account.cls ≠ "java/lang/invoke/MethodHandle" ∧ yX9_account.cls ≠ "java/lang/invoke/VarHandle" ∧ (parseMethodDescriptor yX9_account.desc).map (fun d => d.parameters.length) = some 1 := by decide +kernel
set_option maxRecDepth 100000 in
set_option maxHeartbeats 4000000 in
theorem c_X9_account (l : Launch) (D : va_G) (ty : Nat → ClassId) (r : Nat → Nat) (F S : pS) (x : Int32)  : Mi l yX9_account wsX9_account (kR 1 22 0 0) D (kTY ty) [.ref (r 0), .int x] [moB r F, arB ty (r 1) 215 (sqA 215 S)] [moB r (upd F 7 (t1 (pIn x 0 15))), arB ty (r 1) 215 (sqA 215 S)] (acV F S x) 0 0 := by
  refine m_i (cc := cX9_account) (maxL := 2) (ret := (some .int)) (by decide +kernel) rfl (Nat.le_of_ble_eq_true rfl) ?_
  intro p e s m below meth c A ls hx hb hml hr hlocks hown hts w hl
  have hown : s.vm.findClass RX9 = some m.cls := hown
  have hl : lv_has ls 2 [(0, .ref (r 0)), (1, .int x)] := hl
  refine lv_aload_n hx hb dX9_account_0 rfl (lv_at hl 0 rfl) ?_
  refine lv_iload_n hx hb dX9_account_1 rfl (lv_at hl 1 rfl) ?_
  refine lv_iconst (v := 0) hx hb dX9_account_2 (by decide) ?_
  refine lv_bipush (v := 15) hx hb dX9_account_3 (by decide) ?_
  refine k_iS (As := [.int x, .int 0, .int 15]) (rest := [.ref (r 0)]) (Rs := [moB r F, arB ty (r 1) 215 (sqA 215 S)]) (Bs' := [moB r F, arB ty (r 1) 215 (sqA 215 S)]) ⟨hx, hb, hml, hown, hts⟩ w (c_X9_isIn l D ty x 0 15) (va_cwS 3 hts gX9_account_X9_isIn rfl rfl rfl hdN_X9_isIn ⟨Nat.le_of_ble_eq_true rfl, Nat.le_of_ble_eq_true rfl⟩) [0, 1] (nB := 2) (by decide) rfl rfl rfl rfl rfl hl.1 rfl (Nat.le_of_ble_eq_true rfl) dX9_account_5 ⟨(Nat.zero_le _), (Nat.zero_le _)⟩ (fun H locs w => ?_)
  refine lv_if_eq (tgt := 15) hx hb dX9_account_8 (by decide) (fun c8 => ?_) (fun c8 => ?_)
  · have c8 := bI_0.mp c8
    refine lv_iconst (v := 1) hx hb dX9_account_15 (by decide) ?_
    have ht : t1 (pIn x 0 15) = 1 := by simp [t1, c8]
    refine r_put hx hb hts in_X9_account_X9 tyX9 tyX9_ok nmX9 hown w 0 0 rfl rfl (ci := 13) rfl 7 (by decide) (hts _ (List.mem_of_getElem? (i := 1) rfl)) rfl rfl (ty := .int) (by decide +kernel) rfl rfl (Nat.le_of_ble_eq_true rfl) (moB r (upd F 7 1)) rfl [moB r (upd F 7 1), arB ty (r 1) 215 (sqA 215 S)] rfl dX9_account_16 (fun H locs w => ?_)
    refine lv_iload_n hx hb dX9_account_19 rfl (lv_at hl 1 rfl) ?_
    by_cases e20_0 : x = 0
    · have hac : acV F S x = acV F S 0 := by rw [e20_0]
      refine r_eq (y := 0) e20_0 ?_
      refine lv_tableIn (tgt := 100) hx hb dX9_account_20 (by decide) (by decide) rfl (by decide) ?_
      refine lv_aload_n hx hb dX9_account_100 rfl (lv_at hl 0 rfl) ?_
      refine r_get (v' := .ref (r 1)) hx hb hts in_X9_account_X9 hown w 0 0 rfl rfl (ci := 13) rfl 0 (by decide) (hts _ (List.mem_of_getElem? (i := 2) rfl)) rfl rfl rfl dX9_account_101 ?_
      refine lv_sipush (v := 206) hx hb dX9_account_104 (by decide) ?_
      refine r_iald (v := (S 206)) hx hb w 1 0 rfl rfl 0 rfl 206 (by omega) (Nat.le_of_ble_eq_true rfl) rfl (sqA_at (by omega)) dX9_account_107 ?_
      exact e_i hx hb hr hlocks (w.cast (by rw [ht])) (by rw [hac]; try rfl) dX9_account_108 (Nat.le_refl _) (Nat.le_refl _)
    by_cases e20_1 : x = 1
    · have hac : acV F S x = acV F S 1 := by rw [e20_1]
      refine r_eq (y := 1) e20_1 ?_
      refine lv_tableIn (tgt := 109) hx hb dX9_account_20 (by decide) (by decide) rfl (by decide) ?_
      refine lv_aload_n hx hb dX9_account_109 rfl (lv_at hl 0 rfl) ?_
      refine r_get (v' := .ref (r 1)) hx hb hts in_X9_account_X9 hown w 0 0 rfl rfl (ci := 13) rfl 0 (by decide) (hts _ (List.mem_of_getElem? (i := 2) rfl)) rfl rfl rfl dX9_account_110 ?_
      refine lv_iconst (v := 0) hx hb dX9_account_113 (by decide) ?_
      refine r_iald (v := (S 0)) hx hb w 1 0 rfl rfl 0 rfl 0 (by omega) (Nat.le_of_ble_eq_true rfl) rfl (sqA_at (by omega)) dX9_account_114 ?_
      exact e_i hx hb hr hlocks (w.cast (by rw [ht])) (by rw [hac]; try rfl) dX9_account_115 (Nat.le_refl _) (Nat.le_refl _)
    by_cases e20_2 : x = 2
    · have hac : acV F S x = acV F S 2 := by rw [e20_2]
      refine r_eq (y := 2) e20_2 ?_
      refine lv_tableIn (tgt := 116) hx hb dX9_account_20 (by decide) (by decide) rfl (by decide) ?_
      refine lv_aload_n hx hb dX9_account_116 rfl (lv_at hl 0 rfl) ?_
      refine r_get (v' := .ref (r 1)) hx hb hts in_X9_account_X9 hown w 0 0 rfl rfl (ci := 13) rfl 0 (by decide) (hts _ (List.mem_of_getElem? (i := 2) rfl)) rfl rfl rfl dX9_account_117 ?_
      refine lv_bipush (v := 49) hx hb dX9_account_120 (by decide) ?_
      refine r_iald (v := (S 49)) hx hb w 1 0 rfl rfl 0 rfl 49 (by omega) (Nat.le_of_ble_eq_true rfl) rfl (sqA_at (by omega)) dX9_account_122 ?_
      exact e_i hx hb hr hlocks (w.cast (by rw [ht])) (by rw [hac]; try rfl) dX9_account_123 (Nat.le_refl _) (Nat.le_refl _)
    by_cases e20_3 : x = 3
    · have hac : acV F S x = acV F S 3 := by rw [e20_3]
      refine r_eq (y := 3) e20_3 ?_
      refine lv_tableIn (tgt := 124) hx hb dX9_account_20 (by decide) (by decide) rfl (by decide) ?_
      refine lv_aload_n hx hb dX9_account_124 rfl (lv_at hl 0 rfl) ?_
      refine r_get (v' := .ref (r 1)) hx hb hts in_X9_account_X9 hown w 0 0 rfl rfl (ci := 13) rfl 0 (by decide) (hts _ (List.mem_of_getElem? (i := 2) rfl)) rfl rfl rfl dX9_account_125 ?_
      refine lv_sipush (v := 204) hx hb dX9_account_128 (by decide) ?_
      refine r_iald (v := (S 204)) hx hb w 1 0 rfl rfl 0 rfl 204 (by omega) (Nat.le_of_ble_eq_true rfl) rfl (sqA_at (by omega)) dX9_account_131 ?_
      exact e_i hx hb hr hlocks (w.cast (by rw [ht])) (by rw [hac]; try rfl) dX9_account_132 (Nat.le_refl _) (Nat.le_refl _)
    by_cases e20_4 : x = 4
    · have hac : acV F S x = acV F S 4 := by rw [e20_4]
      refine r_eq (y := 4) e20_4 ?_
      refine lv_tableIn (tgt := 133) hx hb dX9_account_20 (by decide) (by decide) rfl (by decide) ?_
      refine lv_aload_n hx hb dX9_account_133 rfl (lv_at hl 0 rfl) ?_
      refine r_get (v' := .ref (r 1)) hx hb hts in_X9_account_X9 hown w 0 0 rfl rfl (ci := 13) rfl 0 (by decide) (hts _ (List.mem_of_getElem? (i := 2) rfl)) rfl rfl rfl dX9_account_134 ?_
      refine lv_sipush (v := 210) hx hb dX9_account_137 (by decide) ?_
      refine r_iald (v := (S 210)) hx hb w 1 0 rfl rfl 0 rfl 210 (by omega) (Nat.le_of_ble_eq_true rfl) rfl (sqA_at (by omega)) dX9_account_140 ?_
      exact e_i hx hb hr hlocks (w.cast (by rw [ht])) (by rw [hac]; try rfl) dX9_account_141 (Nat.le_refl _) (Nat.le_refl _)
    by_cases e20_5 : x = 5
    · have hac : acV F S x = acV F S 5 := by rw [e20_5]
      refine r_eq (y := 5) e20_5 ?_
      refine lv_tableIn (tgt := 142) hx hb dX9_account_20 (by decide) (by decide) rfl (by decide) ?_
      refine lv_aload_n hx hb dX9_account_142 rfl (lv_at hl 0 rfl) ?_
      refine r_get (v' := .ref (r 1)) hx hb hts in_X9_account_X9 hown w 0 0 rfl rfl (ci := 13) rfl 0 (by decide) (hts _ (List.mem_of_getElem? (i := 2) rfl)) rfl rfl rfl dX9_account_143 ?_
      refine lv_sipush (v := 211) hx hb dX9_account_146 (by decide) ?_
      refine r_iald (v := (S 211)) hx hb w 1 0 rfl rfl 0 rfl 211 (by omega) (Nat.le_of_ble_eq_true rfl) rfl (sqA_at (by omega)) dX9_account_149 ?_
      exact e_i hx hb hr hlocks (w.cast (by rw [ht])) (by rw [hac]; try rfl) dX9_account_150 (Nat.le_refl _) (Nat.le_refl _)
    by_cases e20_6 : x = 6
    · have hac : acV F S x = acV F S 6 := by rw [e20_6]
      refine r_eq (y := 6) e20_6 ?_
      refine lv_tableIn (tgt := 151) hx hb dX9_account_20 (by decide) (by decide) rfl (by decide) ?_
      refine lv_aload_n hx hb dX9_account_151 rfl (lv_at hl 0 rfl) ?_
      refine r_get (v' := .ref (r 1)) hx hb hts in_X9_account_X9 hown w 0 0 rfl rfl (ci := 13) rfl 0 (by decide) (hts _ (List.mem_of_getElem? (i := 2) rfl)) rfl rfl rfl dX9_account_152 ?_
      refine lv_sipush (v := 212) hx hb dX9_account_155 (by decide) ?_
      refine r_iald (v := (S 212)) hx hb w 1 0 rfl rfl 0 rfl 212 (by omega) (Nat.le_of_ble_eq_true rfl) rfl (sqA_at (by omega)) dX9_account_158 ?_
      exact e_i hx hb hr hlocks (w.cast (by rw [ht])) (by rw [hac]; try rfl) dX9_account_159 (Nat.le_refl _) (Nat.le_refl _)
    by_cases e20_7 : x = 7
    · have hac : acV F S x = acV F S 7 := by rw [e20_7]
      refine r_eq (y := 7) e20_7 ?_
      refine lv_tableIn (tgt := 160) hx hb dX9_account_20 (by decide) (by decide) rfl (by decide) ?_
      refine lv_aload_n hx hb dX9_account_160 rfl (lv_at hl 0 rfl) ?_
      refine r_get (v' := .ref (r 1)) hx hb hts in_X9_account_X9 hown w 0 0 rfl rfl (ci := 13) rfl 0 (by decide) (hts _ (List.mem_of_getElem? (i := 2) rfl)) rfl rfl rfl dX9_account_161 ?_
      refine lv_sipush (v := 213) hx hb dX9_account_164 (by decide) ?_
      refine r_iald (v := (S 213)) hx hb w 1 0 rfl rfl 0 rfl 213 (by omega) (Nat.le_of_ble_eq_true rfl) rfl (sqA_at (by omega)) dX9_account_167 ?_
      exact e_i hx hb hr hlocks (w.cast (by rw [ht])) (by rw [hac]; try rfl) dX9_account_168 (Nat.le_refl _) (Nat.le_refl _)
    by_cases e20_8 : x = 8
    · have hac : acV F S x = acV F S 8 := by rw [e20_8]
      refine r_eq (y := 8) e20_8 ?_
      refine lv_tableIn (tgt := 169) hx hb dX9_account_20 (by decide) (by decide) rfl (by decide) ?_
      refine lv_aload_n hx hb dX9_account_169 rfl (lv_at hl 0 rfl) ?_
      refine r_get (v' := .ref (r 1)) hx hb hts in_X9_account_X9 hown w 0 0 rfl rfl (ci := 13) rfl 0 (by decide) (hts _ (List.mem_of_getElem? (i := 2) rfl)) rfl rfl rfl dX9_account_170 ?_
      refine lv_sipush (v := 205) hx hb dX9_account_173 (by decide) ?_
      refine r_iald (v := (S 205)) hx hb w 1 0 rfl rfl 0 rfl 205 (by omega) (Nat.le_of_ble_eq_true rfl) rfl (sqA_at (by omega)) dX9_account_176 ?_
      exact e_i hx hb hr hlocks (w.cast (by rw [ht])) (by rw [hac]; try rfl) dX9_account_177 (Nat.le_refl _) (Nat.le_refl _)
    by_cases e20_9 : x = 9
    · have hac : acV F S x = acV F S 9 := by rw [e20_9]
      refine r_eq (y := 9) e20_9 ?_
      refine lv_tableIn (tgt := 178) hx hb dX9_account_20 (by decide) (by decide) rfl (by decide) ?_
      refine lv_aload_n hx hb dX9_account_178 rfl (lv_at hl 0 rfl) ?_
      refine r_get (v' := .ref (r 1)) hx hb hts in_X9_account_X9 hown w 0 0 rfl rfl (ci := 13) rfl 0 (by decide) (hts _ (List.mem_of_getElem? (i := 2) rfl)) rfl rfl rfl dX9_account_179 ?_
      refine lv_sipush (v := 209) hx hb dX9_account_182 (by decide) ?_
      refine r_iald (v := (S 209)) hx hb w 1 0 rfl rfl 0 rfl 209 (by omega) (Nat.le_of_ble_eq_true rfl) rfl (sqA_at (by omega)) dX9_account_185 ?_
      exact e_i hx hb hr hlocks (w.cast (by rw [ht])) (by rw [hac]; try rfl) dX9_account_186 (Nat.le_refl _) (Nat.le_refl _)
    by_cases e20_10 : x = 10
    · have hac : acV F S x = acV F S 10 := by rw [e20_10]
      refine r_eq (y := 10) e20_10 ?_
      refine lv_tableIn (tgt := 187) hx hb dX9_account_20 (by decide) (by decide) rfl (by decide) ?_
      refine lv_aload_n hx hb dX9_account_187 rfl (lv_at hl 0 rfl) ?_
      refine r_get (v' := .ref (r 1)) hx hb hts in_X9_account_X9 hown w 0 0 rfl rfl (ci := 13) rfl 0 (by decide) (hts _ (List.mem_of_getElem? (i := 2) rfl)) rfl rfl rfl dX9_account_188 ?_
      refine lv_sipush (v := 203) hx hb dX9_account_191 (by decide) ?_
      refine r_iald (v := (S 203)) hx hb w 1 0 rfl rfl 0 rfl 203 (by omega) (Nat.le_of_ble_eq_true rfl) rfl (sqA_at (by omega)) dX9_account_194 ?_
      exact e_i hx hb hr hlocks (w.cast (by rw [ht])) (by rw [hac]; try rfl) dX9_account_195 (Nat.le_refl _) (Nat.le_refl _)
    by_cases e20_11 : x = 11
    · have hac : acV F S x = acV F S 11 := by rw [e20_11]
      refine r_eq (y := 11) e20_11 ?_
      refine lv_tableIn (tgt := 196) hx hb dX9_account_20 (by decide) (by decide) rfl (by decide) ?_
      refine lv_aload_n hx hb dX9_account_196 rfl (lv_at hl 0 rfl) ?_
      refine r_get (v' := .ref (r 1)) hx hb hts in_X9_account_X9 hown w 0 0 rfl rfl (ci := 13) rfl 0 (by decide) (hts _ (List.mem_of_getElem? (i := 2) rfl)) rfl rfl rfl dX9_account_197 ?_
      refine lv_sipush (v := 208) hx hb dX9_account_200 (by decide) ?_
      refine r_iald (v := (S 208)) hx hb w 1 0 rfl rfl 0 rfl 208 (by omega) (Nat.le_of_ble_eq_true rfl) rfl (sqA_at (by omega)) dX9_account_203 ?_
      exact e_i hx hb hr hlocks (w.cast (by rw [ht])) (by rw [hac]; try rfl) dX9_account_204 (Nat.le_refl _) (Nat.le_refl _)
    by_cases e20_12 : x = 12
    · have hac : acV F S x = acV F S 12 := by rw [e20_12]
      refine r_eq (y := 12) e20_12 ?_
      refine lv_tableIn (tgt := 205) hx hb dX9_account_20 (by decide) (by decide) rfl (by decide) ?_
      refine lv_aload_n hx hb dX9_account_205 rfl (lv_at hl 0 rfl) ?_
      refine r_get (v' := .ref (r 1)) hx hb hts in_X9_account_X9 hown w 0 0 rfl rfl (ci := 13) rfl 0 (by decide) (hts _ (List.mem_of_getElem? (i := 2) rfl)) rfl rfl rfl dX9_account_206 ?_
      refine lv_sipush (v := 207) hx hb dX9_account_209 (by decide) ?_
      refine r_iald (v := (S 207)) hx hb w 1 0 rfl rfl 0 rfl 207 (by omega) (Nat.le_of_ble_eq_true rfl) rfl (sqA_at (by omega)) dX9_account_212 ?_
      exact e_i hx hb hr hlocks (w.cast (by rw [ht])) (by rw [hac]; try rfl) dX9_account_213 (Nat.le_refl _) (Nat.le_refl _)
    by_cases e20_13 : x = 13
    · have hac : acV F S x = acV F S 13 := by rw [e20_13]
      refine r_eq (y := 13) e20_13 ?_
      refine lv_tableIn (tgt := 214) hx hb dX9_account_20 (by decide) (by decide) rfl (by decide) ?_
      refine lv_aload_n hx hb dX9_account_214 rfl (lv_at hl 0 rfl) ?_
      refine r_get (v' := .ref (r 1)) hx hb hts in_X9_account_X9 hown w 0 0 rfl rfl (ci := 13) rfl 0 (by decide) (hts _ (List.mem_of_getElem? (i := 2) rfl)) rfl rfl rfl dX9_account_215 ?_
      refine lv_bipush (v := 122) hx hb dX9_account_218 (by decide) ?_
      refine r_iald (v := (S 122)) hx hb w 1 0 rfl rfl 0 rfl 122 (by omega) (Nat.le_of_ble_eq_true rfl) rfl (sqA_at (by omega)) dX9_account_220 ?_
      exact e_i hx hb hr hlocks (w.cast (by rw [ht])) (by rw [hac]; try rfl) dX9_account_221 (Nat.le_refl _) (Nat.le_refl _)
    by_cases e20_14 : x = 14
    · have hac : acV F S x = acV F S 14 := by rw [e20_14]
      refine r_eq (y := 14) e20_14 ?_
      refine lv_tableIn (tgt := 222) hx hb dX9_account_20 (by decide) (by decide) rfl (by decide) ?_
      refine lv_aload_n hx hb dX9_account_222 rfl (lv_at hl 0 rfl) ?_
      refine r_get (v' := .int (F 6)) hx hb hts in_X9_account_X9 hown w 0 0 rfl rfl (ci := 13) rfl 6 (by decide) (hts _ (List.mem_of_getElem? (i := 3) rfl)) rfl rfl rfl dX9_account_223 ?_
      exact e_i hx hb hr hlocks (w.cast (by rw [ht])) (by rw [hac]; try rfl) dX9_account_226 (Nat.le_refl _) (Nat.le_refl _)
    by_cases e20_15 : x = 15
    · have hac : acV F S x = acV F S 15 := by rw [e20_15]
      refine r_eq (y := 15) e20_15 ?_
      refine lv_tableIn (tgt := 227) hx hb dX9_account_20 (by decide) (by decide) rfl (by decide) ?_
      refine lv_aload_n hx hb dX9_account_227 rfl (lv_at hl 0 rfl) ?_
      refine r_get (v' := .int (F 12)) hx hb hts in_X9_account_X9 hown w 0 0 rfl rfl (ci := 13) rfl 12 (by decide) (hts _ (List.mem_of_getElem? (i := 4) rfl)) rfl rfl rfl dX9_account_228 ?_
      exact e_i hx hb hr hlocks (w.cast (by rw [ht])) (by rw [hac]; try rfl) dX9_account_231 (Nat.le_refl _) (Nat.le_refl _)
    have hac : acV F S x = 0 := by simp only [acV, e20_0, e20_1, e20_2, e20_3, e20_4, e20_5, e20_6, e20_7, e20_8, e20_9, e20_10, e20_11, e20_12, e20_13, e20_14, e20_15, if_false]
    refine lv_tableOut (tgt := 232) hx hb dX9_account_20 (sw_out 0 15 (fun v h1 h2 e => by
      have h3 : v = 0 ∨ v = 1 ∨ v = 2 ∨ v = 3 ∨ v = 4 ∨ v = 5 ∨ v = 6 ∨ v = 7 ∨ v = 8 ∨ v = 9 ∨ v = 10 ∨ v = 11 ∨ v = 12 ∨ v = 13 ∨ v = 14 ∨ v = 15 := by omega
      rcases h3 with rfl | rfl | rfl | rfl | rfl | rfl | rfl | rfl | rfl | rfl | rfl | rfl | rfl | rfl | rfl | rfl
      · exact e20_0 (Int32.toInt_inj.mp e)
      · exact e20_1 (Int32.toInt_inj.mp e)
      · exact e20_2 (Int32.toInt_inj.mp e)
      · exact e20_3 (Int32.toInt_inj.mp e)
      · exact e20_4 (Int32.toInt_inj.mp e)
      · exact e20_5 (Int32.toInt_inj.mp e)
      · exact e20_6 (Int32.toInt_inj.mp e)
      · exact e20_7 (Int32.toInt_inj.mp e)
      · exact e20_8 (Int32.toInt_inj.mp e)
      · exact e20_9 (Int32.toInt_inj.mp e)
      · exact e20_10 (Int32.toInt_inj.mp e)
      · exact e20_11 (Int32.toInt_inj.mp e)
      · exact e20_12 (Int32.toInt_inj.mp e)
      · exact e20_13 (Int32.toInt_inj.mp e)
      · exact e20_14 (Int32.toInt_inj.mp e)
      · exact e20_15 (Int32.toInt_inj.mp e)
      )) (by decide) ?_
    refine lv_iconst (v := 0) hx hb dX9_account_232 (by decide) ?_
    exact e_i hx hb hr hlocks (w.cast (by rw [ht])) (by rw [hac]; try rfl) dX9_account_233 (Nat.le_refl _) (Nat.le_refl _)
  · have c8 := bI_1.mp c8
    refine lv_iconst (v := 0) hx hb dX9_account_11 (by decide) ?_
    refine lv_goto (tgt := 16) hx hb dX9_account_12 (by decide) ?_
    have ht : t1 (pIn x 0 15) = 0 := by simp [t1, c8]
    refine r_put hx hb hts in_X9_account_X9 tyX9 tyX9_ok nmX9 hown w 0 0 rfl rfl (ci := 13) rfl 7 (by decide) (hts _ (List.mem_of_getElem? (i := 1) rfl)) rfl rfl (ty := .int) (by decide +kernel) rfl rfl (Nat.le_of_ble_eq_true rfl) (moB r (upd F 7 0)) rfl [moB r (upd F 7 0), arB ty (r 1) 215 (sqA 215 S)] rfl dX9_account_16 (fun H locs w => ?_)
    refine lv_iload_n hx hb dX9_account_19 rfl (lv_at hl 1 rfl) ?_
    by_cases e20_0 : x = 0
    · have hac : acV F S x = acV F S 0 := by rw [e20_0]
      refine r_eq (y := 0) e20_0 ?_
      refine lv_tableIn (tgt := 100) hx hb dX9_account_20 (by decide) (by decide) rfl (by decide) ?_
      refine lv_aload_n hx hb dX9_account_100 rfl (lv_at hl 0 rfl) ?_
      refine r_get (v' := .ref (r 1)) hx hb hts in_X9_account_X9 hown w 0 0 rfl rfl (ci := 13) rfl 0 (by decide) (hts _ (List.mem_of_getElem? (i := 2) rfl)) rfl rfl rfl dX9_account_101 ?_
      refine lv_sipush (v := 206) hx hb dX9_account_104 (by decide) ?_
      refine r_iald (v := (S 206)) hx hb w 1 0 rfl rfl 0 rfl 206 (by omega) (Nat.le_of_ble_eq_true rfl) rfl (sqA_at (by omega)) dX9_account_107 ?_
      exact e_i hx hb hr hlocks (w.cast (by rw [ht])) (by rw [hac]; try rfl) dX9_account_108 (Nat.le_refl _) (Nat.le_refl _)
    by_cases e20_1 : x = 1
    · have hac : acV F S x = acV F S 1 := by rw [e20_1]
      refine r_eq (y := 1) e20_1 ?_
      refine lv_tableIn (tgt := 109) hx hb dX9_account_20 (by decide) (by decide) rfl (by decide) ?_
      refine lv_aload_n hx hb dX9_account_109 rfl (lv_at hl 0 rfl) ?_
      refine r_get (v' := .ref (r 1)) hx hb hts in_X9_account_X9 hown w 0 0 rfl rfl (ci := 13) rfl 0 (by decide) (hts _ (List.mem_of_getElem? (i := 2) rfl)) rfl rfl rfl dX9_account_110 ?_
      refine lv_iconst (v := 0) hx hb dX9_account_113 (by decide) ?_
      refine r_iald (v := (S 0)) hx hb w 1 0 rfl rfl 0 rfl 0 (by omega) (Nat.le_of_ble_eq_true rfl) rfl (sqA_at (by omega)) dX9_account_114 ?_
      exact e_i hx hb hr hlocks (w.cast (by rw [ht])) (by rw [hac]; try rfl) dX9_account_115 (Nat.le_refl _) (Nat.le_refl _)
    by_cases e20_2 : x = 2
    · have hac : acV F S x = acV F S 2 := by rw [e20_2]
      refine r_eq (y := 2) e20_2 ?_
      refine lv_tableIn (tgt := 116) hx hb dX9_account_20 (by decide) (by decide) rfl (by decide) ?_
      refine lv_aload_n hx hb dX9_account_116 rfl (lv_at hl 0 rfl) ?_
      refine r_get (v' := .ref (r 1)) hx hb hts in_X9_account_X9 hown w 0 0 rfl rfl (ci := 13) rfl 0 (by decide) (hts _ (List.mem_of_getElem? (i := 2) rfl)) rfl rfl rfl dX9_account_117 ?_
      refine lv_bipush (v := 49) hx hb dX9_account_120 (by decide) ?_
      refine r_iald (v := (S 49)) hx hb w 1 0 rfl rfl 0 rfl 49 (by omega) (Nat.le_of_ble_eq_true rfl) rfl (sqA_at (by omega)) dX9_account_122 ?_
      exact e_i hx hb hr hlocks (w.cast (by rw [ht])) (by rw [hac]; try rfl) dX9_account_123 (Nat.le_refl _) (Nat.le_refl _)
    by_cases e20_3 : x = 3
    · have hac : acV F S x = acV F S 3 := by rw [e20_3]
      refine r_eq (y := 3) e20_3 ?_
      refine lv_tableIn (tgt := 124) hx hb dX9_account_20 (by decide) (by decide) rfl (by decide) ?_
      refine lv_aload_n hx hb dX9_account_124 rfl (lv_at hl 0 rfl) ?_
      refine r_get (v' := .ref (r 1)) hx hb hts in_X9_account_X9 hown w 0 0 rfl rfl (ci := 13) rfl 0 (by decide) (hts _ (List.mem_of_getElem? (i := 2) rfl)) rfl rfl rfl dX9_account_125 ?_
      refine lv_sipush (v := 204) hx hb dX9_account_128 (by decide) ?_
      refine r_iald (v := (S 204)) hx hb w 1 0 rfl rfl 0 rfl 204 (by omega) (Nat.le_of_ble_eq_true rfl) rfl (sqA_at (by omega)) dX9_account_131 ?_
      exact e_i hx hb hr hlocks (w.cast (by rw [ht])) (by rw [hac]; try rfl) dX9_account_132 (Nat.le_refl _) (Nat.le_refl _)
    by_cases e20_4 : x = 4
    · have hac : acV F S x = acV F S 4 := by rw [e20_4]
      refine r_eq (y := 4) e20_4 ?_
      refine lv_tableIn (tgt := 133) hx hb dX9_account_20 (by decide) (by decide) rfl (by decide) ?_
      refine lv_aload_n hx hb dX9_account_133 rfl (lv_at hl 0 rfl) ?_
      refine r_get (v' := .ref (r 1)) hx hb hts in_X9_account_X9 hown w 0 0 rfl rfl (ci := 13) rfl 0 (by decide) (hts _ (List.mem_of_getElem? (i := 2) rfl)) rfl rfl rfl dX9_account_134 ?_
      refine lv_sipush (v := 210) hx hb dX9_account_137 (by decide) ?_
      refine r_iald (v := (S 210)) hx hb w 1 0 rfl rfl 0 rfl 210 (by omega) (Nat.le_of_ble_eq_true rfl) rfl (sqA_at (by omega)) dX9_account_140 ?_
      exact e_i hx hb hr hlocks (w.cast (by rw [ht])) (by rw [hac]; try rfl) dX9_account_141 (Nat.le_refl _) (Nat.le_refl _)
    by_cases e20_5 : x = 5
    · have hac : acV F S x = acV F S 5 := by rw [e20_5]
      refine r_eq (y := 5) e20_5 ?_
      refine lv_tableIn (tgt := 142) hx hb dX9_account_20 (by decide) (by decide) rfl (by decide) ?_
      refine lv_aload_n hx hb dX9_account_142 rfl (lv_at hl 0 rfl) ?_
      refine r_get (v' := .ref (r 1)) hx hb hts in_X9_account_X9 hown w 0 0 rfl rfl (ci := 13) rfl 0 (by decide) (hts _ (List.mem_of_getElem? (i := 2) rfl)) rfl rfl rfl dX9_account_143 ?_
      refine lv_sipush (v := 211) hx hb dX9_account_146 (by decide) ?_
      refine r_iald (v := (S 211)) hx hb w 1 0 rfl rfl 0 rfl 211 (by omega) (Nat.le_of_ble_eq_true rfl) rfl (sqA_at (by omega)) dX9_account_149 ?_
      exact e_i hx hb hr hlocks (w.cast (by rw [ht])) (by rw [hac]; try rfl) dX9_account_150 (Nat.le_refl _) (Nat.le_refl _)
    by_cases e20_6 : x = 6
    · have hac : acV F S x = acV F S 6 := by rw [e20_6]
      refine r_eq (y := 6) e20_6 ?_
      refine lv_tableIn (tgt := 151) hx hb dX9_account_20 (by decide) (by decide) rfl (by decide) ?_
      refine lv_aload_n hx hb dX9_account_151 rfl (lv_at hl 0 rfl) ?_
      refine r_get (v' := .ref (r 1)) hx hb hts in_X9_account_X9 hown w 0 0 rfl rfl (ci := 13) rfl 0 (by decide) (hts _ (List.mem_of_getElem? (i := 2) rfl)) rfl rfl rfl dX9_account_152 ?_
      refine lv_sipush (v := 212) hx hb dX9_account_155 (by decide) ?_
      refine r_iald (v := (S 212)) hx hb w 1 0 rfl rfl 0 rfl 212 (by omega) (Nat.le_of_ble_eq_true rfl) rfl (sqA_at (by omega)) dX9_account_158 ?_
      exact e_i hx hb hr hlocks (w.cast (by rw [ht])) (by rw [hac]; try rfl) dX9_account_159 (Nat.le_refl _) (Nat.le_refl _)
    by_cases e20_7 : x = 7
    · have hac : acV F S x = acV F S 7 := by rw [e20_7]
      refine r_eq (y := 7) e20_7 ?_
      refine lv_tableIn (tgt := 160) hx hb dX9_account_20 (by decide) (by decide) rfl (by decide) ?_
      refine lv_aload_n hx hb dX9_account_160 rfl (lv_at hl 0 rfl) ?_
      refine r_get (v' := .ref (r 1)) hx hb hts in_X9_account_X9 hown w 0 0 rfl rfl (ci := 13) rfl 0 (by decide) (hts _ (List.mem_of_getElem? (i := 2) rfl)) rfl rfl rfl dX9_account_161 ?_
      refine lv_sipush (v := 213) hx hb dX9_account_164 (by decide) ?_
      refine r_iald (v := (S 213)) hx hb w 1 0 rfl rfl 0 rfl 213 (by omega) (Nat.le_of_ble_eq_true rfl) rfl (sqA_at (by omega)) dX9_account_167 ?_
      exact e_i hx hb hr hlocks (w.cast (by rw [ht])) (by rw [hac]; try rfl) dX9_account_168 (Nat.le_refl _) (Nat.le_refl _)
    by_cases e20_8 : x = 8
    · have hac : acV F S x = acV F S 8 := by rw [e20_8]
      refine r_eq (y := 8) e20_8 ?_
      refine lv_tableIn (tgt := 169) hx hb dX9_account_20 (by decide) (by decide) rfl (by decide) ?_
      refine lv_aload_n hx hb dX9_account_169 rfl (lv_at hl 0 rfl) ?_
      refine r_get (v' := .ref (r 1)) hx hb hts in_X9_account_X9 hown w 0 0 rfl rfl (ci := 13) rfl 0 (by decide) (hts _ (List.mem_of_getElem? (i := 2) rfl)) rfl rfl rfl dX9_account_170 ?_
      refine lv_sipush (v := 205) hx hb dX9_account_173 (by decide) ?_
      refine r_iald (v := (S 205)) hx hb w 1 0 rfl rfl 0 rfl 205 (by omega) (Nat.le_of_ble_eq_true rfl) rfl (sqA_at (by omega)) dX9_account_176 ?_
      exact e_i hx hb hr hlocks (w.cast (by rw [ht])) (by rw [hac]; try rfl) dX9_account_177 (Nat.le_refl _) (Nat.le_refl _)
    by_cases e20_9 : x = 9
    · have hac : acV F S x = acV F S 9 := by rw [e20_9]
      refine r_eq (y := 9) e20_9 ?_
      refine lv_tableIn (tgt := 178) hx hb dX9_account_20 (by decide) (by decide) rfl (by decide) ?_
      refine lv_aload_n hx hb dX9_account_178 rfl (lv_at hl 0 rfl) ?_
      refine r_get (v' := .ref (r 1)) hx hb hts in_X9_account_X9 hown w 0 0 rfl rfl (ci := 13) rfl 0 (by decide) (hts _ (List.mem_of_getElem? (i := 2) rfl)) rfl rfl rfl dX9_account_179 ?_
      refine lv_sipush (v := 209) hx hb dX9_account_182 (by decide) ?_
      refine r_iald (v := (S 209)) hx hb w 1 0 rfl rfl 0 rfl 209 (by omega) (Nat.le_of_ble_eq_true rfl) rfl (sqA_at (by omega)) dX9_account_185 ?_
      exact e_i hx hb hr hlocks (w.cast (by rw [ht])) (by rw [hac]; try rfl) dX9_account_186 (Nat.le_refl _) (Nat.le_refl _)
    by_cases e20_10 : x = 10
    · have hac : acV F S x = acV F S 10 := by rw [e20_10]
      refine r_eq (y := 10) e20_10 ?_
      refine lv_tableIn (tgt := 187) hx hb dX9_account_20 (by decide) (by decide) rfl (by decide) ?_
      refine lv_aload_n hx hb dX9_account_187 rfl (lv_at hl 0 rfl) ?_
      refine r_get (v' := .ref (r 1)) hx hb hts in_X9_account_X9 hown w 0 0 rfl rfl (ci := 13) rfl 0 (by decide) (hts _ (List.mem_of_getElem? (i := 2) rfl)) rfl rfl rfl dX9_account_188 ?_
      refine lv_sipush (v := 203) hx hb dX9_account_191 (by decide) ?_
      refine r_iald (v := (S 203)) hx hb w 1 0 rfl rfl 0 rfl 203 (by omega) (Nat.le_of_ble_eq_true rfl) rfl (sqA_at (by omega)) dX9_account_194 ?_
      exact e_i hx hb hr hlocks (w.cast (by rw [ht])) (by rw [hac]; try rfl) dX9_account_195 (Nat.le_refl _) (Nat.le_refl _)
    by_cases e20_11 : x = 11
    · have hac : acV F S x = acV F S 11 := by rw [e20_11]
      refine r_eq (y := 11) e20_11 ?_
      refine lv_tableIn (tgt := 196) hx hb dX9_account_20 (by decide) (by decide) rfl (by decide) ?_
      refine lv_aload_n hx hb dX9_account_196 rfl (lv_at hl 0 rfl) ?_
      refine r_get (v' := .ref (r 1)) hx hb hts in_X9_account_X9 hown w 0 0 rfl rfl (ci := 13) rfl 0 (by decide) (hts _ (List.mem_of_getElem? (i := 2) rfl)) rfl rfl rfl dX9_account_197 ?_
      refine lv_sipush (v := 208) hx hb dX9_account_200 (by decide) ?_
      refine r_iald (v := (S 208)) hx hb w 1 0 rfl rfl 0 rfl 208 (by omega) (Nat.le_of_ble_eq_true rfl) rfl (sqA_at (by omega)) dX9_account_203 ?_
      exact e_i hx hb hr hlocks (w.cast (by rw [ht])) (by rw [hac]; try rfl) dX9_account_204 (Nat.le_refl _) (Nat.le_refl _)
    by_cases e20_12 : x = 12
    · have hac : acV F S x = acV F S 12 := by rw [e20_12]
      refine r_eq (y := 12) e20_12 ?_
      refine lv_tableIn (tgt := 205) hx hb dX9_account_20 (by decide) (by decide) rfl (by decide) ?_
      refine lv_aload_n hx hb dX9_account_205 rfl (lv_at hl 0 rfl) ?_
      refine r_get (v' := .ref (r 1)) hx hb hts in_X9_account_X9 hown w 0 0 rfl rfl (ci := 13) rfl 0 (by decide) (hts _ (List.mem_of_getElem? (i := 2) rfl)) rfl rfl rfl dX9_account_206 ?_
      refine lv_sipush (v := 207) hx hb dX9_account_209 (by decide) ?_
      refine r_iald (v := (S 207)) hx hb w 1 0 rfl rfl 0 rfl 207 (by omega) (Nat.le_of_ble_eq_true rfl) rfl (sqA_at (by omega)) dX9_account_212 ?_
      exact e_i hx hb hr hlocks (w.cast (by rw [ht])) (by rw [hac]; try rfl) dX9_account_213 (Nat.le_refl _) (Nat.le_refl _)
    by_cases e20_13 : x = 13
    · have hac : acV F S x = acV F S 13 := by rw [e20_13]
      refine r_eq (y := 13) e20_13 ?_
      refine lv_tableIn (tgt := 214) hx hb dX9_account_20 (by decide) (by decide) rfl (by decide) ?_
      refine lv_aload_n hx hb dX9_account_214 rfl (lv_at hl 0 rfl) ?_
      refine r_get (v' := .ref (r 1)) hx hb hts in_X9_account_X9 hown w 0 0 rfl rfl (ci := 13) rfl 0 (by decide) (hts _ (List.mem_of_getElem? (i := 2) rfl)) rfl rfl rfl dX9_account_215 ?_
      refine lv_bipush (v := 122) hx hb dX9_account_218 (by decide) ?_
      refine r_iald (v := (S 122)) hx hb w 1 0 rfl rfl 0 rfl 122 (by omega) (Nat.le_of_ble_eq_true rfl) rfl (sqA_at (by omega)) dX9_account_220 ?_
      exact e_i hx hb hr hlocks (w.cast (by rw [ht])) (by rw [hac]; try rfl) dX9_account_221 (Nat.le_refl _) (Nat.le_refl _)
    by_cases e20_14 : x = 14
    · have hac : acV F S x = acV F S 14 := by rw [e20_14]
      refine r_eq (y := 14) e20_14 ?_
      refine lv_tableIn (tgt := 222) hx hb dX9_account_20 (by decide) (by decide) rfl (by decide) ?_
      refine lv_aload_n hx hb dX9_account_222 rfl (lv_at hl 0 rfl) ?_
      refine r_get (v' := .int (F 6)) hx hb hts in_X9_account_X9 hown w 0 0 rfl rfl (ci := 13) rfl 6 (by decide) (hts _ (List.mem_of_getElem? (i := 3) rfl)) rfl rfl rfl dX9_account_223 ?_
      exact e_i hx hb hr hlocks (w.cast (by rw [ht])) (by rw [hac]; try rfl) dX9_account_226 (Nat.le_refl _) (Nat.le_refl _)
    by_cases e20_15 : x = 15
    · have hac : acV F S x = acV F S 15 := by rw [e20_15]
      refine r_eq (y := 15) e20_15 ?_
      refine lv_tableIn (tgt := 227) hx hb dX9_account_20 (by decide) (by decide) rfl (by decide) ?_
      refine lv_aload_n hx hb dX9_account_227 rfl (lv_at hl 0 rfl) ?_
      refine r_get (v' := .int (F 12)) hx hb hts in_X9_account_X9 hown w 0 0 rfl rfl (ci := 13) rfl 12 (by decide) (hts _ (List.mem_of_getElem? (i := 4) rfl)) rfl rfl rfl dX9_account_228 ?_
      exact e_i hx hb hr hlocks (w.cast (by rw [ht])) (by rw [hac]; try rfl) dX9_account_231 (Nat.le_refl _) (Nat.le_refl _)
    have hac : acV F S x = 0 := by simp only [acV, e20_0, e20_1, e20_2, e20_3, e20_4, e20_5, e20_6, e20_7, e20_8, e20_9, e20_10, e20_11, e20_12, e20_13, e20_14, e20_15, if_false]
    refine lv_tableOut (tgt := 232) hx hb dX9_account_20 (sw_out 0 15 (fun v h1 h2 e => by
      have h3 : v = 0 ∨ v = 1 ∨ v = 2 ∨ v = 3 ∨ v = 4 ∨ v = 5 ∨ v = 6 ∨ v = 7 ∨ v = 8 ∨ v = 9 ∨ v = 10 ∨ v = 11 ∨ v = 12 ∨ v = 13 ∨ v = 14 ∨ v = 15 := by omega
      rcases h3 with rfl | rfl | rfl | rfl | rfl | rfl | rfl | rfl | rfl | rfl | rfl | rfl | rfl | rfl | rfl | rfl
      · exact e20_0 (Int32.toInt_inj.mp e)
      · exact e20_1 (Int32.toInt_inj.mp e)
      · exact e20_2 (Int32.toInt_inj.mp e)
      · exact e20_3 (Int32.toInt_inj.mp e)
      · exact e20_4 (Int32.toInt_inj.mp e)
      · exact e20_5 (Int32.toInt_inj.mp e)
      · exact e20_6 (Int32.toInt_inj.mp e)
      · exact e20_7 (Int32.toInt_inj.mp e)
      · exact e20_8 (Int32.toInt_inj.mp e)
      · exact e20_9 (Int32.toInt_inj.mp e)
      · exact e20_10 (Int32.toInt_inj.mp e)
      · exact e20_11 (Int32.toInt_inj.mp e)
      · exact e20_12 (Int32.toInt_inj.mp e)
      · exact e20_13 (Int32.toInt_inj.mp e)
      · exact e20_14 (Int32.toInt_inj.mp e)
      · exact e20_15 (Int32.toInt_inj.mp e)
      )) (by decide) ?_
    refine lv_iconst (v := 0) hx hb dX9_account_232 (by decide) ?_
    exact e_i hx hb hr hlocks (w.cast (by rw [ht])) (by rw [hac]; try rfl) dX9_account_233 (Nat.le_refl _) (Nat.le_refl _)
