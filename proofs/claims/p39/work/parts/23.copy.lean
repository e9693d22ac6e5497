theorem in_X2_copyFrom_X2 : ∀ w ∈ wsX20, w ∈ wsX2_copyFrom := by decide +kernel
theorem hdN_X2_copyFrom : yX2_copyFrom.cls ≠ "java/lang/invoke/MethodHandle" ∧ yX2_copyFrom.cls ≠ "java/lang/invoke/VarHandle" ∧ (parseMethodDescriptor yX2_copyFrom.desc).map (fun d => d.parameters.length) = some 1 := by decide +kernel
set_option maxRecDepth 100000 in
set_option maxHeartbeats 4000000 in
theorem c_X2_copyFrom (l : Launch) (D : va_G) (ty : Nat → ClassId) (a b : Nat → Nat) (S T : pS)  : Mv l yX2_copyFrom wsX2_copyFrom (kR 1 20 0 0) D (kTY ty) [.ref (a 1), .ref (b 1)] [lnB ty a S, lnB ty b T] [lnB ty a T, lnB ty b T] 0 0 := by
  refine m_v (cc := cX2_copyFrom) (maxL := 3) (ret := none) (by decide +kernel) rfl (Nat.le_of_ble_eq_true rfl) ?_
  intro p e s m below meth c A ls hx hb hml hr hlocks hown hts w hl
  have hown : s.vm.findClass RX2 = some m.cls := hown
  have hl : lv_has ls 3 [(0, .ref (a 1)), (1, .ref (b 1))] := hl
  refine lv_aload_n hx hb dX2_copyFrom_0 rfl (lv_at hl 0 rfl) ?_
  refine lv_aload_n hx hb dX2_copyFrom_1 rfl (lv_at hl 1 rfl) ?_
  refine r_get (v' := .int (T 0)) hx hb hts in_X2_copyFrom_X2 hown w 1 0 rfl rfl (ci := 6) rfl 0 (by decide) (hts _ (List.mem_of_getElem? (i := 1) rfl)) rfl rfl rfl dX2_copyFrom_2 ?_
  refine r_put hx hb hts in_X2_copyFrom_X2 tyX2 tyX2_ok nmX2 hown w 0 0 rfl rfl (ci := 6) rfl 0 (by decide) (hts _ (List.mem_of_getElem? (i := 1) rfl)) rfl rfl (ty := .int) (by decide +kernel) rfl rfl (Nat.le_of_ble_eq_true rfl) (lnB ty a (upd S 0 (T 0))) lnB_size [lnB ty a (upd S 0 (T 0)), lnB ty b T] rfl dX2_copyFrom_5 (fun H locs w => ?_)
  refine lv_aload_n hx hb dX2_copyFrom_8 rfl (lv_at hl 0 rfl) ?_
  refine lv_aload_n hx hb dX2_copyFrom_9 rfl (lv_at hl 1 rfl) ?_
  refine r_get (v' := .int (T 213)) hx hb hts in_X2_copyFrom_X2 hown w 1 0 rfl rfl (ci := 6) rfl 1 (by decide) (hts _ (List.mem_of_getElem? (i := 2) rfl)) rfl rfl rfl dX2_copyFrom_10 ?_
  refine r_put hx hb hts in_X2_copyFrom_X2 tyX2 tyX2_ok nmX2 hown w 0 0 rfl rfl (ci := 6) rfl 1 (by decide) (hts _ (List.mem_of_getElem? (i := 2) rfl)) rfl rfl (ty := .int) (by decide +kernel) rfl rfl (Nat.le_of_ble_eq_true rfl) (lnB ty a (upd (upd S 0 (T 0)) 213 (T 213))) lnB_fights [lnB ty a (upd (upd S 0 (T 0)) 213 (T 213)), lnB ty b T] rfl dX2_copyFrom_13 (fun H locs w => ?_)
  refine lv_iconst (v := 0) hx hb dX2_copyFrom_16 (by decide) ?_
  refine lv_istore_n (lv' := [(2, .int 0), (0, .ref (a 1)), (1, .ref (b 1))]) hx hb dX2_copyFrom_17 rfl hl (by decide) rfl (fun ls hl => ?_)
  refine k_loop (fun k H locs ls => kW D (kTY ty) A s.heap s H locs [lnB ty a (cpL S T k), lnB ty b T] ∧ lv_has ls 3 [(0, .ref (a 1)), (1, .ref (b 1)), (2, .int (nI k))]) 8 0 (by omega) ⟨(w.cast (by rw [cpL_0])), lv_sub hl [1, 2, 0] rfl⟩ ?_
  intro k hk0 hk ihk H locs ls hI
  obtain ⟨w, hl⟩ := hI
  refine lv_iload_n hx hb dX2_copyFrom_18 rfl (lv_at hl 2 rfl) ?_
  refine lv_bipush (v := 8) hx hb dX2_copyFrom_19 (by decide) ?_
  refine lv_icmp_ge (tgt := 121) hx hb dX2_copyFrom_21 (by decide) (fun c21 => ?_) (fun c21 => ?_)
  · have c21 := (nI_leI (a := 8) (b := k) (by omega) (by omega)).mp c21
    obtain rfl : 8 = k := by omega
    exact e_v hx hb hr hlocks (w.cast (by rw [cpL_8])) dX2_copyFrom_121 (Nat.le_refl _) (Nat.le_refl _)
  · have c21 := mt (nI_leI (a := 8) (b := k) (by omega) (by omega)).mpr c21
    refine lv_aload_n hx hb dX2_copyFrom_24 rfl (lv_at hl 0 rfl) ?_
    refine r_get (v' := .ref (a 2)) hx hb hts in_X2_copyFrom_X2 hown w 0 0 rfl rfl (ci := 6) rfl 2 (by decide) (hts _ (List.mem_of_getElem? (i := 3) rfl)) rfl rfl rfl dX2_copyFrom_25 ?_
    refine lv_iload_n hx hb dX2_copyFrom_28 rfl (lv_at hl 2 rfl) ?_
    refine lv_aload_n hx hb dX2_copyFrom_29 rfl (lv_at hl 1 rfl) ?_
    refine r_get (v' := .ref (b 2)) hx hb hts in_X2_copyFrom_X2 hown w 1 0 rfl rfl (ci := 6) rfl 2 (by decide) (hts _ (List.mem_of_getElem? (i := 3) rfl)) rfl rfl rfl dX2_copyFrom_30 ?_
    refine lv_iload_n hx hb dX2_copyFrom_33 rfl (lv_at hl 2 rfl) ?_
    refine r_iald (v := (T (1 + 6 * k + 0))) hx hb w 1 1 rfl rfl 0 rfl k (by omega) (Nat.le_of_ble_eq_true rfl) rfl (lnA_at (by omega)) dX2_copyFrom_34 ?_
    refine r_iast hx hb w 0 1 rfl rfl 0 rfl k (by omega) (Nat.le_of_ble_eq_true rfl) rfl (lnB ty a (upd (cpL S T k) (1 + 6 * k + 0) (T (1 + 6 * k + 0)))) (lnB_st0 (by omega)) [lnB ty a (upd (cpL S T k) (1 + 6 * k + 0) (T (1 + 6 * k + 0))), lnB ty b T] rfl dX2_copyFrom_35 (fun H locs w => ?_)
    refine lv_aload_n hx hb dX2_copyFrom_36 rfl (lv_at hl 0 rfl) ?_
    refine r_get (v' := .ref (a 3)) hx hb hts in_X2_copyFrom_X2 hown w 0 0 rfl rfl (ci := 6) rfl 3 (by decide) (hts _ (List.mem_of_getElem? (i := 4) rfl)) rfl rfl rfl dX2_copyFrom_37 ?_
    refine lv_iload_n hx hb dX2_copyFrom_40 rfl (lv_at hl 2 rfl) ?_
    refine lv_aload_n hx hb dX2_copyFrom_41 rfl (lv_at hl 1 rfl) ?_
    refine r_get (v' := .ref (b 3)) hx hb hts in_X2_copyFrom_X2 hown w 1 0 rfl rfl (ci := 6) rfl 3 (by decide) (hts _ (List.mem_of_getElem? (i := 4) rfl)) rfl rfl rfl dX2_copyFrom_42 ?_
    refine lv_iload_n hx hb dX2_copyFrom_45 rfl (lv_at hl 2 rfl) ?_
    refine r_iald (v := (T (1 + 6 * k + 1))) hx hb w 1 2 rfl rfl 0 rfl k (by omega) (Nat.le_of_ble_eq_true rfl) rfl (lnA_at (by omega)) dX2_copyFrom_46 ?_
    refine r_iast hx hb w 0 2 rfl rfl 0 rfl k (by omega) (Nat.le_of_ble_eq_true rfl) rfl (lnB ty a (upd (upd (cpL S T k) (1 + 6 * k + 0) (T (1 + 6 * k + 0))) (1 + 6 * k + 1) (T (1 + 6 * k + 1)))) (lnB_st1 (by omega)) [lnB ty a (upd (upd (cpL S T k) (1 + 6 * k + 0) (T (1 + 6 * k + 0))) (1 + 6 * k + 1) (T (1 + 6 * k + 1))), lnB ty b T] rfl dX2_copyFrom_47 (fun H locs w => ?_)
    refine lv_aload_n hx hb dX2_copyFrom_48 rfl (lv_at hl 0 rfl) ?_
    refine r_get (v' := .ref (a 4)) hx hb hts in_X2_copyFrom_X2 hown w 0 0 rfl rfl (ci := 6) rfl 4 (by decide) (hts _ (List.mem_of_getElem? (i := 5) rfl)) rfl rfl rfl dX2_copyFrom_49 ?_
    refine lv_iload_n hx hb dX2_copyFrom_52 rfl (lv_at hl 2 rfl) ?_
    refine lv_aload_n hx hb dX2_copyFrom_53 rfl (lv_at hl 1 rfl) ?_
    refine r_get (v' := .ref (b 4)) hx hb hts in_X2_copyFrom_X2 hown w 1 0 rfl rfl (ci := 6) rfl 4 (by decide) (hts _ (List.mem_of_getElem? (i := 5) rfl)) rfl rfl rfl dX2_copyFrom_54 ?_
    refine lv_iload_n hx hb dX2_copyFrom_57 rfl (lv_at hl 2 rfl) ?_
    refine r_iald (v := (T (1 + 6 * k + 2))) hx hb w 1 3 rfl rfl 0 rfl k (by omega) (Nat.le_of_ble_eq_true rfl) rfl (lnA_at (by omega)) dX2_copyFrom_58 ?_
    refine r_iast hx hb w 0 3 rfl rfl 0 rfl k (by omega) (Nat.le_of_ble_eq_true rfl) rfl (lnB ty a (upd (upd (upd (cpL S T k) (1 + 6 * k + 0) (T (1 + 6 * k + 0))) (1 + 6 * k + 1) (T (1 + 6 * k + 1))) (1 + 6 * k + 2) (T (1 + 6 * k + 2)))) (lnB_st2 (by omega)) [lnB ty a (upd (upd (upd (cpL S T k) (1 + 6 * k + 0) (T (1 + 6 * k + 0))) (1 + 6 * k + 1) (T (1 + 6 * k + 1))) (1 + 6 * k + 2) (T (1 + 6 * k + 2))), lnB ty b T] rfl dX2_copyFrom_59 (fun H locs w => ?_)
    refine lv_aload_n hx hb dX2_copyFrom_60 rfl (lv_at hl 0 rfl) ?_
    refine r_get (v' := .ref (a 5)) hx hb hts in_X2_copyFrom_X2 hown w 0 0 rfl rfl (ci := 6) rfl 5 (by decide) (hts _ (List.mem_of_getElem? (i := 6) rfl)) rfl rfl rfl dX2_copyFrom_61 ?_
    refine lv_iload_n hx hb dX2_copyFrom_64 rfl (lv_at hl 2 rfl) ?_
    refine lv_aload_n hx hb dX2_copyFrom_65 rfl (lv_at hl 1 rfl) ?_
    refine r_get (v' := .ref (b 5)) hx hb hts in_X2_copyFrom_X2 hown w 1 0 rfl rfl (ci := 6) rfl 5 (by decide) (hts _ (List.mem_of_getElem? (i := 6) rfl)) rfl rfl rfl dX2_copyFrom_66 ?_
    refine lv_iload_n hx hb dX2_copyFrom_69 rfl (lv_at hl 2 rfl) ?_
    refine r_iald (v := (T (1 + 6 * k + 3))) hx hb w 1 4 rfl rfl 0 rfl k (by omega) (Nat.le_of_ble_eq_true rfl) rfl (lnA_at (by omega)) dX2_copyFrom_70 ?_
    refine r_iast hx hb w 0 4 rfl rfl 0 rfl k (by omega) (Nat.le_of_ble_eq_true rfl) rfl (lnB ty a (upd (upd (upd (upd (cpL S T k) (1 + 6 * k + 0) (T (1 + 6 * k + 0))) (1 + 6 * k + 1) (T (1 + 6 * k + 1))) (1 + 6 * k + 2) (T (1 + 6 * k + 2))) (1 + 6 * k + 3) (T (1 + 6 * k + 3)))) (lnB_st3 (by omega)) [lnB ty a (upd (upd (upd (upd (cpL S T k) (1 + 6 * k + 0) (T (1 + 6 * k + 0))) (1 + 6 * k + 1) (T (1 + 6 * k + 1))) (1 + 6 * k + 2) (T (1 + 6 * k + 2))) (1 + 6 * k + 3) (T (1 + 6 * k + 3))), lnB ty b T] rfl dX2_copyFrom_71 (fun H locs w => ?_)
    refine lv_aload_n hx hb dX2_copyFrom_72 rfl (lv_at hl 0 rfl) ?_
    refine r_get (v' := .ref (a 6)) hx hb hts in_X2_copyFrom_X2 hown w 0 0 rfl rfl (ci := 6) rfl 6 (by decide) (hts _ (List.mem_of_getElem? (i := 7) rfl)) rfl rfl rfl dX2_copyFrom_73 ?_
    refine lv_iload_n hx hb dX2_copyFrom_76 rfl (lv_at hl 2 rfl) ?_
    refine lv_aload_n hx hb dX2_copyFrom_77 rfl (lv_at hl 1 rfl) ?_
    refine r_get (v' := .ref (b 6)) hx hb hts in_X2_copyFrom_X2 hown w 1 0 rfl rfl (ci := 6) rfl 6 (by decide) (hts _ (List.mem_of_getElem? (i := 7) rfl)) rfl rfl rfl dX2_copyFrom_78 ?_
    refine lv_iload_n hx hb dX2_copyFrom_81 rfl (lv_at hl 2 rfl) ?_
    refine r_iald (v := (T (1 + 6 * k + 4))) hx hb w 1 5 rfl rfl 0 rfl k (by omega) (Nat.le_of_ble_eq_true rfl) rfl (lnA_at (by omega)) dX2_copyFrom_82 ?_
    refine r_iast hx hb w 0 5 rfl rfl 0 rfl k (by omega) (Nat.le_of_ble_eq_true rfl) rfl (lnB ty a (upd (upd (upd (upd (upd (cpL S T k) (1 + 6 * k + 0) (T (1 + 6 * k + 0))) (1 + 6 * k + 1) (T (1 + 6 * k + 1))) (1 + 6 * k + 2) (T (1 + 6 * k + 2))) (1 + 6 * k + 3) (T (1 + 6 * k + 3))) (1 + 6 * k + 4) (T (1 + 6 * k + 4)))) (lnB_st4 (by omega)) [lnB ty a (upd (upd (upd (upd (upd (cpL S T k) (1 + 6 * k + 0) (T (1 + 6 * k + 0))) (1 + 6 * k + 1) (T (1 + 6 * k + 1))) (1 + 6 * k + 2) (T (1 + 6 * k + 2))) (1 + 6 * k + 3) (T (1 + 6 * k + 3))) (1 + 6 * k + 4) (T (1 + 6 * k + 4))), lnB ty b T] rfl dX2_copyFrom_83 (fun H locs w => ?_)
    refine lv_aload_n hx hb dX2_copyFrom_84 rfl (lv_at hl 0 rfl) ?_
    refine r_get (v' := .ref (a 7)) hx hb hts in_X2_copyFrom_X2 hown w 0 0 rfl rfl (ci := 6) rfl 7 (by decide) (hts _ (List.mem_of_getElem? (i := 8) rfl)) rfl rfl rfl dX2_copyFrom_85 ?_
    refine lv_iload_n hx hb dX2_copyFrom_88 rfl (lv_at hl 2 rfl) ?_
    refine lv_aload_n hx hb dX2_copyFrom_89 rfl (lv_at hl 1 rfl) ?_
    refine r_get (v' := .ref (b 7)) hx hb hts in_X2_copyFrom_X2 hown w 1 0 rfl rfl (ci := 6) rfl 7 (by decide) (hts _ (List.mem_of_getElem? (i := 8) rfl)) rfl rfl rfl dX2_copyFrom_90 ?_
    refine lv_iload_n hx hb dX2_copyFrom_93 rfl (lv_at hl 2 rfl) ?_
    refine r_iald (v := (T (1 + 6 * k + 5))) hx hb w 1 6 rfl rfl 0 rfl k (by omega) (Nat.le_of_ble_eq_true rfl) rfl (lnA_at (by omega)) dX2_copyFrom_94 ?_
    refine r_iast hx hb w 0 6 rfl rfl 0 rfl k (by omega) (Nat.le_of_ble_eq_true rfl) rfl (lnB ty a (upd (upd (upd (upd (upd (upd (cpL S T k) (1 + 6 * k + 0) (T (1 + 6 * k + 0))) (1 + 6 * k + 1) (T (1 + 6 * k + 1))) (1 + 6 * k + 2) (T (1 + 6 * k + 2))) (1 + 6 * k + 3) (T (1 + 6 * k + 3))) (1 + 6 * k + 4) (T (1 + 6 * k + 4))) (1 + 6 * k + 5) (T (1 + 6 * k + 5)))) (lnB_st5 (by omega)) [lnB ty a (upd (upd (upd (upd (upd (upd (cpL S T k) (1 + 6 * k + 0) (T (1 + 6 * k + 0))) (1 + 6 * k + 1) (T (1 + 6 * k + 1))) (1 + 6 * k + 2) (T (1 + 6 * k + 2))) (1 + 6 * k + 3) (T (1 + 6 * k + 3))) (1 + 6 * k + 4) (T (1 + 6 * k + 4))) (1 + 6 * k + 5) (T (1 + 6 * k + 5))), lnB ty b T] rfl dX2_copyFrom_95 (fun H locs w => ?_)
    refine lv_aload_n hx hb dX2_copyFrom_96 rfl (lv_at hl 1 rfl) ?_
    refine r_get (v' := .ref (b 8)) hx hb hts in_X2_copyFrom_X2 hown w 1 0 rfl rfl (ci := 6) rfl 8 (by decide) (hts _ (List.mem_of_getElem? (i := 9) rfl)) rfl rfl rfl dX2_copyFrom_97 ?_
    refine lv_iload_n hx hb dX2_copyFrom_100 rfl (lv_at hl 2 rfl) ?_
    refine r_aald (y := (b (9 + k))) hx hb w 1 7 rfl (ty := .array .int) rfl rfl 3 rfl k (by omega) (Nat.le_of_ble_eq_true rfl) rfl (if_pos (by omega)) dX2_copyFrom_101 ?_
    refine lv_iconst (v := 0) hx hb dX2_copyFrom_102 (by decide) ?_
    refine lv_aload_n hx hb dX2_copyFrom_103 rfl (lv_at hl 0 rfl) ?_
    refine r_get (v' := .ref (a 8)) hx hb hts in_X2_copyFrom_X2 hown w 0 0 rfl rfl (ci := 6) rfl 8 (by decide) (hts _ (List.mem_of_getElem? (i := 9) rfl)) rfl rfl rfl dX2_copyFrom_104 ?_
    refine lv_iload_n hx hb dX2_copyFrom_107 rfl (lv_at hl 2 rfl) ?_
    refine r_aald (y := (a (9 + k))) hx hb w 0 7 rfl (ty := .array .int) rfl rfl 3 rfl k (by omega) (Nat.le_of_ble_eq_true rfl) rfl (if_pos (by omega)) dX2_copyFrom_108 ?_
    refine lv_iconst (v := 0) hx hb dX2_copyFrom_109 (by decide) ?_
    refine lv_bipush (v := 8) hx hb dX2_copyFrom_110 (by decide) ?_
    refine r_copy hx hb (hml.trans hl.1.symm) hown (hts _ (List.mem_of_getElem? (i := 10) rfl)) (hts _ (List.mem_of_getElem? (i := 11) rfl)) (hts _ (List.mem_of_getElem? (i := 12) rfl)) (hts _ (List.mem_of_getElem? (i := 13) rfl)) w 1 (8 + k) 0 (8 + k) rfl (lnB_row (by omega)) rfl (lnB_row (by omega)) 0 0 rfl rfl (n := 8) rfl (Nat.le_of_ble_eq_true rfl) (Nat.le_of_ble_eq_true rfl) (by decide) (lnB ty a (cpL S T (k + 1))) (cpL_s (by omega)) [lnB ty a (cpL S T (k + 1)), lnB ty b T] rfl dX2_copyFrom_112 (fun H locs w => ?_)
    refine lv_iinc (v := (nI (k + 1))) (lv' := [(2, .int (nI (k + 1))), (0, .ref (a 1)), (1, .ref (b 1))]) hx hb dX2_copyFrom_115 hl (k := 2) rfl (inc1 k) (by decide) rfl (fun ls hl => ?_)
    refine lv_goto (tgt := 18) hx hb dX2_copyFrom_118 (by decide) ?_
    exact ihk _ _ _ ⟨w, lv_sub hl [1, 2, 0] rfl⟩ (by omega)

theorem in_X4_copyFrom_X4 : ∀ w ∈ wsX40, w ∈ wsX4_copyFrom := by decide +kernel
theorem hdN_X4_copyFrom : yX4_copyFrom.cls ≠ "java/lang/invoke/MethodHandle" ∧ yX4_copyFrom.cls ≠ "java/lang/invoke/VarHandle" ∧ (parseMethodDescriptor yX4_copyFrom.desc).map (fun d => d.parameters.length) = some 1 := by decide +kernel
set_option maxRecDepth 100000 in
set_option maxHeartbeats 4000000 in
theorem c_X4_copyFrom (l : Launch) (D : va_G) (ty : Nat → ClassId) (a b : Nat → Nat) (S T : pS)  : Mv l yX4_copyFrom wsX4_copyFrom (kR 1 20 0 0) D (kTY ty) [.ref (a 17), .ref (b 17)] [quB ty a S, quB ty b T] [quB ty a T, quB ty b T] 0 0 := by
  refine m_v (cc := cX4_copyFrom) (maxL := 2) (ret := none) (by decide +kernel) rfl (Nat.le_of_ble_eq_true rfl) ?_
  intro p e s m below meth c A ls hx hb hml hr hlocks hown hts w hl
  have hown : s.vm.findClass RX4 = some m.cls := hown
  have hl : lv_has ls 2 [(0, .ref (a 17)), (1, .ref (b 17))] := hl
  refine lv_aload_n hx hb dX4_copyFrom_0 rfl (lv_at hl 0 rfl) ?_
  refine lv_aload_n hx hb dX4_copyFrom_1 rfl (lv_at hl 1 rfl) ?_
  refine r_get (v' := .int (T 49)) hx hb hts in_X4_copyFrom_X4 hown w 1 0 rfl rfl (ci := 8) rfl 0 (by decide) (hts _ (List.mem_of_getElem? (i := 1) rfl)) rfl rfl rfl dX4_copyFrom_2 ?_
  refine r_put hx hb hts in_X4_copyFrom_X4 tyX4 tyX4_ok nmX4 hown w 0 0 rfl rfl (ci := 8) rfl 0 (by decide) (hts _ (List.mem_of_getElem? (i := 1) rfl)) rfl rfl (ty := .int) (by decide +kernel) rfl rfl (Nat.le_of_ble_eq_true rfl) (quB ty a (upd S 49 (T 49))) quB_len [quB ty a (upd S 49 (T 49)), quB ty b T] rfl dX4_copyFrom_5 (fun H locs w => ?_)
  refine lv_aload_n hx hb dX4_copyFrom_8 rfl (lv_at hl 1 rfl) ?_
  refine r_get (v' := .ref (b 18)) hx hb hts in_X4_copyFrom_X4 hown w 1 0 rfl rfl (ci := 8) rfl 1 (by decide) (hts _ (List.mem_of_getElem? (i := 2) rfl)) rfl rfl rfl dX4_copyFrom_9 ?_
  refine lv_iconst (v := 0) hx hb dX4_copyFrom_12 (by decide) ?_
  refine lv_aload_n hx hb dX4_copyFrom_13 rfl (lv_at hl 0 rfl) ?_
  refine r_get (v' := .ref (a 18)) hx hb hts in_X4_copyFrom_X4 hown w 0 0 rfl rfl (ci := 8) rfl 1 (by decide) (hts _ (List.mem_of_getElem? (i := 2) rfl)) rfl rfl rfl dX4_copyFrom_14 ?_
  refine lv_iconst (v := 0) hx hb dX4_copyFrom_17 (by decide) ?_
  refine lv_bipush (v := 8) hx hb dX4_copyFrom_18 (by decide) ?_
  refine r_copy hx hb (hml.trans hl.1.symm) hown (hts _ (List.mem_of_getElem? (i := 3) rfl)) (hts _ (List.mem_of_getElem? (i := 4) rfl)) (hts _ (List.mem_of_getElem? (i := 5) rfl)) (hts _ (List.mem_of_getElem? (i := 6) rfl)) w 1 1 0 1 rfl rfl rfl rfl 0 0 rfl rfl (n := 8) rfl (Nat.le_of_ble_eq_true rfl) (Nat.le_of_ble_eq_true rfl) (by decide) (quB ty a T) quB_cp [quB ty a T, quB ty b T] rfl dX4_copyFrom_20 (fun H locs w => ?_)
  exact e_v hx hb hr hlocks w dX4_copyFrom_23 (Nat.le_refl _) (Nat.le_refl _)

theorem in_X7_copyFrom_X7 : ∀ w ∈ wsX70, w ∈ wsX7_copyFrom := by decide +kernel
theorem hdN_X7_copyFrom : yX7_copyFrom.cls ≠ "java/lang/invoke/MethodHandle" ∧ yX7_copyFrom.cls ≠ "java/lang/invoke/VarHandle" ∧ (parseMethodDescriptor yX7_copyFrom.desc).map (fun d => d.parameters.length) = some 1 := by decide +kernel
set_option maxRecDepth 100000 in
set_option maxHeartbeats 4000000 in
theorem c_X7_copyFrom (l : Launch) (D : va_G) (ty : Nat → ClassId) (a b : Nat → Nat) (S T : pS) (hdr : T 207 = 0 ∨ T 207 = 1)  : Mv l yX7_copyFrom wsX7_copyFrom (kR 0 0 0 0) D (kTY ty) [.ref (a 19), .ref (b 19)] [weB a S, weB b T] [weB a T, weB b T] 0 0 := by
  refine m_v (cc := cX7_copyFrom) (maxL := 2) (ret := none) (by decide +kernel) rfl (Nat.le_of_ble_eq_true rfl) ?_
  intro p e s m below meth c A ls hx hb hml hr hlocks hown hts w hl
  have hown : s.vm.findClass RX7 = some m.cls := hown
  have hl : lv_has ls 2 [(0, .ref (a 19)), (1, .ref (b 19))] := hl
  refine lv_aload_n hx hb dX7_copyFrom_0 rfl (lv_at hl 0 rfl) ?_
  refine lv_aload_n hx hb dX7_copyFrom_1 rfl (lv_at hl 1 rfl) ?_
  refine r_get (v' := .int (T 204)) hx hb hts in_X7_copyFrom_X7 hown w 1 0 rfl rfl (ci := 11) rfl 0 (by decide) (hts _ (List.mem_of_getElem? (i := 1) rfl)) rfl rfl rfl dX7_copyFrom_2 ?_
  refine r_put hx hb hts in_X7_copyFrom_X7 tyX7 tyX7_ok nmX7 hown w 0 0 rfl rfl (ci := 11) rfl 0 (by decide) (hts _ (List.mem_of_getElem? (i := 1) rfl)) rfl rfl (ty := .int) (by decide +kernel) rfl rfl (Nat.le_of_ble_eq_true rfl) (weB a (upd S 204 (T 204))) rfl [weB a (upd S 204 (T 204)), weB b T] rfl dX7_copyFrom_5 (fun H locs w => ?_)
  refine lv_aload_n hx hb dX7_copyFrom_8 rfl (lv_at hl 0 rfl) ?_
  refine lv_aload_n hx hb dX7_copyFrom_9 rfl (lv_at hl 1 rfl) ?_
  refine r_get (v' := .int (T 210)) hx hb hts in_X7_copyFrom_X7 hown w 1 0 rfl rfl (ci := 11) rfl 1 (by decide) (hts _ (List.mem_of_getElem? (i := 2) rfl)) rfl rfl rfl dX7_copyFrom_10 ?_
  refine r_put hx hb hts in_X7_copyFrom_X7 tyX7 tyX7_ok nmX7 hown w 0 0 rfl rfl (ci := 11) rfl 1 (by decide) (hts _ (List.mem_of_getElem? (i := 2) rfl)) rfl rfl (ty := .int) (by decide +kernel) rfl rfl (Nat.le_of_ble_eq_true rfl) (weB a (upd (upd S 204 (T 204)) 210 (T 210))) rfl [weB a (upd (upd S 204 (T 204)) 210 (T 210)), weB b T] rfl dX7_copyFrom_13 (fun H locs w => ?_)
  refine lv_aload_n hx hb dX7_copyFrom_16 rfl (lv_at hl 0 rfl) ?_
  refine lv_aload_n hx hb dX7_copyFrom_17 rfl (lv_at hl 1 rfl) ?_
  refine r_get (v' := .int (T 211)) hx hb hts in_X7_copyFrom_X7 hown w 1 0 rfl rfl (ci := 11) rfl 2 (by decide) (hts _ (List.mem_of_getElem? (i := 3) rfl)) rfl rfl rfl dX7_copyFrom_18 ?_
  refine r_put hx hb hts in_X7_copyFrom_X7 tyX7 tyX7_ok nmX7 hown w 0 0 rfl rfl (ci := 11) rfl 2 (by decide) (hts _ (List.mem_of_getElem? (i := 3) rfl)) rfl rfl (ty := .int) (by decide +kernel) rfl rfl (Nat.le_of_ble_eq_true rfl) (weB a (upd (upd (upd S 204 (T 204)) 210 (T 210)) 211 (T 211))) rfl [weB a (upd (upd (upd S 204 (T 204)) 210 (T 210)) 211 (T 211)), weB b T] rfl dX7_copyFrom_21 (fun H locs w => ?_)
  refine lv_aload_n hx hb dX7_copyFrom_24 rfl (lv_at hl 0 rfl) ?_
  refine lv_aload_n hx hb dX7_copyFrom_25 rfl (lv_at hl 1 rfl) ?_
  refine r_get (v' := .int (T 214)) hx hb hts in_X7_copyFrom_X7 hown w 1 0 rfl rfl (ci := 11) rfl 3 (by decide) (hts _ (List.mem_of_getElem? (i := 4) rfl)) rfl rfl rfl dX7_copyFrom_26 ?_
  refine r_put hx hb hts in_X7_copyFrom_X7 tyX7 tyX7_ok nmX7 hown w 0 0 rfl rfl (ci := 11) rfl 3 (by decide) (hts _ (List.mem_of_getElem? (i := 4) rfl)) rfl rfl (ty := .int) (by decide +kernel) rfl rfl (Nat.le_of_ble_eq_true rfl) (weB a (upd (upd (upd (upd S 204 (T 204)) 210 (T 210)) 211 (T 211)) 214 (T 214))) rfl [weB a (upd (upd (upd (upd S 204 (T 204)) 210 (T 210)) 211 (T 211)) 214 (T 214)), weB b T] rfl dX7_copyFrom_29 (fun H locs w => ?_)
  refine lv_aload_n hx hb dX7_copyFrom_32 rfl (lv_at hl 0 rfl) ?_
  refine lv_aload_n hx hb dX7_copyFrom_33 rfl (lv_at hl 1 rfl) ?_
  refine r_get (v' := .int (T 208)) hx hb hts in_X7_copyFrom_X7 hown w 1 0 rfl rfl (ci := 11) rfl 4 (by decide) (hts _ (List.mem_of_getElem? (i := 5) rfl)) rfl rfl rfl dX7_copyFrom_34 ?_
  refine r_put hx hb hts in_X7_copyFrom_X7 tyX7 tyX7_ok nmX7 hown w 0 0 rfl rfl (ci := 11) rfl 4 (by decide) (hts _ (List.mem_of_getElem? (i := 5) rfl)) rfl rfl (ty := .int) (by decide +kernel) rfl rfl (Nat.le_of_ble_eq_true rfl) (weB a (upd (upd (upd (upd (upd S 204 (T 204)) 210 (T 210)) 211 (T 211)) 214 (T 214)) 208 (T 208))) rfl [weB a (upd (upd (upd (upd (upd S 204 (T 204)) 210 (T 210)) 211 (T 211)) 214 (T 214)) 208 (T 208)), weB b T] rfl dX7_copyFrom_37 (fun H locs w => ?_)
  refine lv_aload_n hx hb dX7_copyFrom_40 rfl (lv_at hl 0 rfl) ?_
  refine lv_aload_n hx hb dX7_copyFrom_41 rfl (lv_at hl 1 rfl) ?_
  refine r_get (v' := .int (T 205)) hx hb hts in_X7_copyFrom_X7 hown w 1 0 rfl rfl (ci := 11) rfl 5 (by decide) (hts _ (List.mem_of_getElem? (i := 6) rfl)) rfl rfl rfl dX7_copyFrom_42 ?_
  refine r_put hx hb hts in_X7_copyFrom_X7 tyX7 tyX7_ok nmX7 hown w 0 0 rfl rfl (ci := 11) rfl 5 (by decide) (hts _ (List.mem_of_getElem? (i := 6) rfl)) rfl rfl (ty := .int) (by decide +kernel) rfl rfl (Nat.le_of_ble_eq_true rfl) (weB a (upd (upd (upd (upd (upd (upd S 204 (T 204)) 210 (T 210)) 211 (T 211)) 214 (T 214)) 208 (T 208)) 205 (T 205))) rfl [weB a (upd (upd (upd (upd (upd (upd S 204 (T 204)) 210 (T 210)) 211 (T 211)) 214 (T 214)) 208 (T 208)) 205 (T 205)), weB b T] rfl dX7_copyFrom_45 (fun H locs w => ?_)
  refine lv_aload_n hx hb dX7_copyFrom_48 rfl (lv_at hl 0 rfl) ?_
  refine lv_aload_n hx hb dX7_copyFrom_49 rfl (lv_at hl 1 rfl) ?_
  refine r_get (v' := .int (T 212)) hx hb hts in_X7_copyFrom_X7 hown w 1 0 rfl rfl (ci := 11) rfl 6 (by decide) (hts _ (List.mem_of_getElem? (i := 7) rfl)) rfl rfl rfl dX7_copyFrom_50 ?_
  refine r_put hx hb hts in_X7_copyFrom_X7 tyX7 tyX7_ok nmX7 hown w 0 0 rfl rfl (ci := 11) rfl 6 (by decide) (hts _ (List.mem_of_getElem? (i := 7) rfl)) rfl rfl (ty := .int) (by decide +kernel) rfl rfl (Nat.le_of_ble_eq_true rfl) (weB a (upd (upd (upd (upd (upd (upd (upd S 204 (T 204)) 210 (T 210)) 211 (T 211)) 214 (T 214)) 208 (T 208)) 205 (T 205)) 212 (T 212))) rfl [weB a (upd (upd (upd (upd (upd (upd (upd S 204 (T 204)) 210 (T 210)) 211 (T 211)) 214 (T 214)) 208 (T 208)) 205 (T 205)) 212 (T 212)), weB b T] rfl dX7_copyFrom_53 (fun H locs w => ?_)
  refine lv_aload_n hx hb dX7_copyFrom_56 rfl (lv_at hl 0 rfl) ?_
  refine lv_aload_n hx hb dX7_copyFrom_57 rfl (lv_at hl 1 rfl) ?_
  refine r_get (v' := .int (T 207)) hx hb hts in_X7_copyFrom_X7 hown w 1 0 rfl rfl (ci := 11) rfl 7 (by decide) (hts _ (List.mem_of_getElem? (i := 8) rfl)) rfl rfl rfl dX7_copyFrom_58 ?_
  refine r_put hx hb hts in_X7_copyFrom_X7 tyX7 tyX7_ok nmX7 hown w 0 0 rfl rfl (ci := 11) rfl 7 (by decide) (hts _ (List.mem_of_getElem? (i := 8) rfl)) rfl rfl (ty := .boolean) (by decide +kernel) (nar01 hdr) (fit01 hdr) (Nat.le_of_ble_eq_true rfl) (weB a (upd (upd (upd (upd (upd (upd (upd (upd S 204 (T 204)) 210 (T 210)) 211 (T 211)) 214 (T 214)) 208 (T 208)) 205 (T 205)) 212 (T 212)) 207 (T 207))) rfl [weB a (upd (upd (upd (upd (upd (upd (upd (upd S 204 (T 204)) 210 (T 210)) 211 (T 211)) 214 (T 214)) 208 (T 208)) 205 (T 205)) 212 (T 212)) 207 (T 207)), weB b T] rfl dX7_copyFrom_61 (fun H locs w => ?_)
  exact e_v hx hb hr hlocks (w.cast (by rw [weB_cp])) dX7_copyFrom_64 (Nat.le_refl _) (Nat.le_refl _)

theorem in_X3_copyFrom_X3 : ∀ w ∈ wsX30, w ∈ wsX3_copyFrom := by decide +kernel
theorem hdN_X3_copyFrom : yX3_copyFrom.cls ≠ "java/lang/invoke/MethodHandle" ∧ yX3_copyFrom.cls ≠ "java/lang/invoke/VarHandle" ∧ (parseMethodDescriptor yX3_copyFrom.desc).map (fun d => d.parameters.length) = some 1 := by decide +kernel
set_option maxRecDepth 100000 in
set_option maxHeartbeats 4000000 in
theorem c_X3_copyFrom (l : Launch) (D : va_G) (ty : Nat → ClassId) (a b : Nat → Nat) (S T : pS)  : Mv l yX3_copyFrom wsX3_copyFrom (kR 1 20 0 0) D (kTY ty) [.ref (a 20), .ref (b 20)] [miB ty a S, miB ty b T] [miB ty a T, miB ty b T] 0 0 := by
  refine m_v (cc := cX3_copyFrom) (maxL := 2) (ret := none) (by decide +kernel) rfl (Nat.le_of_ble_eq_true rfl) ?_
  intro p e s m below meth c A ls hx hb hml hr hlocks hown hts w hl
  have hown : s.vm.findClass RX3 = some m.cls := hown
  have hl : lv_has ls 2 [(0, .ref (a 20)), (1, .ref (b 20))] := hl
  refine lv_aload_n hx hb dX3_copyFrom_0 rfl (lv_at hl 0 rfl) ?_
  refine lv_aload_n hx hb dX3_copyFrom_1 rfl (lv_at hl 1 rfl) ?_
  refine r_get (v' := .int (T 0)) hx hb hts in_X3_copyFrom_X3 hown w 1 0 rfl rfl (ci := 7) rfl 0 (by decide) (hts _ (List.mem_of_getElem? (i := 1) rfl)) rfl rfl rfl dX3_copyFrom_2 ?_
  refine r_put hx hb hts in_X3_copyFrom_X3 tyX3 tyX3_ok nmX3 hown w 0 0 rfl rfl (ci := 7) rfl 0 (by decide) (hts _ (List.mem_of_getElem? (i := 1) rfl)) rfl rfl (ty := .int) (by decide +kernel) rfl rfl (Nat.le_of_ble_eq_true rfl) (miB ty a (upd S 0 (T 0))) miB_f0 [miB ty a (upd S 0 (T 0)), miB ty b T] rfl dX3_copyFrom_5 (fun H locs w => ?_)
  refine lv_aload_n hx hb dX3_copyFrom_8 rfl (lv_at hl 0 rfl) ?_
  refine lv_aload_n hx hb dX3_copyFrom_9 rfl (lv_at hl 1 rfl) ?_
  refine r_get (v' := .int (T 1)) hx hb hts in_X3_copyFrom_X3 hown w 1 0 rfl rfl (ci := 7) rfl 1 (by decide) (hts _ (List.mem_of_getElem? (i := 2) rfl)) rfl rfl rfl dX3_copyFrom_10 ?_
  refine r_put hx hb hts in_X3_copyFrom_X3 tyX3 tyX3_ok nmX3 hown w 0 0 rfl rfl (ci := 7) rfl 1 (by decide) (hts _ (List.mem_of_getElem? (i := 2) rfl)) rfl rfl (ty := .int) (by decide +kernel) rfl rfl (Nat.le_of_ble_eq_true rfl) (miB ty a (upd (upd S 0 (T 0)) 1 (T 1))) miB_f1 [miB ty a (upd (upd S 0 (T 0)) 1 (T 1)), miB ty b T] rfl dX3_copyFrom_13 (fun H locs w => ?_)
  refine lv_aload_n hx hb dX3_copyFrom_16 rfl (lv_at hl 1 rfl) ?_
  refine r_get (v' := .ref (b 21)) hx hb hts in_X3_copyFrom_X3 hown w 1 0 rfl rfl (ci := 7) rfl 2 (by decide) (hts _ (List.mem_of_getElem? (i := 3) rfl)) rfl rfl rfl dX3_copyFrom_17 ?_
  refine lv_iconst (v := 0) hx hb dX3_copyFrom_20 (by decide) ?_
  refine lv_aload_n hx hb dX3_copyFrom_21 rfl (lv_at hl 0 rfl) ?_
  refine r_get (v' := .ref (a 21)) hx hb hts in_X3_copyFrom_X3 hown w 0 0 rfl rfl (ci := 7) rfl 2 (by decide) (hts _ (List.mem_of_getElem? (i := 3) rfl)) rfl rfl rfl dX3_copyFrom_22 ?_
  refine lv_iconst (v := 0) hx hb dX3_copyFrom_25 (by decide) ?_
  refine lv_bipush (v := 20) hx hb dX3_copyFrom_26 (by decide) ?_
  refine r_copy hx hb (hml.trans hl.1.symm) hown (hts _ (List.mem_of_getElem? (i := 4) rfl)) (hts _ (List.mem_of_getElem? (i := 5) rfl)) (hts _ (List.mem_of_getElem? (i := 6) rfl)) (hts _ (List.mem_of_getElem? (i := 7) rfl)) w 1 1 0 1 rfl rfl rfl rfl 0 0 rfl rfl (n := 20) rfl (Nat.le_of_ble_eq_true rfl) (Nat.le_of_ble_eq_true rfl) (by decide) (miB ty a (ovr (upd (upd S 0 (T 0)) 1 (T 1)) T 2)) miB_cp0 [miB ty a (ovr (upd (upd S 0 (T 0)) 1 (T 1)) T 2), miB ty b T] rfl dX3_copyFrom_28 (fun H locs w => ?_)
  refine lv_aload_n hx hb dX3_copyFrom_31 rfl (lv_at hl 1 rfl) ?_
  refine r_get (v' := .ref (b 22)) hx hb hts in_X3_copyFrom_X3 hown w 1 0 rfl rfl (ci := 7) rfl 3 (by decide) (hts _ (List.mem_of_getElem? (i := 8) rfl)) rfl rfl rfl dX3_copyFrom_32 ?_
  refine lv_iconst (v := 0) hx hb dX3_copyFrom_35 (by decide) ?_
  refine lv_aload_n hx hb dX3_copyFrom_36 rfl (lv_at hl 0 rfl) ?_
  refine r_get (v' := .ref (a 22)) hx hb hts in_X3_copyFrom_X3 hown w 0 0 rfl rfl (ci := 7) rfl 3 (by decide) (hts _ (List.mem_of_getElem? (i := 8) rfl)) rfl rfl rfl dX3_copyFrom_37 ?_
  refine lv_iconst (v := 0) hx hb dX3_copyFrom_40 (by decide) ?_
  refine lv_bipush (v := 20) hx hb dX3_copyFrom_41 (by decide) ?_
  refine r_copy hx hb (hml.trans hl.1.symm) hown (hts _ (List.mem_of_getElem? (i := 4) rfl)) (hts _ (List.mem_of_getElem? (i := 5) rfl)) (hts _ (List.mem_of_getElem? (i := 6) rfl)) (hts _ (List.mem_of_getElem? (i := 7) rfl)) w 1 2 0 2 rfl rfl rfl rfl 0 0 rfl rfl (n := 20) rfl (Nat.le_of_ble_eq_true rfl) (Nat.le_of_ble_eq_true rfl) (by decide) (miB ty a (ovr (ovr (upd (upd S 0 (T 0)) 1 (T 1)) T 2) T 22)) miB_cp1 [miB ty a (ovr (ovr (upd (upd S 0 (T 0)) 1 (T 1)) T 2) T 22), miB ty b T] rfl dX3_copyFrom_43 (fun H locs w => ?_)
  refine lv_aload_n hx hb dX3_copyFrom_46 rfl (lv_at hl 1 rfl) ?_
  refine r_get (v' := .ref (b 23)) hx hb hts in_X3_copyFrom_X3 hown w 1 0 rfl rfl (ci := 7) rfl 4 (by decide) (hts _ (List.mem_of_getElem? (i := 9) rfl)) rfl rfl rfl dX3_copyFrom_47 ?_
  refine lv_iconst (v := 0) hx hb dX3_copyFrom_50 (by decide) ?_
  refine lv_aload_n hx hb dX3_copyFrom_51 rfl (lv_at hl 0 rfl) ?_
  refine r_get (v' := .ref (a 23)) hx hb hts in_X3_copyFrom_X3 hown w 0 0 rfl rfl (ci := 7) rfl 4 (by decide) (hts _ (List.mem_of_getElem? (i := 9) rfl)) rfl rfl rfl dX3_copyFrom_52 ?_
  refine lv_iconst (v := 0) hx hb dX3_copyFrom_55 (by decide) ?_
  refine lv_bipush (v := 20) hx hb dX3_copyFrom_56 (by decide) ?_
  refine r_copy hx hb (hml.trans hl.1.symm) hown (hts _ (List.mem_of_getElem? (i := 4) rfl)) (hts _ (List.mem_of_getElem? (i := 5) rfl)) (hts _ (List.mem_of_getElem? (i := 6) rfl)) (hts _ (List.mem_of_getElem? (i := 7) rfl)) w 1 3 0 3 rfl rfl rfl rfl 0 0 rfl rfl (n := 20) rfl (Nat.le_of_ble_eq_true rfl) (Nat.le_of_ble_eq_true rfl) (by decide) (miB ty a (ovr (ovr (ovr (upd (upd S 0 (T 0)) 1 (T 1)) T 2) T 22) T 42)) miB_cp2 [miB ty a (ovr (ovr (ovr (upd (upd S 0 (T 0)) 1 (T 1)) T 2) T 22) T 42), miB ty b T] rfl dX3_copyFrom_58 (fun H locs w => ?_)
  refine lv_aload_n hx hb dX3_copyFrom_61 rfl (lv_at hl 1 rfl) ?_
  refine r_get (v' := .ref (b 24)) hx hb hts in_X3_copyFrom_X3 hown w 1 0 rfl rfl (ci := 7) rfl 5 (by decide) (hts _ (List.mem_of_getElem? (i := 10) rfl)) rfl rfl rfl dX3_copyFrom_62 ?_
  refine lv_iconst (v := 0) hx hb dX3_copyFrom_65 (by decide) ?_
  refine lv_aload_n hx hb dX3_copyFrom_66 rfl (lv_at hl 0 rfl) ?_
  refine r_get (v' := .ref (a 24)) hx hb hts in_X3_copyFrom_X3 hown w 0 0 rfl rfl (ci := 7) rfl 5 (by decide) (hts _ (List.mem_of_getElem? (i := 10) rfl)) rfl rfl rfl dX3_copyFrom_67 ?_
  refine lv_iconst (v := 0) hx hb dX3_copyFrom_70 (by decide) ?_
  refine lv_bipush (v := 20) hx hb dX3_copyFrom_71 (by decide) ?_
  refine r_copy hx hb (hml.trans hl.1.symm) hown (hts _ (List.mem_of_getElem? (i := 4) rfl)) (hts _ (List.mem_of_getElem? (i := 5) rfl)) (hts _ (List.mem_of_getElem? (i := 6) rfl)) (hts _ (List.mem_of_getElem? (i := 7) rfl)) w 1 4 0 4 rfl rfl rfl rfl 0 0 rfl rfl (n := 20) rfl (Nat.le_of_ble_eq_true rfl) (Nat.le_of_ble_eq_true rfl) (by decide) (miB ty a (ovr (ovr (ovr (ovr (upd (upd S 0 (T 0)) 1 (T 1)) T 2) T 22) T 42) T 62)) miB_cp3 [miB ty a (ovr (ovr (ovr (ovr (upd (upd S 0 (T 0)) 1 (T 1)) T 2) T 22) T 42) T 62), miB ty b T] rfl dX3_copyFrom_73 (fun H locs w => ?_)
  exact e_v hx hb hr hlocks (w.cast (by rw [miB_cpe])) dX3_copyFrom_76 (Nat.le_refl _) (Nat.le_refl _)

theorem in_X6_copyFrom_X6 : ∀ w ∈ wsX60, w ∈ wsX6_copyFrom := by decide +kernel
theorem hdN_X6_copyFrom : yX6_copyFrom.cls ≠ "java/lang/invoke/MethodHandle" ∧ yX6_copyFrom.cls ≠ "java/lang/invoke/VarHandle" ∧ (parseMethodDescriptor yX6_copyFrom.desc).map (fun d => d.parameters.length) = some 1 := by decide +kernel
set_option maxRecDepth 100000 in
set_option maxHeartbeats 4000000 in
theorem c_X6_copyFrom (l : Launch) (D : va_G) (ty : Nat → ClassId) (a b : Nat → Nat) (S M T U : pS) (hdr : T 207 = 0 ∨ T 207 = 1)  : Mv l yX6_copyFrom wsX6_copyFrom (kR 2 42 0 0) D (kTY ty) [.ref (a 0), .ref (b 0)] [stB a S, lnB ty a S, quB ty a S, weB a S, miB ty a M, stB b T, lnB ty b T, quB ty b T, weB b T, miB ty b U] [stB a T, lnB ty a T, quB ty a T, weB a T, miB ty a U, stB b T, lnB ty b T, quB ty b T, weB b T, miB ty b U] 0 0 := by
  refine m_v (cc := cX6_copyFrom) (maxL := 2) (ret := none) (by decide +kernel) rfl (Nat.le_of_ble_eq_true rfl) ?_
  intro p e s m below meth c A ls hx hb hml hr hlocks hown hts w hl
  have hown : s.vm.findClass RX6 = some m.cls := hown
  have hl : lv_has ls 2 [(0, .ref (a 0)), (1, .ref (b 0))] := hl
  refine lv_aload_n hx hb dX6_copyFrom_0 rfl (lv_at hl 0 rfl) ?_
  refine r_get (v' := .ref (a 1)) hx hb hts in_X6_copyFrom_X6 hown w 0 0 rfl rfl (ci := 10) rfl 0 (by decide) (hts _ (List.mem_of_getElem? (i := 1) rfl)) rfl rfl rfl dX6_copyFrom_1 ?_
  refine lv_aload_n hx hb dX6_copyFrom_4 rfl (lv_at hl 1 rfl) ?_
  refine r_get (v' := .ref (b 1)) hx hb hts in_X6_copyFrom_X6 hown w 5 0 rfl rfl (ci := 10) rfl 0 (by decide) (hts _ (List.mem_of_getElem? (i := 1) rfl)) rfl rfl rfl dX6_copyFrom_5 ?_
  refine k_vVN (As := [.ref (b 1)]) (rest := []) (Rs := [stB a S, quB ty a S, weB a S, miB ty a M, stB b T, quB ty b T, weB b T, miB ty b U]) (Bs' := [stB a S, lnB ty a T, quB ty a S, weB a S, miB ty a M, stB b T, lnB ty b T, quB ty b T, weB b T, miB ty b U]) ⟨hx, hb, hml, hown, hts⟩ w (c_X2_copyFrom l D ty a b S T) ⟨va_cnB 1 hts gX6_copyFrom_X2_copyFrom_n39 rfl rfl rfl (w.2.2.2.2.2 _ (List.mem_of_getElem? (i := 51) rfl)) (hts _ (List.mem_of_getElem? (i := 9) rfl)) hdN_X2_copyFrom ⟨Nat.le_of_ble_eq_true rfl, Nat.le_of_ble_eq_true rfl⟩, (hts _ (List.mem_of_getElem? (i := 8) rfl)), (hts _ (List.mem_of_getElem? (i := 10) rfl))⟩ [1, 6, 0, 2, 3, 4, 5, 7, 8, 9] (nB := 10) (by decide) rfl rfl rfl rfl 1 rfl rfl (ci := 6) rfl rfl rfl hl.1 rfl (Nat.le_of_ble_eq_true rfl) dX6_copyFrom_8 ⟨(Nat.zero_le _), (Nat.zero_le _)⟩ (fun H locs w => ?_)
  refine lv_aload_n hx hb dX6_copyFrom_11 rfl (lv_at hl 0 rfl) ?_
  refine r_get (v' := .ref (a 17)) hx hb hts in_X6_copyFrom_X6 hown w 0 0 rfl rfl (ci := 10) rfl 1 (by decide) (hts _ (List.mem_of_getElem? (i := 2) rfl)) rfl rfl rfl dX6_copyFrom_12 ?_
  refine lv_aload_n hx hb dX6_copyFrom_15 rfl (lv_at hl 1 rfl) ?_
  refine r_get (v' := .ref (b 17)) hx hb hts in_X6_copyFrom_X6 hown w 5 0 rfl rfl (ci := 10) rfl 1 (by decide) (hts _ (List.mem_of_getElem? (i := 2) rfl)) rfl rfl rfl dX6_copyFrom_16 ?_
  refine k_vVN (As := [.ref (b 17)]) (rest := []) (Rs := [stB a S, lnB ty a T, weB a S, miB ty a M, stB b T, lnB ty b T, weB b T, miB ty b U]) (Bs' := [stB a S, lnB ty a T, quB ty a T, weB a S, miB ty a M, stB b T, lnB ty b T, quB ty b T, weB b T, miB ty b U]) ⟨hx, hb, hml, hown, hts⟩ w (c_X4_copyFrom l D ty a b S T) ⟨va_cnB 1 hts gX6_copyFrom_X4_copyFrom_n43 rfl rfl rfl (w.2.2.2.2.2 _ (List.mem_of_getElem? (i := 52) rfl)) (hts _ (List.mem_of_getElem? (i := 26) rfl)) hdN_X4_copyFrom ⟨Nat.le_of_ble_eq_true rfl, Nat.le_of_ble_eq_true rfl⟩, (hts _ (List.mem_of_getElem? (i := 25) rfl)), (hts _ (List.mem_of_getElem? (i := 27) rfl))⟩ [2, 7, 0, 1, 3, 4, 5, 6, 8, 9] (nB := 10) (by decide) rfl rfl rfl rfl 2 rfl rfl (ci := 8) rfl rfl rfl hl.1 rfl (Nat.le_of_ble_eq_true rfl) dX6_copyFrom_19 ⟨(Nat.zero_le _), (Nat.zero_le _)⟩ (fun H locs w => ?_)
  refine lv_aload_n hx hb dX6_copyFrom_22 rfl (lv_at hl 0 rfl) ?_
  refine r_get (v' := .ref (a 19)) hx hb hts in_X6_copyFrom_X6 hown w 0 0 rfl rfl (ci := 10) rfl 2 (by decide) (hts _ (List.mem_of_getElem? (i := 3) rfl)) rfl rfl rfl dX6_copyFrom_23 ?_
  refine lv_aload_n hx hb dX6_copyFrom_26 rfl (lv_at hl 1 rfl) ?_
  refine r_get (v' := .ref (b 19)) hx hb hts in_X6_copyFrom_X6 hown w 5 0 rfl rfl (ci := 10) rfl 2 (by decide) (hts _ (List.mem_of_getElem? (i := 3) rfl)) rfl rfl rfl dX6_copyFrom_27 ?_
  refine k_vVN (As := [.ref (b 19)]) (rest := []) (Rs := [stB a S, lnB ty a T, quB ty a T, miB ty a M, stB b T, lnB ty b T, quB ty b T, miB ty b U]) (Bs' := [stB a S, lnB ty a T, quB ty a T, weB a T, miB ty a M, stB b T, lnB ty b T, quB ty b T, weB b T, miB ty b U]) ⟨hx, hb, hml, hown, hts⟩ w (c_X7_copyFrom l D ty a b S T hdr) ⟨va_cnB 1 hts gX6_copyFrom_X7_copyFrom_n46 rfl rfl rfl (w.2.2.2.2.2 _ (List.mem_of_getElem? (i := 53) rfl)) (hts _ (List.mem_of_getElem? (i := 33) rfl)) hdN_X7_copyFrom ⟨Nat.le_of_ble_eq_true rfl, Nat.le_of_ble_eq_true rfl⟩, (hts _ (List.mem_of_getElem? (i := 32) rfl)), (hts _ (List.mem_of_getElem? (i := 34) rfl))⟩ [3, 8, 0, 1, 2, 4, 5, 6, 7, 9] (nB := 10) (by decide) rfl rfl rfl rfl 3 rfl rfl (ci := 11) rfl rfl rfl hl.1 rfl (Nat.le_of_ble_eq_true rfl) dX6_copyFrom_30 ⟨(Nat.zero_le _), (Nat.zero_le _)⟩ (fun H locs w => ?_)
  refine lv_aload_n hx hb dX6_copyFrom_33 rfl (lv_at hl 0 rfl) ?_
  refine r_get (v' := .ref (a 20)) hx hb hts in_X6_copyFrom_X6 hown w 0 0 rfl rfl (ci := 10) rfl 3 (by decide) (hts _ (List.mem_of_getElem? (i := 4) rfl)) rfl rfl rfl dX6_copyFrom_34 ?_
  refine lv_aload_n hx hb dX6_copyFrom_37 rfl (lv_at hl 1 rfl) ?_
  refine r_get (v' := .ref (b 20)) hx hb hts in_X6_copyFrom_X6 hown w 5 0 rfl rfl (ci := 10) rfl 3 (by decide) (hts _ (List.mem_of_getElem? (i := 4) rfl)) rfl rfl rfl dX6_copyFrom_38 ?_
  refine k_vVN (As := [.ref (b 20)]) (rest := []) (Rs := [stB a S, lnB ty a T, quB ty a T, weB a T, stB b T, lnB ty b T, quB ty b T, weB b T]) (Bs' := [stB a S, lnB ty a T, quB ty a T, weB a T, miB ty a U, stB b T, lnB ty b T, quB ty b T, weB b T, miB ty b U]) ⟨hx, hb, hml, hown, hts⟩ w (c_X3_copyFrom l D ty a b M U) ⟨va_cnB 1 hts gX6_copyFrom_X3_copyFrom_n49 rfl rfl rfl (w.2.2.2.2.2 _ (List.mem_of_getElem? (i := 54) rfl)) (hts _ (List.mem_of_getElem? (i := 45) rfl)) hdN_X3_copyFrom ⟨Nat.le_of_ble_eq_true rfl, Nat.le_of_ble_eq_true rfl⟩, (hts _ (List.mem_of_getElem? (i := 44) rfl)), (hts _ (List.mem_of_getElem? (i := 46) rfl))⟩ [4, 9, 0, 1, 2, 3, 5, 6, 7, 8] (nB := 10) (by decide) rfl rfl rfl rfl 4 rfl rfl (ci := 7) rfl rfl rfl hl.1 rfl (Nat.le_of_ble_eq_true rfl) dX6_copyFrom_41 ⟨(Nat.zero_le _), (Nat.zero_le _)⟩ (fun H locs w => ?_)
  refine lv_aload_n hx hb dX6_copyFrom_44 rfl (lv_at hl 0 rfl) ?_
  refine lv_aload_n hx hb dX6_copyFrom_45 rfl (lv_at hl 1 rfl) ?_
  refine r_get (v' := .int (T 206)) hx hb hts in_X6_copyFrom_X6 hown w 5 0 rfl rfl (ci := 10) rfl 4 (by decide) (hts _ (List.mem_of_getElem? (i := 5) rfl)) rfl rfl rfl dX6_copyFrom_46 ?_
  refine r_put hx hb hts in_X6_copyFrom_X6 tyX6 tyX6_ok nmX6 hown w 0 0 rfl rfl (ci := 10) rfl 4 (by decide) (hts _ (List.mem_of_getElem? (i := 5) rfl)) rfl rfl (ty := .int) (by decide +kernel) rfl rfl (Nat.le_of_ble_eq_true rfl) (stB a (upd S 206 (T 206))) rfl [stB a (upd S 206 (T 206)), lnB ty a T, quB ty a T, weB a T, miB ty a U, stB b T, lnB ty b T, quB ty b T, weB b T, miB ty b U] rfl dX6_copyFrom_49 (fun H locs w => ?_)
  refine lv_aload_n hx hb dX6_copyFrom_52 rfl (lv_at hl 0 rfl) ?_
  refine lv_aload_n hx hb dX6_copyFrom_53 rfl (lv_at hl 1 rfl) ?_
  refine r_get (v' := .int (T 203)) hx hb hts in_X6_copyFrom_X6 hown w 5 0 rfl rfl (ci := 10) rfl 5 (by decide) (hts _ (List.mem_of_getElem? (i := 6) rfl)) rfl rfl rfl dX6_copyFrom_54 ?_
  refine r_put hx hb hts in_X6_copyFrom_X6 tyX6 tyX6_ok nmX6 hown w 0 0 rfl rfl (ci := 10) rfl 5 (by decide) (hts _ (List.mem_of_getElem? (i := 6) rfl)) rfl rfl (ty := .int) (by decide +kernel) rfl rfl (Nat.le_of_ble_eq_true rfl) (stB a (upd (upd S 206 (T 206)) 203 (T 203))) rfl [stB a (upd (upd S 206 (T 206)) 203 (T 203)), lnB ty a T, quB ty a T, weB a T, miB ty a U, stB b T, lnB ty b T, quB ty b T, weB b T, miB ty b U] rfl dX6_copyFrom_57 (fun H locs w => ?_)
  refine lv_aload_n hx hb dX6_copyFrom_60 rfl (lv_at hl 0 rfl) ?_
  refine lv_aload_n hx hb dX6_copyFrom_61 rfl (lv_at hl 1 rfl) ?_
  refine r_get (v' := .int (T 209)) hx hb hts in_X6_copyFrom_X6 hown w 5 0 rfl rfl (ci := 10) rfl 6 (by decide) (hts _ (List.mem_of_getElem? (i := 7) rfl)) rfl rfl rfl dX6_copyFrom_62 ?_
  refine r_put hx hb hts in_X6_copyFrom_X6 tyX6 tyX6_ok nmX6 hown w 0 0 rfl rfl (ci := 10) rfl 6 (by decide) (hts _ (List.mem_of_getElem? (i := 7) rfl)) rfl rfl (ty := .int) (by decide +kernel) rfl rfl (Nat.le_of_ble_eq_true rfl) (stB a (upd (upd (upd S 206 (T 206)) 203 (T 203)) 209 (T 209))) rfl [stB a (upd (upd (upd S 206 (T 206)) 203 (T 203)) 209 (T 209)), lnB ty a T, quB ty a T, weB a T, miB ty a U, stB b T, lnB ty b T, quB ty b T, weB b T, miB ty b U] rfl dX6_copyFrom_65 (fun H locs w => ?_)
  exact e_v hx hb hr hlocks (w.cast (by rw [stB_cp])) dX6_copyFrom_68 (Nat.le_refl _) (Nat.le_refl _)

theorem in_X1_keep_X1 : ∀ w ∈ wsX10, w ∈ wsX1_keep := by decide +kernel
theorem hdN_X1_keep : yX1_keep.cls ≠ "java/lang/invoke/MethodHandle" ∧ yX1_keep.cls ≠ "java/lang/invoke/VarHandle" ∧ (parseMethodDescriptor yX1_keep.desc).map (fun d => d.parameters.length) = some 1 := by decide +kernel
set_option maxRecDepth 100000 in
set_option maxHeartbeats 4000000 in
theorem c_X1_keep (l : Launch) (D : va_G) (ty : Nat → ClassId) (h : Nat → Nat) (ha : Nat → Nat → Nat) (HX : Nat → pX) (sz : Int32) (nx : Nat) (hnx : nx < 8) (a : Nat → Nat) (S M : pS) (hdr : S 207 = 0 ∨ S 207 = 1)  : Mv l yX1_keep wsX1_keep (kR 3 63 0 0) D (kTY ty) [.ref (h 0), .ref (a 0)] [hiB ty h ha sz (nI nx), stF ty (ha 0) (HX 0), stF ty (ha 1) (HX 1), stF ty (ha 2) (HX 2), stF ty (ha 3) (HX 3), stF ty (ha 4) (HX 4), stF ty (ha 5) (HX 5), stF ty (ha 6) (HX 6), stF ty (ha 7) (HX 7), stB a S, lnB ty a S, quB ty a S, weB a S, miB ty a M] [hiB ty h ha (jmin 8 (sz + 1)) (nI ((nx + 1) % 8)), stF ty (ha 0) (va_up HX nx (S, M) 0), stF ty (ha 1) (va_up HX nx (S, M) 1), stF ty (ha 2) (va_up HX nx (S, M) 2), stF ty (ha 3) (va_up HX nx (S, M) 3), stF ty (ha 4) (va_up HX nx (S, M) 4), stF ty (ha 5) (va_up HX nx (S, M) 5), stF ty (ha 6) (va_up HX nx (S, M) 6), stF ty (ha 7) (va_up HX nx (S, M) 7), stB a S, lnB ty a S, quB ty a S, weB a S, miB ty a M] 0 0 := by
  refine m_v (cc := cX1_keep) (maxL := 2) (ret := none) (by decide +kernel) rfl (Nat.le_of_ble_eq_true rfl) ?_
  intro p e s m below meth c A ls hx hb hml hr hlocks hown hts w hl
  have hown : s.vm.findClass RX1 = some m.cls := hown
  have hl : lv_has ls 2 [(0, .ref (h 0)), (1, .ref (a 0))] := hl
  rcases (show nx = 0 ∨ nx = 1 ∨ nx = 2 ∨ nx = 3 ∨ nx = 4 ∨ nx = 5 ∨ nx = 6 ∨ nx = 7 by omega) with rfl | rfl | rfl | rfl | rfl | rfl | rfl | rfl
  · refine lv_aload_n hx hb dX1_keep_0 rfl (lv_at hl 0 rfl) ?_
    refine r_get (v' := .ref (h 1)) hx hb hts in_X1_keep_X1 hown w 0 0 rfl rfl (ci := 5) rfl 2 (by decide) (hts _ (List.mem_of_getElem? (i := 1) rfl)) rfl rfl rfl dX1_keep_1 ?_
    refine lv_aload_n hx hb dX1_keep_4 rfl (lv_at hl 0 rfl) ?_
    refine r_get (v' := .int (nI 0)) hx hb hts in_X1_keep_X1 hown w 0 0 rfl rfl (ci := 5) rfl 1 (by decide) (hts _ (List.mem_of_getElem? (i := 2) rfl)) rfl rfl rfl dX1_keep_5 ?_
    refine r_aald (y := (ha 0 0)) hx hb w 0 1 rfl (ty := .object "PumpParliament$State") rfl rfl 2 rfl 0 (by omega) (Nat.le_of_ble_eq_true rfl) rfl (if_pos (by omega)) dX1_keep_8 ?_
    have w := w.flat (Bs' := [hiB ty h ha sz (nI 0), stB (ha 0) ((HX 0).1), lnB ty (ha 0) ((HX 0).1), quB ty (ha 0) ((HX 0).1), weB (ha 0) ((HX 0).1), miB ty (ha 0) ((HX 0).2), stF ty (ha 1) (HX 1), stF ty (ha 2) (HX 2), stF ty (ha 3) (HX 3), stF ty (ha 4) (HX 4), stF ty (ha 5) (HX 5), stF ty (ha 6) (HX 6), stF ty (ha 7) (HX 7), stB a S, lnB ty a S, quB ty a S, weB a S, miB ty a M]) (stF_flat ty (ha 0) (HX 0) [hiB ty h ha sz (nI 0)] [stF ty (ha 1) (HX 1), stF ty (ha 2) (HX 2), stF ty (ha 3) (HX 3), stF ty (ha 4) (HX 4), stF ty (ha 5) (HX 5), stF ty (ha 6) (HX 6), stF ty (ha 7) (HX 7), stB a S, lnB ty a S, quB ty a S, weB a S, miB ty a M])
    refine lv_aload_n hx hb dX1_keep_9 rfl (lv_at hl 1 rfl) ?_
    refine k_vVN (As := [.ref (a 0)]) (rest := []) (Rs := [hiB ty h ha sz (nI 0), stF ty (ha 1) (HX 1), stF ty (ha 2) (HX 2), stF ty (ha 3) (HX 3), stF ty (ha 4) (HX 4), stF ty (ha 5) (HX 5), stF ty (ha 6) (HX 6), stF ty (ha 7) (HX 7)]) (Bs' := [hiB ty h ha sz (nI 0), stB (ha 0) S, lnB ty (ha 0) S, quB ty (ha 0) S, weB (ha 0) S, miB ty (ha 0) M, stF ty (ha 1) (HX 1), stF ty (ha 2) (HX 2), stF ty (ha 3) (HX 3), stF ty (ha 4) (HX 4), stF ty (ha 5) (HX 5), stF ty (ha 6) (HX 6), stF ty (ha 7) (HX 7), stB a S, lnB ty a S, quB ty a S, weB a S, miB ty a M]) ⟨hx, hb, hml, hown, hts⟩ w (c_X6_copyFrom l D ty (ha 0) a ((HX 0).1) ((HX 0).2) S M hdr) ⟨va_cnB 1 hts gX1_keep_X6_copyFrom_n22 rfl rfl rfl (w.2.2.2.2.2 _ (List.mem_of_getElem? (i := 50) rfl)) (hts _ (List.mem_of_getElem? (i := 9) rfl)) hdN_X6_copyFrom ⟨Nat.le_of_ble_eq_true rfl, Nat.le_of_ble_eq_true rfl⟩, (hts _ (List.mem_of_getElem? (i := 8) rfl)), (hts _ (List.mem_of_getElem? (i := 10) rfl))⟩ [1, 2, 3, 4, 5, 13, 14, 15, 16, 17, 0, 6, 7, 8, 9, 10, 11, 12] (nB := 18) (by decide) rfl rfl rfl rfl 1 rfl rfl (ci := 10) rfl rfl rfl hl.1 rfl (Nat.le_of_ble_eq_true rfl) dX1_keep_10 ⟨(Nat.zero_le _), (Nat.zero_le _)⟩ (fun H locs w => ?_)
    have w := w.flat (Bs' := [hiB ty h ha sz (nI 0), stF ty (ha 0) (S, M), stF ty (ha 1) (HX 1), stF ty (ha 2) (HX 2), stF ty (ha 3) (HX 3), stF ty (ha 4) (HX 4), stF ty (ha 5) (HX 5), stF ty (ha 6) (HX 6), stF ty (ha 7) (HX 7), stB a S, lnB ty a S, quB ty a S, weB a S, miB ty a M]) (stF_flat ty (ha 0) (S, M) [hiB ty h ha sz (nI 0)] [stF ty (ha 1) (HX 1), stF ty (ha 2) (HX 2), stF ty (ha 3) (HX 3), stF ty (ha 4) (HX 4), stF ty (ha 5) (HX 5), stF ty (ha 6) (HX 6), stF ty (ha 7) (HX 7), stB a S, lnB ty a S, quB ty a S, weB a S, miB ty a M]).symm
    refine lv_aload_n hx hb dX1_keep_13 rfl (lv_at hl 0 rfl) ?_
    refine lv_aload_n hx hb dX1_keep_14 rfl (lv_at hl 0 rfl) ?_
    refine r_get (v' := .int (nI 0)) hx hb hts in_X1_keep_X1 hown w 0 0 rfl rfl (ci := 5) rfl 1 (by decide) (hts _ (List.mem_of_getElem? (i := 2) rfl)) rfl rfl rfl dX1_keep_15 ?_
    refine lv_iconst (v := 1) hx hb dX1_keep_18 (by decide) ?_
    refine lv_iadd hx hb dX1_keep_19 ?_
    refine r_eq (y := (nI (0 + 1))) (nI_add 0 1) ?_
    refine lv_bipush (v := 8) hx hb dX1_keep_20 (by decide) ?_
    refine lv_irem hx hb dX1_keep_22 (by decide) ?_
    refine r_eq (y := (nI 1)) (by decide) ?_
    refine r_put hx hb hts in_X1_keep_X1 tyX1 tyX1_ok nmX1 hown w 0 0 rfl rfl (ci := 5) rfl 1 (by decide) (hts _ (List.mem_of_getElem? (i := 2) rfl)) rfl rfl (ty := .int) (by decide +kernel) rfl rfl (Nat.le_of_ble_eq_true rfl) (hiB ty h ha sz (nI 1)) rfl [hiB ty h ha sz (nI 1), stF ty (ha 0) (S, M), stF ty (ha 1) (HX 1), stF ty (ha 2) (HX 2), stF ty (ha 3) (HX 3), stF ty (ha 4) (HX 4), stF ty (ha 5) (HX 5), stF ty (ha 6) (HX 6), stF ty (ha 7) (HX 7), stB a S, lnB ty a S, quB ty a S, weB a S, miB ty a M] rfl dX1_keep_23 (fun H locs w => ?_)
    refine lv_aload_n hx hb dX1_keep_26 rfl (lv_at hl 0 rfl) ?_
    refine lv_bipush (v := 8) hx hb dX1_keep_27 (by decide) ?_
    refine lv_aload_n hx hb dX1_keep_29 rfl (lv_at hl 0 rfl) ?_
    refine r_get (v' := .int sz) hx hb hts in_X1_keep_X1 hown w 0 0 rfl rfl (ci := 5) rfl 0 (by decide) (hts _ (List.mem_of_getElem? (i := 3) rfl)) rfl rfl rfl dX1_keep_30 ?_
    refine lv_iconst (v := 1) hx hb dX1_keep_33 (by decide) ?_
    refine lv_iadd hx hb dX1_keep_34 ?_
    refine va_mmin hx hb (hml.trans hl.1.symm) hown (hts _ (List.mem_of_getElem? (i := 4) rfl)) (hts _ (List.mem_of_getElem? (i := 5) rfl)) (hts _ (List.mem_of_getElem? (i := 6) rfl)) (hts _ (List.mem_of_getElem? (i := 7) rfl)) (Nat.le_of_ble_eq_true rfl) (Nat.le_of_ble_eq_true rfl) (Nat.zero_le _) (Nat.zero_le _) dX1_keep_35 ?_
    refine r_eq (y := (jmin 8 (sz + 1))) rfl ?_
    refine r_put hx hb hts in_X1_keep_X1 tyX1 tyX1_ok nmX1 hown w 0 0 rfl rfl (ci := 5) rfl 0 (by decide) (hts _ (List.mem_of_getElem? (i := 3) rfl)) rfl rfl (ty := .int) (by decide +kernel) rfl rfl (Nat.le_of_ble_eq_true rfl) (hiB ty h ha (jmin 8 (sz + 1)) (nI 1)) rfl [hiB ty h ha (jmin 8 (sz + 1)) (nI 1), stF ty (ha 0) (S, M), stF ty (ha 1) (HX 1), stF ty (ha 2) (HX 2), stF ty (ha 3) (HX 3), stF ty (ha 4) (HX 4), stF ty (ha 5) (HX 5), stF ty (ha 6) (HX 6), stF ty (ha 7) (HX 7), stB a S, lnB ty a S, quB ty a S, weB a S, miB ty a M] rfl dX1_keep_38 (fun H locs w => ?_)
    exact e_v hx hb hr hlocks w dX1_keep_41 (Nat.le_refl _) (Nat.le_refl _)
  · refine lv_aload_n hx hb dX1_keep_0 rfl (lv_at hl 0 rfl) ?_
    refine r_get (v' := .ref (h 1)) hx hb hts in_X1_keep_X1 hown w 0 0 rfl rfl (ci := 5) rfl 2 (by decide) (hts _ (List.mem_of_getElem? (i := 1) rfl)) rfl rfl rfl dX1_keep_1 ?_
    refine lv_aload_n hx hb dX1_keep_4 rfl (lv_at hl 0 rfl) ?_
    refine r_get (v' := .int (nI 1)) hx hb hts in_X1_keep_X1 hown w 0 0 rfl rfl (ci := 5) rfl 1 (by decide) (hts _ (List.mem_of_getElem? (i := 2) rfl)) rfl rfl rfl dX1_keep_5 ?_
    refine r_aald (y := (ha 1 0)) hx hb w 0 1 rfl (ty := .object "PumpParliament$State") rfl rfl 2 rfl 1 (by omega) (Nat.le_of_ble_eq_true rfl) rfl (if_pos (by omega)) dX1_keep_8 ?_
    have w := w.flat (Bs' := [hiB ty h ha sz (nI 1), stF ty (ha 0) (HX 0), stB (ha 1) ((HX 1).1), lnB ty (ha 1) ((HX 1).1), quB ty (ha 1) ((HX 1).1), weB (ha 1) ((HX 1).1), miB ty (ha 1) ((HX 1).2), stF ty (ha 2) (HX 2), stF ty (ha 3) (HX 3), stF ty (ha 4) (HX 4), stF ty (ha 5) (HX 5), stF ty (ha 6) (HX 6), stF ty (ha 7) (HX 7), stB a S, lnB ty a S, quB ty a S, weB a S, miB ty a M]) (stF_flat ty (ha 1) (HX 1) [hiB ty h ha sz (nI 1), stF ty (ha 0) (HX 0)] [stF ty (ha 2) (HX 2), stF ty (ha 3) (HX 3), stF ty (ha 4) (HX 4), stF ty (ha 5) (HX 5), stF ty (ha 6) (HX 6), stF ty (ha 7) (HX 7), stB a S, lnB ty a S, quB ty a S, weB a S, miB ty a M])
    refine lv_aload_n hx hb dX1_keep_9 rfl (lv_at hl 1 rfl) ?_
    refine k_vVN (As := [.ref (a 0)]) (rest := []) (Rs := [hiB ty h ha sz (nI 1), stF ty (ha 0) (HX 0), stF ty (ha 2) (HX 2), stF ty (ha 3) (HX 3), stF ty (ha 4) (HX 4), stF ty (ha 5) (HX 5), stF ty (ha 6) (HX 6), stF ty (ha 7) (HX 7)]) (Bs' := [hiB ty h ha sz (nI 1), stF ty (ha 0) (HX 0), stB (ha 1) S, lnB ty (ha 1) S, quB ty (ha 1) S, weB (ha 1) S, miB ty (ha 1) M, stF ty (ha 2) (HX 2), stF ty (ha 3) (HX 3), stF ty (ha 4) (HX 4), stF ty (ha 5) (HX 5), stF ty (ha 6) (HX 6), stF ty (ha 7) (HX 7), stB a S, lnB ty a S, quB ty a S, weB a S, miB ty a M]) ⟨hx, hb, hml, hown, hts⟩ w (c_X6_copyFrom l D ty (ha 1) a ((HX 1).1) ((HX 1).2) S M hdr) ⟨va_cnB 1 hts gX1_keep_X6_copyFrom_n22 rfl rfl rfl (w.2.2.2.2.2 _ (List.mem_of_getElem? (i := 50) rfl)) (hts _ (List.mem_of_getElem? (i := 9) rfl)) hdN_X6_copyFrom ⟨Nat.le_of_ble_eq_true rfl, Nat.le_of_ble_eq_true rfl⟩, (hts _ (List.mem_of_getElem? (i := 8) rfl)), (hts _ (List.mem_of_getElem? (i := 10) rfl))⟩ [2, 3, 4, 5, 6, 13, 14, 15, 16, 17, 0, 1, 7, 8, 9, 10, 11, 12] (nB := 18) (by decide) rfl rfl rfl rfl 2 rfl rfl (ci := 10) rfl rfl rfl hl.1 rfl (Nat.le_of_ble_eq_true rfl) dX1_keep_10 ⟨(Nat.zero_le _), (Nat.zero_le _)⟩ (fun H locs w => ?_)
    have w := w.flat (Bs' := [hiB ty h ha sz (nI 1), stF ty (ha 0) (HX 0), stF ty (ha 1) (S, M), stF ty (ha 2) (HX 2), stF ty (ha 3) (HX 3), stF ty (ha 4) (HX 4), stF ty (ha 5) (HX 5), stF ty (ha 6) (HX 6), stF ty (ha 7) (HX 7), stB a S, lnB ty a S, quB ty a S, weB a S, miB ty a M]) (stF_flat ty (ha 1) (S, M) [hiB ty h ha sz (nI 1), stF ty (ha 0) (HX 0)] [stF ty (ha 2) (HX 2), stF ty (ha 3) (HX 3), stF ty (ha 4) (HX 4), stF ty (ha 5) (HX 5), stF ty (ha 6) (HX 6), stF ty (ha 7) (HX 7), stB a S, lnB ty a S, quB ty a S, weB a S, miB ty a M]).symm
    refine lv_aload_n hx hb dX1_keep_13 rfl (lv_at hl 0 rfl) ?_
    refine lv_aload_n hx hb dX1_keep_14 rfl (lv_at hl 0 rfl) ?_
    refine r_get (v' := .int (nI 1)) hx hb hts in_X1_keep_X1 hown w 0 0 rfl rfl (ci := 5) rfl 1 (by decide) (hts _ (List.mem_of_getElem? (i := 2) rfl)) rfl rfl rfl dX1_keep_15 ?_
    refine lv_iconst (v := 1) hx hb dX1_keep_18 (by decide) ?_
    refine lv_iadd hx hb dX1_keep_19 ?_
    refine r_eq (y := (nI (1 + 1))) (nI_add 1 1) ?_
    refine lv_bipush (v := 8) hx hb dX1_keep_20 (by decide) ?_
    refine lv_irem hx hb dX1_keep_22 (by decide) ?_
    refine r_eq (y := (nI 2)) (by decide) ?_
    refine r_put hx hb hts in_X1_keep_X1 tyX1 tyX1_ok nmX1 hown w 0 0 rfl rfl (ci := 5) rfl 1 (by decide) (hts _ (List.mem_of_getElem? (i := 2) rfl)) rfl rfl (ty := .int) (by decide +kernel) rfl rfl (Nat.le_of_ble_eq_true rfl) (hiB ty h ha sz (nI 2)) rfl [hiB ty h ha sz (nI 2), stF ty (ha 0) (HX 0), stF ty (ha 1) (S, M), stF ty (ha 2) (HX 2), stF ty (ha 3) (HX 3), stF ty (ha 4) (HX 4), stF ty (ha 5) (HX 5), stF ty (ha 6) (HX 6), stF ty (ha 7) (HX 7), stB a S, lnB ty a S, quB ty a S, weB a S, miB ty a M] rfl dX1_keep_23 (fun H locs w => ?_)
    refine lv_aload_n hx hb dX1_keep_26 rfl (lv_at hl 0 rfl) ?_
    refine lv_bipush (v := 8) hx hb dX1_keep_27 (by decide) ?_
    refine lv_aload_n hx hb dX1_keep_29 rfl (lv_at hl 0 rfl) ?_
    refine r_get (v' := .int sz) hx hb hts in_X1_keep_X1 hown w 0 0 rfl rfl (ci := 5) rfl 0 (by decide) (hts _ (List.mem_of_getElem? (i := 3) rfl)) rfl rfl rfl dX1_keep_30 ?_
    refine lv_iconst (v := 1) hx hb dX1_keep_33 (by decide) ?_
    refine lv_iadd hx hb dX1_keep_34 ?_
    refine va_mmin hx hb (hml.trans hl.1.symm) hown (hts _ (List.mem_of_getElem? (i := 4) rfl)) (hts _ (List.mem_of_getElem? (i := 5) rfl)) (hts _ (List.mem_of_getElem? (i := 6) rfl)) (hts _ (List.mem_of_getElem? (i := 7) rfl)) (Nat.le_of_ble_eq_true rfl) (Nat.le_of_ble_eq_true rfl) (Nat.zero_le _) (Nat.zero_le _) dX1_keep_35 ?_
    refine r_eq (y := (jmin 8 (sz + 1))) rfl ?_
    refine r_put hx hb hts in_X1_keep_X1 tyX1 tyX1_ok nmX1 hown w 0 0 rfl rfl (ci := 5) rfl 0 (by decide) (hts _ (List.mem_of_getElem? (i := 3) rfl)) rfl rfl (ty := .int) (by decide +kernel) rfl rfl (Nat.le_of_ble_eq_true rfl) (hiB ty h ha (jmin 8 (sz + 1)) (nI 2)) rfl [hiB ty h ha (jmin 8 (sz + 1)) (nI 2), stF ty (ha 0) (HX 0), stF ty (ha 1) (S, M), stF ty (ha 2) (HX 2), stF ty (ha 3) (HX 3), stF ty (ha 4) (HX 4), stF ty (ha 5) (HX 5), stF ty (ha 6) (HX 6), stF ty (ha 7) (HX 7), stB a S, lnB ty a S, quB ty a S, weB a S, miB ty a M] rfl dX1_keep_38 (fun H locs w => ?_)
    exact e_v hx hb hr hlocks w dX1_keep_41 (Nat.le_refl _) (Nat.le_refl _)
  · refine lv_aload_n hx hb dX1_keep_0 rfl (lv_at hl 0 rfl) ?_
    refine r_get (v' := .ref (h 1)) hx hb hts in_X1_keep_X1 hown w 0 0 rfl rfl (ci := 5) rfl 2 (by decide) (hts _ (List.mem_of_getElem? (i := 1) rfl)) rfl rfl rfl dX1_keep_1 ?_
    refine lv_aload_n hx hb dX1_keep_4 rfl (lv_at hl 0 rfl) ?_
    refine r_get (v' := .int (nI 2)) hx hb hts in_X1_keep_X1 hown w 0 0 rfl rfl (ci := 5) rfl 1 (by decide) (hts _ (List.mem_of_getElem? (i := 2) rfl)) rfl rfl rfl dX1_keep_5 ?_
    refine r_aald (y := (ha 2 0)) hx hb w 0 1 rfl (ty := .object "PumpParliament$State") rfl rfl 2 rfl 2 (by omega) (Nat.le_of_ble_eq_true rfl) rfl (if_pos (by omega)) dX1_keep_8 ?_
    have w := w.flat (Bs' := [hiB ty h ha sz (nI 2), stF ty (ha 0) (HX 0), stF ty (ha 1) (HX 1), stB (ha 2) ((HX 2).1), lnB ty (ha 2) ((HX 2).1), quB ty (ha 2) ((HX 2).1), weB (ha 2) ((HX 2).1), miB ty (ha 2) ((HX 2).2), stF ty (ha 3) (HX 3), stF ty (ha 4) (HX 4), stF ty (ha 5) (HX 5), stF ty (ha 6) (HX 6), stF ty (ha 7) (HX 7), stB a S, lnB ty a S, quB ty a S, weB a S, miB ty a M]) (stF_flat ty (ha 2) (HX 2) [hiB ty h ha sz (nI 2), stF ty (ha 0) (HX 0), stF ty (ha 1) (HX 1)] [stF ty (ha 3) (HX 3), stF ty (ha 4) (HX 4), stF ty (ha 5) (HX 5), stF ty (ha 6) (HX 6), stF ty (ha 7) (HX 7), stB a S, lnB ty a S, quB ty a S, weB a S, miB ty a M])
    refine lv_aload_n hx hb dX1_keep_9 rfl (lv_at hl 1 rfl) ?_
    refine k_vVN (As := [.ref (a 0)]) (rest := []) (Rs := [hiB ty h ha sz (nI 2), stF ty (ha 0) (HX 0), stF ty (ha 1) (HX 1), stF ty (ha 3) (HX 3), stF ty (ha 4) (HX 4), stF ty (ha 5) (HX 5), stF ty (ha 6) (HX 6), stF ty (ha 7) (HX 7)]) (Bs' := [hiB ty h ha sz (nI 2), stF ty (ha 0) (HX 0), stF ty (ha 1) (HX 1), stB (ha 2) S, lnB ty (ha 2) S, quB ty (ha 2) S, weB (ha 2) S, miB ty (ha 2) M, stF ty (ha 3) (HX 3), stF ty (ha 4) (HX 4), stF ty (ha 5) (HX 5), stF ty (ha 6) (HX 6), stF ty (ha 7) (HX 7), stB a S, lnB ty a S, quB ty a S, weB a S, miB ty a M]) ⟨hx, hb, hml, hown, hts⟩ w (c_X6_copyFrom l D ty (ha 2) a ((HX 2).1) ((HX 2).2) S M hdr) ⟨va_cnB 1 hts gX1_keep_X6_copyFrom_n22 rfl rfl rfl (w.2.2.2.2.2 _ (List.mem_of_getElem? (i := 50) rfl)) (hts _ (List.mem_of_getElem? (i := 9) rfl)) hdN_X6_copyFrom ⟨Nat.le_of_ble_eq_true rfl, Nat.le_of_ble_eq_true rfl⟩, (hts _ (List.mem_of_getElem? (i := 8) rfl)), (hts _ (List.mem_of_getElem? (i := 10) rfl))⟩ [3, 4, 5, 6, 7, 13, 14, 15, 16, 17, 0, 1, 2, 8, 9, 10, 11, 12] (nB := 18) (by decide) rfl rfl rfl rfl 3 rfl rfl (ci := 10) rfl rfl rfl hl.1 rfl (Nat.le_of_ble_eq_true rfl) dX1_keep_10 ⟨(Nat.zero_le _), (Nat.zero_le _)⟩ (fun H locs w => ?_)
    have w := w.flat (Bs' := [hiB ty h ha sz (nI 2), stF ty (ha 0) (HX 0), stF ty (ha 1) (HX 1), stF ty (ha 2) (S, M), stF ty (ha 3) (HX 3), stF ty (ha 4) (HX 4), stF ty (ha 5) (HX 5), stF ty (ha 6) (HX 6), stF ty (ha 7) (HX 7), stB a S, lnB ty a S, quB ty a S, weB a S, miB ty a M]) (stF_flat ty (ha 2) (S, M) [hiB ty h ha sz (nI 2), stF ty (ha 0) (HX 0), stF ty (ha 1) (HX 1)] [stF ty (ha 3) (HX 3), stF ty (ha 4) (HX 4), stF ty (ha 5) (HX 5), stF ty (ha 6) (HX 6), stF ty (ha 7) (HX 7), stB a S, lnB ty a S, quB ty a S, weB a S, miB ty a M]).symm
    refine lv_aload_n hx hb dX1_keep_13 rfl (lv_at hl 0 rfl) ?_
    refine lv_aload_n hx hb dX1_keep_14 rfl (lv_at hl 0 rfl) ?_
    refine r_get (v' := .int (nI 2)) hx hb hts in_X1_keep_X1 hown w 0 0 rfl rfl (ci := 5) rfl 1 (by decide) (hts _ (List.mem_of_getElem? (i := 2) rfl)) rfl rfl rfl dX1_keep_15 ?_
    refine lv_iconst (v := 1) hx hb dX1_keep_18 (by decide) ?_
    refine lv_iadd hx hb dX1_keep_19 ?_
    refine r_eq (y := (nI (2 + 1))) (nI_add 2 1) ?_
    refine lv_bipush (v := 8) hx hb dX1_keep_20 (by decide) ?_
    refine lv_irem hx hb dX1_keep_22 (by decide) ?_
    refine r_eq (y := (nI 3)) (by decide) ?_
    refine r_put hx hb hts in_X1_keep_X1 tyX1 tyX1_ok nmX1 hown w 0 0 rfl rfl (ci := 5) rfl 1 (by decide) (hts _ (List.mem_of_getElem? (i := 2) rfl)) rfl rfl (ty := .int) (by decide +kernel) rfl rfl (Nat.le_of_ble_eq_true rfl) (hiB ty h ha sz (nI 3)) rfl [hiB ty h ha sz (nI 3), stF ty (ha 0) (HX 0), stF ty (ha 1) (HX 1), stF ty (ha 2) (S, M), stF ty (ha 3) (HX 3), stF ty (ha 4) (HX 4), stF ty (ha 5) (HX 5), stF ty (ha 6) (HX 6), stF ty (ha 7) (HX 7), stB a S, lnB ty a S, quB ty a S, weB a S, miB ty a M] rfl dX1_keep_23 (fun H locs w => ?_)
    refine lv_aload_n hx hb dX1_keep_26 rfl (lv_at hl 0 rfl) ?_
    refine lv_bipush (v := 8) hx hb dX1_keep_27 (by decide) ?_
    refine lv_aload_n hx hb dX1_keep_29 rfl (lv_at hl 0 rfl) ?_
    refine r_get (v' := .int sz) hx hb hts in_X1_keep_X1 hown w 0 0 rfl rfl (ci := 5) rfl 0 (by decide) (hts _ (List.mem_of_getElem? (i := 3) rfl)) rfl rfl rfl dX1_keep_30 ?_
    refine lv_iconst (v := 1) hx hb dX1_keep_33 (by decide) ?_
    refine lv_iadd hx hb dX1_keep_34 ?_
    refine va_mmin hx hb (hml.trans hl.1.symm) hown (hts _ (List.mem_of_getElem? (i := 4) rfl)) (hts _ (List.mem_of_getElem? (i := 5) rfl)) (hts _ (List.mem_of_getElem? (i := 6) rfl)) (hts _ (List.mem_of_getElem? (i := 7) rfl)) (Nat.le_of_ble_eq_true rfl) (Nat.le_of_ble_eq_true rfl) (Nat.zero_le _) (Nat.zero_le _) dX1_keep_35 ?_
    refine r_eq (y := (jmin 8 (sz + 1))) rfl ?_
    refine r_put hx hb hts in_X1_keep_X1 tyX1 tyX1_ok nmX1 hown w 0 0 rfl rfl (ci := 5) rfl 0 (by decide) (hts _ (List.mem_of_getElem? (i := 3) rfl)) rfl rfl (ty := .int) (by decide +kernel) rfl rfl (Nat.le_of_ble_eq_true rfl) (hiB ty h ha (jmin 8 (sz + 1)) (nI 3)) rfl [hiB ty h ha (jmin 8 (sz + 1)) (nI 3), stF ty (ha 0) (HX 0), stF ty (ha 1) (HX 1), stF ty (ha 2) (S, M), stF ty (ha 3) (HX 3), stF ty (ha 4) (HX 4), stF ty (ha 5) (HX 5), stF ty (ha 6) (HX 6), stF ty (ha 7) (HX 7), stB a S, lnB ty a S, quB ty a S, weB a S, miB ty a M] rfl dX1_keep_38 (fun H locs w => ?_)
    exact e_v hx hb hr hlocks w dX1_keep_41 (Nat.le_refl _) (Nat.le_refl _)
  · refine lv_aload_n hx hb dX1_keep_0 rfl (lv_at hl 0 rfl) ?_
    refine r_get (v' := .ref (h 1)) hx hb hts in_X1_keep_X1 hown w 0 0 rfl rfl (ci := 5) rfl 2 (by decide) (hts _ (List.mem_of_getElem? (i := 1) rfl)) rfl rfl rfl dX1_keep_1 ?_
    refine lv_aload_n hx hb dX1_keep_4 rfl (lv_at hl 0 rfl) ?_
    refine r_get (v' := .int (nI 3)) hx hb hts in_X1_keep_X1 hown w 0 0 rfl rfl (ci := 5) rfl 1 (by decide) (hts _ (List.mem_of_getElem? (i := 2) rfl)) rfl rfl rfl dX1_keep_5 ?_
    refine r_aald (y := (ha 3 0)) hx hb w 0 1 rfl (ty := .object "PumpParliament$State") rfl rfl 2 rfl 3 (by omega) (Nat.le_of_ble_eq_true rfl) rfl (if_pos (by omega)) dX1_keep_8 ?_
    have w := w.flat (Bs' := [hiB ty h ha sz (nI 3), stF ty (ha 0) (HX 0), stF ty (ha 1) (HX 1), stF ty (ha 2) (HX 2), stB (ha 3) ((HX 3).1), lnB ty (ha 3) ((HX 3).1), quB ty (ha 3) ((HX 3).1), weB (ha 3) ((HX 3).1), miB ty (ha 3) ((HX 3).2), stF ty (ha 4) (HX 4), stF ty (ha 5) (HX 5), stF ty (ha 6) (HX 6), stF ty (ha 7) (HX 7), stB a S, lnB ty a S, quB ty a S, weB a S, miB ty a M]) (stF_flat ty (ha 3) (HX 3) [hiB ty h ha sz (nI 3), stF ty (ha 0) (HX 0), stF ty (ha 1) (HX 1), stF ty (ha 2) (HX 2)] [stF ty (ha 4) (HX 4), stF ty (ha 5) (HX 5), stF ty (ha 6) (HX 6), stF ty (ha 7) (HX 7), stB a S, lnB ty a S, quB ty a S, weB a S, miB ty a M])
    refine lv_aload_n hx hb dX1_keep_9 rfl (lv_at hl 1 rfl) ?_
    refine k_vVN (As := [.ref (a 0)]) (rest := []) (Rs := [hiB ty h ha sz (nI 3), stF ty (ha 0) (HX 0), stF ty (ha 1) (HX 1), stF ty (ha 2) (HX 2), stF ty (ha 4) (HX 4), stF ty (ha 5) (HX 5), stF ty (ha 6) (HX 6), stF ty (ha 7) (HX 7)]) (Bs' := [hiB ty h ha sz (nI 3), stF ty (ha 0) (HX 0), stF ty (ha 1) (HX 1), stF ty (ha 2) (HX 2), stB (ha 3) S, lnB ty (ha 3) S, quB ty (ha 3) S, weB (ha 3) S, miB ty (ha 3) M, stF ty (ha 4) (HX 4), stF ty (ha 5) (HX 5), stF ty (ha 6) (HX 6), stF ty (ha 7) (HX 7), stB a S, lnB ty a S, quB ty a S, weB a S, miB ty a M]) ⟨hx, hb, hml, hown, hts⟩ w (c_X6_copyFrom l D ty (ha 3) a ((HX 3).1) ((HX 3).2) S M hdr) ⟨va_cnB 1 hts gX1_keep_X6_copyFrom_n22 rfl rfl rfl (w.2.2.2.2.2 _ (List.mem_of_getElem? (i := 50) rfl)) (hts _ (List.mem_of_getElem? (i := 9) rfl)) hdN_X6_copyFrom ⟨Nat.le_of_ble_eq_true rfl, Nat.le_of_ble_eq_true rfl⟩, (hts _ (List.mem_of_getElem? (i := 8) rfl)), (hts _ (List.mem_of_getElem? (i := 10) rfl))⟩ [4, 5, 6, 7, 8, 13, 14, 15, 16, 17, 0, 1, 2, 3, 9, 10, 11, 12] (nB := 18) (by decide) rfl rfl rfl rfl 4 rfl rfl (ci := 10) rfl rfl rfl hl.1 rfl (Nat.le_of_ble_eq_true rfl) dX1_keep_10 ⟨(Nat.zero_le _), (Nat.zero_le _)⟩ (fun H locs w => ?_)
    have w := w.flat (Bs' := [hiB ty h ha sz (nI 3), stF ty (ha 0) (HX 0), stF ty (ha 1) (HX 1), stF ty (ha 2) (HX 2), stF ty (ha 3) (S, M), stF ty (ha 4) (HX 4), stF ty (ha 5) (HX 5), stF ty (ha 6) (HX 6), stF ty (ha 7) (HX 7), stB a S, lnB ty a S, quB ty a S, weB a S, miB ty a M]) (stF_flat ty (ha 3) (S, M) [hiB ty h ha sz (nI 3), stF ty (ha 0) (HX 0), stF ty (ha 1) (HX 1), stF ty (ha 2) (HX 2)] [stF ty (ha 4) (HX 4), stF ty (ha 5) (HX 5), stF ty (ha 6) (HX 6), stF ty (ha 7) (HX 7), stB a S, lnB ty a S, quB ty a S, weB a S, miB ty a M]).symm
    refine lv_aload_n hx hb dX1_keep_13 rfl (lv_at hl 0 rfl) ?_
    refine lv_aload_n hx hb dX1_keep_14 rfl (lv_at hl 0 rfl) ?_
    refine r_get (v' := .int (nI 3)) hx hb hts in_X1_keep_X1 hown w 0 0 rfl rfl (ci := 5) rfl 1 (by decide) (hts _ (List.mem_of_getElem? (i := 2) rfl)) rfl rfl rfl dX1_keep_15 ?_
    refine lv_iconst (v := 1) hx hb dX1_keep_18 (by decide) ?_
    refine lv_iadd hx hb dX1_keep_19 ?_
    refine r_eq (y := (nI (3 + 1))) (nI_add 3 1) ?_
    refine lv_bipush (v := 8) hx hb dX1_keep_20 (by decide) ?_
    refine lv_irem hx hb dX1_keep_22 (by decide) ?_
    refine r_eq (y := (nI 4)) (by decide) ?_
    refine r_put hx hb hts in_X1_keep_X1 tyX1 tyX1_ok nmX1 hown w 0 0 rfl rfl (ci := 5) rfl 1 (by decide) (hts _ (List.mem_of_getElem? (i := 2) rfl)) rfl rfl (ty := .int) (by decide +kernel) rfl rfl (Nat.le_of_ble_eq_true rfl) (hiB ty h ha sz (nI 4)) rfl [hiB ty h ha sz (nI 4), stF ty (ha 0) (HX 0), stF ty (ha 1) (HX 1), stF ty (ha 2) (HX 2), stF ty (ha 3) (S, M), stF ty (ha 4) (HX 4), stF ty (ha 5) (HX 5), stF ty (ha 6) (HX 6), stF ty (ha 7) (HX 7), stB a S, lnB ty a S, quB ty a S, weB a S, miB ty a M] rfl dX1_keep_23 (fun H locs w => ?_)
    refine lv_aload_n hx hb dX1_keep_26 rfl (lv_at hl 0 rfl) ?_
    refine lv_bipush (v := 8) hx hb dX1_keep_27 (by decide) ?_
    refine lv_aload_n hx hb dX1_keep_29 rfl (lv_at hl 0 rfl) ?_
    refine r_get (v' := .int sz) hx hb hts in_X1_keep_X1 hown w 0 0 rfl rfl (ci := 5) rfl 0 (by decide) (hts _ (List.mem_of_getElem? (i := 3) rfl)) rfl rfl rfl dX1_keep_30 ?_
    refine lv_iconst (v := 1) hx hb dX1_keep_33 (by decide) ?_
    refine lv_iadd hx hb dX1_keep_34 ?_
    refine va_mmin hx hb (hml.trans hl.1.symm) hown (hts _ (List.mem_of_getElem? (i := 4) rfl)) (hts _ (List.mem_of_getElem? (i := 5) rfl)) (hts _ (List.mem_of_getElem? (i := 6) rfl)) (hts _ (List.mem_of_getElem? (i := 7) rfl)) (Nat.le_of_ble_eq_true rfl) (Nat.le_of_ble_eq_true rfl) (Nat.zero_le _) (Nat.zero_le _) dX1_keep_35 ?_
    refine r_eq (y := (jmin 8 (sz + 1))) rfl ?_
    refine r_put hx hb hts in_X1_keep_X1 tyX1 tyX1_ok nmX1 hown w 0 0 rfl rfl (ci := 5) rfl 0 (by decide) (hts _ (List.mem_of_getElem? (i := 3) rfl)) rfl rfl (ty := .int) (by decide +kernel) rfl rfl (Nat.le_of_ble_eq_true rfl) (hiB ty h ha (jmin 8 (sz + 1)) (nI 4)) rfl [hiB ty h ha (jmin 8 (sz + 1)) (nI 4), stF ty (ha 0) (HX 0), stF ty (ha 1) (HX 1), stF ty (ha 2) (HX 2), stF ty (ha 3) (S, M), stF ty (ha 4) (HX 4), stF ty (ha 5) (HX 5), stF ty (ha 6) (HX 6), stF ty (ha 7) (HX 7), stB a S, lnB ty a S, quB ty a S, weB a S, miB ty a M] rfl dX1_keep_38 (fun H locs w => ?_)
    exact e_v hx hb hr hlocks w dX1_keep_41 (Nat.le_refl _) (Nat.le_refl _)
  · refine lv_aload_n hx hb dX1_keep_0 rfl (lv_at hl 0 rfl) ?_
    refine r_get (v' := .ref (h 1)) hx hb hts in_X1_keep_X1 hown w 0 0 rfl rfl (ci := 5) rfl 2 (by decide) (hts _ (List.mem_of_getElem? (i := 1) rfl)) rfl rfl rfl dX1_keep_1 ?_
    refine lv_aload_n hx hb dX1_keep_4 rfl (lv_at hl 0 rfl) ?_
    refine r_get (v' := .int (nI 4)) hx hb hts in_X1_keep_X1 hown w 0 0 rfl rfl (ci := 5) rfl 1 (by decide) (hts _ (List.mem_of_getElem? (i := 2) rfl)) rfl rfl rfl dX1_keep_5 ?_
    refine r_aald (y := (ha 4 0)) hx hb w 0 1 rfl (ty := .object "PumpParliament$State") rfl rfl 2 rfl 4 (by omega) (Nat.le_of_ble_eq_true rfl) rfl (if_pos (by omega)) dX1_keep_8 ?_
    have w := w.flat (Bs' := [hiB ty h ha sz (nI 4), stF ty (ha 0) (HX 0), stF ty (ha 1) (HX 1), stF ty (ha 2) (HX 2), stF ty (ha 3) (HX 3), stB (ha 4) ((HX 4).1), lnB ty (ha 4) ((HX 4).1), quB ty (ha 4) ((HX 4).1), weB (ha 4) ((HX 4).1), miB ty (ha 4) ((HX 4).2), stF ty (ha 5) (HX 5), stF ty (ha 6) (HX 6), stF ty (ha 7) (HX 7), stB a S, lnB ty a S, quB ty a S, weB a S, miB ty a M]) (stF_flat ty (ha 4) (HX 4) [hiB ty h ha sz (nI 4), stF ty (ha 0) (HX 0), stF ty (ha 1) (HX 1), stF ty (ha 2) (HX 2), stF ty (ha 3) (HX 3)] [stF ty (ha 5) (HX 5), stF ty (ha 6) (HX 6), stF ty (ha 7) (HX 7), stB a S, lnB ty a S, quB ty a S, weB a S, miB ty a M])
    refine lv_aload_n hx hb dX1_keep_9 rfl (lv_at hl 1 rfl) ?_
    refine k_vVN (As := [.ref (a 0)]) (rest := []) (Rs := [hiB ty h ha sz (nI 4), stF ty (ha 0) (HX 0), stF ty (ha 1) (HX 1), stF ty (ha 2) (HX 2), stF ty (ha 3) (HX 3), stF ty (ha 5) (HX 5), stF ty (ha 6) (HX 6), stF ty (ha 7) (HX 7)]) (Bs' := [hiB ty h ha sz (nI 4), stF ty (ha 0) (HX 0), stF ty (ha 1) (HX 1), stF ty (ha 2) (HX 2), stF ty (ha 3) (HX 3), stB (ha 4) S, lnB ty (ha 4) S, quB ty (ha 4) S, weB (ha 4) S, miB ty (ha 4) M, stF ty (ha 5) (HX 5), stF ty (ha 6) (HX 6), stF ty (ha 7) (HX 7), stB a S, lnB ty a S, quB ty a S, weB a S, miB ty a M]) ⟨hx, hb, hml, hown, hts⟩ w (c_X6_copyFrom l D ty (ha 4) a ((HX 4).1) ((HX 4).2) S M hdr) ⟨va_cnB 1 hts gX1_keep_X6_copyFrom_n22 rfl rfl rfl (w.2.2.2.2.2 _ (List.mem_of_getElem? (i := 50) rfl)) (hts _ (List.mem_of_getElem? (i := 9) rfl)) hdN_X6_copyFrom ⟨Nat.le_of_ble_eq_true rfl, Nat.le_of_ble_eq_true rfl⟩, (hts _ (List.mem_of_getElem? (i := 8) rfl)), (hts _ (List.mem_of_getElem? (i := 10) rfl))⟩ [5, 6, 7, 8, 9, 13, 14, 15, 16, 17, 0, 1, 2, 3, 4, 10, 11, 12] (nB := 18) (by decide) rfl rfl rfl rfl 5 rfl rfl (ci := 10) rfl rfl rfl hl.1 rfl (Nat.le_of_ble_eq_true rfl) dX1_keep_10 ⟨(Nat.zero_le _), (Nat.zero_le _)⟩ (fun H locs w => ?_)
    have w := w.flat (Bs' := [hiB ty h ha sz (nI 4), stF ty (ha 0) (HX 0), stF ty (ha 1) (HX 1), stF ty (ha 2) (HX 2), stF ty (ha 3) (HX 3), stF ty (ha 4) (S, M), stF ty (ha 5) (HX 5), stF ty (ha 6) (HX 6), stF ty (ha 7) (HX 7), stB a S, lnB ty a S, quB ty a S, weB a S, miB ty a M]) (stF_flat ty (ha 4) (S, M) [hiB ty h ha sz (nI 4), stF ty (ha 0) (HX 0), stF ty (ha 1) (HX 1), stF ty (ha 2) (HX 2), stF ty (ha 3) (HX 3)] [stF ty (ha 5) (HX 5), stF ty (ha 6) (HX 6), stF ty (ha 7) (HX 7), stB a S, lnB ty a S, quB ty a S, weB a S, miB ty a M]).symm
    refine lv_aload_n hx hb dX1_keep_13 rfl (lv_at hl 0 rfl) ?_
    refine lv_aload_n hx hb dX1_keep_14 rfl (lv_at hl 0 rfl) ?_
    refine r_get (v' := .int (nI 4)) hx hb hts in_X1_keep_X1 hown w 0 0 rfl rfl (ci := 5) rfl 1 (by decide) (hts _ (List.mem_of_getElem? (i := 2) rfl)) rfl rfl rfl dX1_keep_15 ?_
    refine lv_iconst (v := 1) hx hb dX1_keep_18 (by decide) ?_
    refine lv_iadd hx hb dX1_keep_19 ?_
    refine r_eq (y := (nI (4 + 1))) (nI_add 4 1) ?_
    refine lv_bipush (v := 8) hx hb dX1_keep_20 (by decide) ?_
    refine lv_irem hx hb dX1_keep_22 (by decide) ?_
    refine r_eq (y := (nI 5)) (by decide) ?_
    refine r_put hx hb hts in_X1_keep_X1 tyX1 tyX1_ok nmX1 hown w 0 0 rfl rfl (ci := 5) rfl 1 (by decide) (hts _ (List.mem_of_getElem? (i := 2) rfl)) rfl rfl (ty := .int) (by decide +kernel) rfl rfl (Nat.le_of_ble_eq_true rfl) (hiB ty h ha sz (nI 5)) rfl [hiB ty h ha sz (nI 5), stF ty (ha 0) (HX 0), stF ty (ha 1) (HX 1), stF ty (ha 2) (HX 2), stF ty (ha 3) (HX 3), stF ty (ha 4) (S, M), stF ty (ha 5) (HX 5), stF ty (ha 6) (HX 6), stF ty (ha 7) (HX 7), stB a S, lnB ty a S, quB ty a S, weB a S, miB ty a M] rfl dX1_keep_23 (fun H locs w => ?_)
    refine lv_aload_n hx hb dX1_keep_26 rfl (lv_at hl 0 rfl) ?_
    refine lv_bipush (v := 8) hx hb dX1_keep_27 (by decide) ?_
    refine lv_aload_n hx hb dX1_keep_29 rfl (lv_at hl 0 rfl) ?_
    refine r_get (v' := .int sz) hx hb hts in_X1_keep_X1 hown w 0 0 rfl rfl (ci := 5) rfl 0 (by decide) (hts _ (List.mem_of_getElem? (i := 3) rfl)) rfl rfl rfl dX1_keep_30 ?_
    refine lv_iconst (v := 1) hx hb dX1_keep_33 (by decide) ?_
    refine lv_iadd hx hb dX1_keep_34 ?_
    refine va_mmin hx hb (hml.trans hl.1.symm) hown (hts _ (List.mem_of_getElem? (i := 4) rfl)) (hts _ (List.mem_of_getElem? (i := 5) rfl)) (hts _ (List.mem_of_getElem? (i := 6) rfl)) (hts _ (List.mem_of_getElem? (i := 7) rfl)) (Nat.le_of_ble_eq_true rfl) (Nat.le_of_ble_eq_true rfl) (Nat.zero_le _) (Nat.zero_le _) dX1_keep_35 ?_
    refine r_eq (y := (jmin 8 (sz + 1))) rfl ?_
    refine r_put hx hb hts in_X1_keep_X1 tyX1 tyX1_ok nmX1 hown w 0 0 rfl rfl (ci := 5) rfl 0 (by decide) (hts _ (List.mem_of_getElem? (i := 3) rfl)) rfl rfl (ty := .int) (by decide +kernel) rfl rfl (Nat.le_of_ble_eq_true rfl) (hiB ty h ha (jmin 8 (sz + 1)) (nI 5)) rfl [hiB ty h ha (jmin 8 (sz + 1)) (nI 5), stF ty (ha 0) (HX 0), stF ty (ha 1) (HX 1), stF ty (ha 2) (HX 2), stF ty (ha 3) (HX 3), stF ty (ha 4) (S, M), stF ty (ha 5) (HX 5), stF ty (ha 6) (HX 6), stF ty (ha 7) (HX 7), stB a S, lnB ty a S, quB ty a S, weB a S, miB ty a M] rfl dX1_keep_38 (fun H locs w => ?_)
    exact e_v hx hb hr hlocks w dX1_keep_41 (Nat.le_refl _) (Nat.le_refl _)
  · refine lv_aload_n hx hb dX1_keep_0 rfl (lv_at hl 0 rfl) ?_
    refine r_get (v' := .ref (h 1)) hx hb hts in_X1_keep_X1 hown w 0 0 rfl rfl (ci := 5) rfl 2 (by decide) (hts _ (List.mem_of_getElem? (i := 1) rfl)) rfl rfl rfl dX1_keep_1 ?_
    refine lv_aload_n hx hb dX1_keep_4 rfl (lv_at hl 0 rfl) ?_
    refine r_get (v' := .int (nI 5)) hx hb hts in_X1_keep_X1 hown w 0 0 rfl rfl (ci := 5) rfl 1 (by decide) (hts _ (List.mem_of_getElem? (i := 2) rfl)) rfl rfl rfl dX1_keep_5 ?_
    refine r_aald (y := (ha 5 0)) hx hb w 0 1 rfl (ty := .object "PumpParliament$State") rfl rfl 2 rfl 5 (by omega) (Nat.le_of_ble_eq_true rfl) rfl (if_pos (by omega)) dX1_keep_8 ?_
    have w := w.flat (Bs' := [hiB ty h ha sz (nI 5), stF ty (ha 0) (HX 0), stF ty (ha 1) (HX 1), stF ty (ha 2) (HX 2), stF ty (ha 3) (HX 3), stF ty (ha 4) (HX 4), stB (ha 5) ((HX 5).1), lnB ty (ha 5) ((HX 5).1), quB ty (ha 5) ((HX 5).1), weB (ha 5) ((HX 5).1), miB ty (ha 5) ((HX 5).2), stF ty (ha 6) (HX 6), stF ty (ha 7) (HX 7), stB a S, lnB ty a S, quB ty a S, weB a S, miB ty a M]) (stF_flat ty (ha 5) (HX 5) [hiB ty h ha sz (nI 5), stF ty (ha 0) (HX 0), stF ty (ha 1) (HX 1), stF ty (ha 2) (HX 2), stF ty (ha 3) (HX 3), stF ty (ha 4) (HX 4)] [stF ty (ha 6) (HX 6), stF ty (ha 7) (HX 7), stB a S, lnB ty a S, quB ty a S, weB a S, miB ty a M])
    refine lv_aload_n hx hb dX1_keep_9 rfl (lv_at hl 1 rfl) ?_
    refine k_vVN (As := [.ref (a 0)]) (rest := []) (Rs := [hiB ty h ha sz (nI 5), stF ty (ha 0) (HX 0), stF ty (ha 1) (HX 1), stF ty (ha 2) (HX 2), stF ty (ha 3) (HX 3), stF ty (ha 4) (HX 4), stF ty (ha 6) (HX 6), stF ty (ha 7) (HX 7)]) (Bs' := [hiB ty h ha sz (nI 5), stF ty (ha 0) (HX 0), stF ty (ha 1) (HX 1), stF ty (ha 2) (HX 2), stF ty (ha 3) (HX 3), stF ty (ha 4) (HX 4), stB (ha 5) S, lnB ty (ha 5) S, quB ty (ha 5) S, weB (ha 5) S, miB ty (ha 5) M, stF ty (ha 6) (HX 6), stF ty (ha 7) (HX 7), stB a S, lnB ty a S, quB ty a S, weB a S, miB ty a M]) ⟨hx, hb, hml, hown, hts⟩ w (c_X6_copyFrom l D ty (ha 5) a ((HX 5).1) ((HX 5).2) S M hdr) ⟨va_cnB 1 hts gX1_keep_X6_copyFrom_n22 rfl rfl rfl (w.2.2.2.2.2 _ (List.mem_of_getElem? (i := 50) rfl)) (hts _ (List.mem_of_getElem? (i := 9) rfl)) hdN_X6_copyFrom ⟨Nat.le_of_ble_eq_true rfl, Nat.le_of_ble_eq_true rfl⟩, (hts _ (List.mem_of_getElem? (i := 8) rfl)), (hts _ (List.mem_of_getElem? (i := 10) rfl))⟩ [6, 7, 8, 9, 10, 13, 14, 15, 16, 17, 0, 1, 2, 3, 4, 5, 11, 12] (nB := 18) (by decide) rfl rfl rfl rfl 6 rfl rfl (ci := 10) rfl rfl rfl hl.1 rfl (Nat.le_of_ble_eq_true rfl) dX1_keep_10 ⟨(Nat.zero_le _), (Nat.zero_le _)⟩ (fun H locs w => ?_)
    have w := w.flat (Bs' := [hiB ty h ha sz (nI 5), stF ty (ha 0) (HX 0), stF ty (ha 1) (HX 1), stF ty (ha 2) (HX 2), stF ty (ha 3) (HX 3), stF ty (ha 4) (HX 4), stF ty (ha 5) (S, M), stF ty (ha 6) (HX 6), stF ty (ha 7) (HX 7), stB a S, lnB ty a S, quB ty a S, weB a S, miB ty a M]) (stF_flat ty (ha 5) (S, M) [hiB ty h ha sz (nI 5), stF ty (ha 0) (HX 0), stF ty (ha 1) (HX 1), stF ty (ha 2) (HX 2), stF ty (ha 3) (HX 3), stF ty (ha 4) (HX 4)] [stF ty (ha 6) (HX 6), stF ty (ha 7) (HX 7), stB a S, lnB ty a S, quB ty a S, weB a S, miB ty a M]).symm
    refine lv_aload_n hx hb dX1_keep_13 rfl (lv_at hl 0 rfl) ?_
    refine lv_aload_n hx hb dX1_keep_14 rfl (lv_at hl 0 rfl) ?_
    refine r_get (v' := .int (nI 5)) hx hb hts in_X1_keep_X1 hown w 0 0 rfl rfl (ci := 5) rfl 1 (by decide) (hts _ (List.mem_of_getElem? (i := 2) rfl)) rfl rfl rfl dX1_keep_15 ?_
    refine lv_iconst (v := 1) hx hb dX1_keep_18 (by decide) ?_
    refine lv_iadd hx hb dX1_keep_19 ?_
    refine r_eq (y := (nI (5 + 1))) (nI_add 5 1) ?_
    refine lv_bipush (v := 8) hx hb dX1_keep_20 (by decide) ?_
    refine lv_irem hx hb dX1_keep_22 (by decide) ?_
    refine r_eq (y := (nI 6)) (by decide) ?_
    refine r_put hx hb hts in_X1_keep_X1 tyX1 tyX1_ok nmX1 hown w 0 0 rfl rfl (ci := 5) rfl 1 (by decide) (hts _ (List.mem_of_getElem? (i := 2) rfl)) rfl rfl (ty := .int) (by decide +kernel) rfl rfl (Nat.le_of_ble_eq_true rfl) (hiB ty h ha sz (nI 6)) rfl [hiB ty h ha sz (nI 6), stF ty (ha 0) (HX 0), stF ty (ha 1) (HX 1), stF ty (ha 2) (HX 2), stF ty (ha 3) (HX 3), stF ty (ha 4) (HX 4), stF ty (ha 5) (S, M), stF ty (ha 6) (HX 6), stF ty (ha 7) (HX 7), stB a S, lnB ty a S, quB ty a S, weB a S, miB ty a M] rfl dX1_keep_23 (fun H locs w => ?_)
    refine lv_aload_n hx hb dX1_keep_26 rfl (lv_at hl 0 rfl) ?_
    refine lv_bipush (v := 8) hx hb dX1_keep_27 (by decide) ?_
    refine lv_aload_n hx hb dX1_keep_29 rfl (lv_at hl 0 rfl) ?_
    refine r_get (v' := .int sz) hx hb hts in_X1_keep_X1 hown w 0 0 rfl rfl (ci := 5) rfl 0 (by decide) (hts _ (List.mem_of_getElem? (i := 3) rfl)) rfl rfl rfl dX1_keep_30 ?_
    refine lv_iconst (v := 1) hx hb dX1_keep_33 (by decide) ?_
    refine lv_iadd hx hb dX1_keep_34 ?_
    refine va_mmin hx hb (hml.trans hl.1.symm) hown (hts _ (List.mem_of_getElem? (i := 4) rfl)) (hts _ (List.mem_of_getElem? (i := 5) rfl)) (hts _ (List.mem_of_getElem? (i := 6) rfl)) (hts _ (List.mem_of_getElem? (i := 7) rfl)) (Nat.le_of_ble_eq_true rfl) (Nat.le_of_ble_eq_true rfl) (Nat.zero_le _) (Nat.zero_le _) dX1_keep_35 ?_
    refine r_eq (y := (jmin 8 (sz + 1))) rfl ?_
    refine r_put hx hb hts in_X1_keep_X1 tyX1 tyX1_ok nmX1 hown w 0 0 rfl rfl (ci := 5) rfl 0 (by decide) (hts _ (List.mem_of_getElem? (i := 3) rfl)) rfl rfl (ty := .int) (by decide +kernel) rfl rfl (Nat.le_of_ble_eq_true rfl) (hiB ty h ha (jmin 8 (sz + 1)) (nI 6)) rfl [hiB ty h ha (jmin 8 (sz + 1)) (nI 6), stF ty (ha 0) (HX 0), stF ty (ha 1) (HX 1), stF ty (ha 2) (HX 2), stF ty (ha 3) (HX 3), stF ty (ha 4) (HX 4), stF ty (ha 5) (S, M), stF ty (ha 6) (HX 6), stF ty (ha 7) (HX 7), stB a S, lnB ty a S, quB ty a S, weB a S, miB ty a M] rfl dX1_keep_38 (fun H locs w => ?_)
    exact e_v hx hb hr hlocks w dX1_keep_41 (Nat.le_refl _) (Nat.le_refl _)
  · refine lv_aload_n hx hb dX1_keep_0 rfl (lv_at hl 0 rfl) ?_
    refine r_get (v' := .ref (h 1)) hx hb hts in_X1_keep_X1 hown w 0 0 rfl rfl (ci := 5) rfl 2 (by decide) (hts _ (List.mem_of_getElem? (i := 1) rfl)) rfl rfl rfl dX1_keep_1 ?_
    refine lv_aload_n hx hb dX1_keep_4 rfl (lv_at hl 0 rfl) ?_
    refine r_get (v' := .int (nI 6)) hx hb hts in_X1_keep_X1 hown w 0 0 rfl rfl (ci := 5) rfl 1 (by decide) (hts _ (List.mem_of_getElem? (i := 2) rfl)) rfl rfl rfl dX1_keep_5 ?_
    refine r_aald (y := (ha 6 0)) hx hb w 0 1 rfl (ty := .object "PumpParliament$State") rfl rfl 2 rfl 6 (by omega) (Nat.le_of_ble_eq_true rfl) rfl (if_pos (by omega)) dX1_keep_8 ?_
    have w := w.flat (Bs' := [hiB ty h ha sz (nI 6), stF ty (ha 0) (HX 0), stF ty (ha 1) (HX 1), stF ty (ha 2) (HX 2), stF ty (ha 3) (HX 3), stF ty (ha 4) (HX 4), stF ty (ha 5) (HX 5), stB (ha 6) ((HX 6).1), lnB ty (ha 6) ((HX 6).1), quB ty (ha 6) ((HX 6).1), weB (ha 6) ((HX 6).1), miB ty (ha 6) ((HX 6).2), stF ty (ha 7) (HX 7), stB a S, lnB ty a S, quB ty a S, weB a S, miB ty a M]) (stF_flat ty (ha 6) (HX 6) [hiB ty h ha sz (nI 6), stF ty (ha 0) (HX 0), stF ty (ha 1) (HX 1), stF ty (ha 2) (HX 2), stF ty (ha 3) (HX 3), stF ty (ha 4) (HX 4), stF ty (ha 5) (HX 5)] [stF ty (ha 7) (HX 7), stB a S, lnB ty a S, quB ty a S, weB a S, miB ty a M])
    refine lv_aload_n hx hb dX1_keep_9 rfl (lv_at hl 1 rfl) ?_
    refine k_vVN (As := [.ref (a 0)]) (rest := []) (Rs := [hiB ty h ha sz (nI 6), stF ty (ha 0) (HX 0), stF ty (ha 1) (HX 1), stF ty (ha 2) (HX 2), stF ty (ha 3) (HX 3), stF ty (ha 4) (HX 4), stF ty (ha 5) (HX 5), stF ty (ha 7) (HX 7)]) (Bs' := [hiB ty h ha sz (nI 6), stF ty (ha 0) (HX 0), stF ty (ha 1) (HX 1), stF ty (ha 2) (HX 2), stF ty (ha 3) (HX 3), stF ty (ha 4) (HX 4), stF ty (ha 5) (HX 5), stB (ha 6) S, lnB ty (ha 6) S, quB ty (ha 6) S, weB (ha 6) S, miB ty (ha 6) M, stF ty (ha 7) (HX 7), stB a S, lnB ty a S, quB ty a S, weB a S, miB ty a M]) ⟨hx, hb, hml, hown, hts⟩ w (c_X6_copyFrom l D ty (ha 6) a ((HX 6).1) ((HX 6).2) S M hdr) ⟨va_cnB 1 hts gX1_keep_X6_copyFrom_n22 rfl rfl rfl (w.2.2.2.2.2 _ (List.mem_of_getElem? (i := 50) rfl)) (hts _ (List.mem_of_getElem? (i := 9) rfl)) hdN_X6_copyFrom ⟨Nat.le_of_ble_eq_true rfl, Nat.le_of_ble_eq_true rfl⟩, (hts _ (List.mem_of_getElem? (i := 8) rfl)), (hts _ (List.mem_of_getElem? (i := 10) rfl))⟩ [7, 8, 9, 10, 11, 13, 14, 15, 16, 17, 0, 1, 2, 3, 4, 5, 6, 12] (nB := 18) (by decide) rfl rfl rfl rfl 7 rfl rfl (ci := 10) rfl rfl rfl hl.1 rfl (Nat.le_of_ble_eq_true rfl) dX1_keep_10 ⟨(Nat.zero_le _), (Nat.zero_le _)⟩ (fun H locs w => ?_)
    have w := w.flat (Bs' := [hiB ty h ha sz (nI 6), stF ty (ha 0) (HX 0), stF ty (ha 1) (HX 1), stF ty (ha 2) (HX 2), stF ty (ha 3) (HX 3), stF ty (ha 4) (HX 4), stF ty (ha 5) (HX 5), stF ty (ha 6) (S, M), stF ty (ha 7) (HX 7), stB a S, lnB ty a S, quB ty a S, weB a S, miB ty a M]) (stF_flat ty (ha 6) (S, M) [hiB ty h ha sz (nI 6), stF ty (ha 0) (HX 0), stF ty (ha 1) (HX 1), stF ty (ha 2) (HX 2), stF ty (ha 3) (HX 3), stF ty (ha 4) (HX 4), stF ty (ha 5) (HX 5)] [stF ty (ha 7) (HX 7), stB a S, lnB ty a S, quB ty a S, weB a S, miB ty a M]).symm
    refine lv_aload_n hx hb dX1_keep_13 rfl (lv_at hl 0 rfl) ?_
    refine lv_aload_n hx hb dX1_keep_14 rfl (lv_at hl 0 rfl) ?_
    refine r_get (v' := .int (nI 6)) hx hb hts in_X1_keep_X1 hown w 0 0 rfl rfl (ci := 5) rfl 1 (by decide) (hts _ (List.mem_of_getElem? (i := 2) rfl)) rfl rfl rfl dX1_keep_15 ?_
    refine lv_iconst (v := 1) hx hb dX1_keep_18 (by decide) ?_
    refine lv_iadd hx hb dX1_keep_19 ?_
    refine r_eq (y := (nI (6 + 1))) (nI_add 6 1) ?_
    refine lv_bipush (v := 8) hx hb dX1_keep_20 (by decide) ?_
    refine lv_irem hx hb dX1_keep_22 (by decide) ?_
    refine r_eq (y := (nI 7)) (by decide) ?_
    refine r_put hx hb hts in_X1_keep_X1 tyX1 tyX1_ok nmX1 hown w 0 0 rfl rfl (ci := 5) rfl 1 (by decide) (hts _ (List.mem_of_getElem? (i := 2) rfl)) rfl rfl (ty := .int) (by decide +kernel) rfl rfl (Nat.le_of_ble_eq_true rfl) (hiB ty h ha sz (nI 7)) rfl [hiB ty h ha sz (nI 7), stF ty (ha 0) (HX 0), stF ty (ha 1) (HX 1), stF ty (ha 2) (HX 2), stF ty (ha 3) (HX 3), stF ty (ha 4) (HX 4), stF ty (ha 5) (HX 5), stF ty (ha 6) (S, M), stF ty (ha 7) (HX 7), stB a S, lnB ty a S, quB ty a S, weB a S, miB ty a M] rfl dX1_keep_23 (fun H locs w => ?_)
    refine lv_aload_n hx hb dX1_keep_26 rfl (lv_at hl 0 rfl) ?_
    refine lv_bipush (v := 8) hx hb dX1_keep_27 (by decide) ?_
    refine lv_aload_n hx hb dX1_keep_29 rfl (lv_at hl 0 rfl) ?_
    refine r_get (v' := .int sz) hx hb hts in_X1_keep_X1 hown w 0 0 rfl rfl (ci := 5) rfl 0 (by decide) (hts _ (List.mem_of_getElem? (i := 3) rfl)) rfl rfl rfl dX1_keep_30 ?_
    refine lv_iconst (v := 1) hx hb dX1_keep_33 (by decide) ?_
    refine lv_iadd hx hb dX1_keep_34 ?_
    refine va_mmin hx hb (hml.trans hl.1.symm) hown (hts _ (List.mem_of_getElem? (i := 4) rfl)) (hts _ (List.mem_of_getElem? (i := 5) rfl)) (hts _ (List.mem_of_getElem? (i := 6) rfl)) (hts _ (List.mem_of_getElem? (i := 7) rfl)) (Nat.le_of_ble_eq_true rfl) (Nat.le_of_ble_eq_true rfl) (Nat.zero_le _) (Nat.zero_le _) dX1_keep_35 ?_
    refine r_eq (y := (jmin 8 (sz + 1))) rfl ?_
    refine r_put hx hb hts in_X1_keep_X1 tyX1 tyX1_ok nmX1 hown w 0 0 rfl rfl (ci := 5) rfl 0 (by decide) (hts _ (List.mem_of_getElem? (i := 3) rfl)) rfl rfl (ty := .int) (by decide +kernel) rfl rfl (Nat.le_of_ble_eq_true rfl) (hiB ty h ha (jmin 8 (sz + 1)) (nI 7)) rfl [hiB ty h ha (jmin 8 (sz + 1)) (nI 7), stF ty (ha 0) (HX 0), stF ty (ha 1) (HX 1), stF ty (ha 2) (HX 2), stF ty (ha 3) (HX 3), stF ty (ha 4) (HX 4), stF ty (ha 5) (HX 5), stF ty (ha 6) (S, M), stF ty (ha 7) (HX 7), stB a S, lnB ty a S, quB ty a S, weB a S, miB ty a M] rfl dX1_keep_38 (fun H locs w => ?_)
    exact e_v hx hb hr hlocks w dX1_keep_41 (Nat.le_refl _) (Nat.le_refl _)
  · refine lv_aload_n hx hb dX1_keep_0 rfl (lv_at hl 0 rfl) ?_
    refine r_get (v' := .ref (h 1)) hx hb hts in_X1_keep_X1 hown w 0 0 rfl rfl (ci := 5) rfl 2 (by decide) (hts _ (List.mem_of_getElem? (i := 1) rfl)) rfl rfl rfl dX1_keep_1 ?_
    refine lv_aload_n hx hb dX1_keep_4 rfl (lv_at hl 0 rfl) ?_
    refine r_get (v' := .int (nI 7)) hx hb hts in_X1_keep_X1 hown w 0 0 rfl rfl (ci := 5) rfl 1 (by decide) (hts _ (List.mem_of_getElem? (i := 2) rfl)) rfl rfl rfl dX1_keep_5 ?_
    refine r_aald (y := (ha 7 0)) hx hb w 0 1 rfl (ty := .object "PumpParliament$State") rfl rfl 2 rfl 7 (by omega) (Nat.le_of_ble_eq_true rfl) rfl (if_pos (by omega)) dX1_keep_8 ?_
    have w := w.flat (Bs' := [hiB ty h ha sz (nI 7), stF ty (ha 0) (HX 0), stF ty (ha 1) (HX 1), stF ty (ha 2) (HX 2), stF ty (ha 3) (HX 3), stF ty (ha 4) (HX 4), stF ty (ha 5) (HX 5), stF ty (ha 6) (HX 6), stB (ha 7) ((HX 7).1), lnB ty (ha 7) ((HX 7).1), quB ty (ha 7) ((HX 7).1), weB (ha 7) ((HX 7).1), miB ty (ha 7) ((HX 7).2), stB a S, lnB ty a S, quB ty a S, weB a S, miB ty a M]) (stF_flat ty (ha 7) (HX 7) [hiB ty h ha sz (nI 7), stF ty (ha 0) (HX 0), stF ty (ha 1) (HX 1), stF ty (ha 2) (HX 2), stF ty (ha 3) (HX 3), stF ty (ha 4) (HX 4), stF ty (ha 5) (HX 5), stF ty (ha 6) (HX 6)] [stB a S, lnB ty a S, quB ty a S, weB a S, miB ty a M])
    refine lv_aload_n hx hb dX1_keep_9 rfl (lv_at hl 1 rfl) ?_
    refine k_vVN (As := [.ref (a 0)]) (rest := []) (Rs := [hiB ty h ha sz (nI 7), stF ty (ha 0) (HX 0), stF ty (ha 1) (HX 1), stF ty (ha 2) (HX 2), stF ty (ha 3) (HX 3), stF ty (ha 4) (HX 4), stF ty (ha 5) (HX 5), stF ty (ha 6) (HX 6)]) (Bs' := [hiB ty h ha sz (nI 7), stF ty (ha 0) (HX 0), stF ty (ha 1) (HX 1), stF ty (ha 2) (HX 2), stF ty (ha 3) (HX 3), stF ty (ha 4) (HX 4), stF ty (ha 5) (HX 5), stF ty (ha 6) (HX 6), stB (ha 7) S, lnB ty (ha 7) S, quB ty (ha 7) S, weB (ha 7) S, miB ty (ha 7) M, stB a S, lnB ty a S, quB ty a S, weB a S, miB ty a M]) ⟨hx, hb, hml, hown, hts⟩ w (c_X6_copyFrom l D ty (ha 7) a ((HX 7).1) ((HX 7).2) S M hdr) ⟨va_cnB 1 hts gX1_keep_X6_copyFrom_n22 rfl rfl rfl (w.2.2.2.2.2 _ (List.mem_of_getElem? (i := 50) rfl)) (hts _ (List.mem_of_getElem? (i := 9) rfl)) hdN_X6_copyFrom ⟨Nat.le_of_ble_eq_true rfl, Nat.le_of_ble_eq_true rfl⟩, (hts _ (List.mem_of_getElem? (i := 8) rfl)), (hts _ (List.mem_of_getElem? (i := 10) rfl))⟩ [8, 9, 10, 11, 12, 13, 14, 15, 16, 17, 0, 1, 2, 3, 4, 5, 6, 7] (nB := 18) (by decide) rfl rfl rfl rfl 8 rfl rfl (ci := 10) rfl rfl rfl hl.1 rfl (Nat.le_of_ble_eq_true rfl) dX1_keep_10 ⟨(Nat.zero_le _), (Nat.zero_le _)⟩ (fun H locs w => ?_)
    have w := w.flat (Bs' := [hiB ty h ha sz (nI 7), stF ty (ha 0) (HX 0), stF ty (ha 1) (HX 1), stF ty (ha 2) (HX 2), stF ty (ha 3) (HX 3), stF ty (ha 4) (HX 4), stF ty (ha 5) (HX 5), stF ty (ha 6) (HX 6), stF ty (ha 7) (S, M), stB a S, lnB ty a S, quB ty a S, weB a S, miB ty a M]) (stF_flat ty (ha 7) (S, M) [hiB ty h ha sz (nI 7), stF ty (ha 0) (HX 0), stF ty (ha 1) (HX 1), stF ty (ha 2) (HX 2), stF ty (ha 3) (HX 3), stF ty (ha 4) (HX 4), stF ty (ha 5) (HX 5), stF ty (ha 6) (HX 6)] [stB a S, lnB ty a S, quB ty a S, weB a S, miB ty a M]).symm
    refine lv_aload_n hx hb dX1_keep_13 rfl (lv_at hl 0 rfl) ?_
    refine lv_aload_n hx hb dX1_keep_14 rfl (lv_at hl 0 rfl) ?_
    refine r_get (v' := .int (nI 7)) hx hb hts in_X1_keep_X1 hown w 0 0 rfl rfl (ci := 5) rfl 1 (by decide) (hts _ (List.mem_of_getElem? (i := 2) rfl)) rfl rfl rfl dX1_keep_15 ?_
    refine lv_iconst (v := 1) hx hb dX1_keep_18 (by decide) ?_
    refine lv_iadd hx hb dX1_keep_19 ?_
    refine r_eq (y := (nI (7 + 1))) (nI_add 7 1) ?_
    refine lv_bipush (v := 8) hx hb dX1_keep_20 (by decide) ?_
    refine lv_irem hx hb dX1_keep_22 (by decide) ?_
    refine r_eq (y := (nI 0)) (by decide) ?_
    refine r_put hx hb hts in_X1_keep_X1 tyX1 tyX1_ok nmX1 hown w 0 0 rfl rfl (ci := 5) rfl 1 (by decide) (hts _ (List.mem_of_getElem? (i := 2) rfl)) rfl rfl (ty := .int) (by decide +kernel) rfl rfl (Nat.le_of_ble_eq_true rfl) (hiB ty h ha sz (nI 0)) rfl [hiB ty h ha sz (nI 0), stF ty (ha 0) (HX 0), stF ty (ha 1) (HX 1), stF ty (ha 2) (HX 2), stF ty (ha 3) (HX 3), stF ty (ha 4) (HX 4), stF ty (ha 5) (HX 5), stF ty (ha 6) (HX 6), stF ty (ha 7) (S, M), stB a S, lnB ty a S, quB ty a S, weB a S, miB ty a M] rfl dX1_keep_23 (fun H locs w => ?_)
    refine lv_aload_n hx hb dX1_keep_26 rfl (lv_at hl 0 rfl) ?_
    refine lv_bipush (v := 8) hx hb dX1_keep_27 (by decide) ?_
    refine lv_aload_n hx hb dX1_keep_29 rfl (lv_at hl 0 rfl) ?_
    refine r_get (v' := .int sz) hx hb hts in_X1_keep_X1 hown w 0 0 rfl rfl (ci := 5) rfl 0 (by decide) (hts _ (List.mem_of_getElem? (i := 3) rfl)) rfl rfl rfl dX1_keep_30 ?_
    refine lv_iconst (v := 1) hx hb dX1_keep_33 (by decide) ?_
    refine lv_iadd hx hb dX1_keep_34 ?_
    refine va_mmin hx hb (hml.trans hl.1.symm) hown (hts _ (List.mem_of_getElem? (i := 4) rfl)) (hts _ (List.mem_of_getElem? (i := 5) rfl)) (hts _ (List.mem_of_getElem? (i := 6) rfl)) (hts _ (List.mem_of_getElem? (i := 7) rfl)) (Nat.le_of_ble_eq_true rfl) (Nat.le_of_ble_eq_true rfl) (Nat.zero_le _) (Nat.zero_le _) dX1_keep_35 ?_
    refine r_eq (y := (jmin 8 (sz + 1))) rfl ?_
    refine r_put hx hb hts in_X1_keep_X1 tyX1 tyX1_ok nmX1 hown w 0 0 rfl rfl (ci := 5) rfl 0 (by decide) (hts _ (List.mem_of_getElem? (i := 3) rfl)) rfl rfl (ty := .int) (by decide +kernel) rfl rfl (Nat.le_of_ble_eq_true rfl) (hiB ty h ha (jmin 8 (sz + 1)) (nI 0)) rfl [hiB ty h ha (jmin 8 (sz + 1)) (nI 0), stF ty (ha 0) (HX 0), stF ty (ha 1) (HX 1), stF ty (ha 2) (HX 2), stF ty (ha 3) (HX 3), stF ty (ha 4) (HX 4), stF ty (ha 5) (HX 5), stF ty (ha 6) (HX 6), stF ty (ha 7) (S, M), stB a S, lnB ty a S, quB ty a S, weB a S, miB ty a M] rfl dX1_keep_38 (fun H locs w => ?_)
    exact e_v hx hb hr hlocks w dX1_keep_41 (Nat.le_refl _) (Nat.le_refl _)
