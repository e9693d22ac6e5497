theorem in_X9_commands_X9 : ∀ w ∈ wsX90, w ∈ wsX9_commands := by decide +kernel
theorem hdN_X9_commands : yX9_commands.cls ≠ "java/lang/invoke/MethodHandle" ∧ yX9_commands.cls ≠ "java/lang/invoke/VarHandle" ∧ (parseMethodDescriptor yX9_commands.desc).map (fun d => d.parameters.length) = some 0 := by decide +kernel
set_option maxRecDepth 100000 in
set_option maxHeartbeats 4000000 in
theorem c_X9_commands (l : Launch) (D : va_G) (ty : Nat → ClassId) (r : Nat → Nat) (F S T0 M ch : pS) (HA : Nat → Int32) (z : Nat) (hz : z ≤ 8) (h6 : F 6 = nI z) (y : Nat) (hy : y ≤ 60) (h12 : F 12 = nI y) (K U : pS) (B : Nat) (hB : B + 2000 < 10 ^ 7) (hV : IV B (S, M))  : Mi l yX9_commands wsX9_commands (kR 7 154 0 0) D (kTY ty) [.ref (r 0)] [moB r F, arB ty (r 1) 215 (sqA 215 S), arB ty (r 2) 215 (sqA 215 T0), arB ty (r 5) 1720 HA, arB ty (r 6) 60 ch, arB ty (r 8) 40 K, arB ty (r 9) 40 U] [moB r (cmF F ch y K U S M z), arB ty (r 1) 215 (sqA 215 (rR (raA ch y K U).2.1 (gR (rdG ch y K U S M).1 (rdG ch y K U S M).2.2.1 S) S)), arB ty (r 2) 215 (sqA 215 (rR (raA ch y K U).2.1 S T0)), arB ty (r 5) 1720 (rR (raA ch y K U).2.1 (gR (rdG ch y K U S M).1 (hKp HA S z) HA) HA), arB ty (r 6) 60 ch, arB ty (r 8) 40 ((raA ch y K U).2.2.2.1), arB ty (r 9) 40 ((raA ch y K U).2.2.2.2)] (rR (raA ch y K U).2.1 (gR (rdG ch y K U S M).1 (nI (raA ch y K U).2.2.1) 0) 0) 0 0 := by
  refine m_i (cc := cX9_commands) (maxL := 3) (ret := (some .int)) (by decide +kernel) rfl (Nat.le_of_ble_eq_true rfl) ?_
  intro p e s m below meth c A ls hx hb hml hr hlocks hown hts w hl
  have hown : s.vm.findClass RX9 = some m.cls := hown
  have hl : lv_has ls 3 [(0, .ref (r 0))] := hl
  refine lv_aload_n hx hb dX9_commands_0 rfl (lv_at hl 0 rfl) ?_
  refine lv_aload_n hx hb dX9_commands_1 rfl (lv_at hl 0 rfl) ?_
  refine r_get (v' := .int (nI y)) hx hb hts in_X9_commands_X9 hown w 0 0 rfl rfl (ci := 13) rfl 12 (by decide) (hts _ (List.mem_of_getElem? (i := 1) rfl)) rfl rfl (congrArg Value.int h12) dX9_commands_2 ?_
  refine r_put hx hb hts in_X9_commands_X9 tyX9 tyX9_ok nmX9 hown w 0 0 rfl rfl (ci := 13) rfl 18 (by decide) (hts _ (List.mem_of_getElem? (i := 2) rfl)) rfl rfl (ty := .int) (by decide +kernel) rfl rfl (Nat.le_of_ble_eq_true rfl) (moB r (upd F 18 (nI y))) rfl [moB r (upd F 18 (nI y)), arB ty (r 1) 215 (sqA 215 S), arB ty (r 2) 215 (sqA 215 T0), arB ty (r 5) 1720 HA, arB ty (r 6) 60 ch, arB ty (r 8) 40 K, arB ty (r 9) 40 U] rfl dX9_commands_5 (fun H locs w => ?_)
  refine lv_aload_n hx hb dX9_commands_8 rfl (lv_at hl 0 rfl) ?_
  refine lv_iconst (v := 0) hx hb dX9_commands_9 (by decide) ?_
  refine r_put hx hb hts in_X9_commands_X9 tyX9 tyX9_ok nmX9 hown w 0 0 rfl rfl (ci := 13) rfl 12 (by decide) (hts _ (List.mem_of_getElem? (i := 1) rfl)) rfl rfl (ty := .int) (by decide +kernel) rfl rfl (Nat.le_of_ble_eq_true rfl) (moB r (upd (upd F 18 (nI y)) 12 0)) rfl [moB r (upd (upd F 18 (nI y)) 12 0), arB ty (r 1) 215 (sqA 215 S), arB ty (r 2) 215 (sqA 215 T0), arB ty (r 5) 1720 HA, arB ty (r 6) 60 ch, arB ty (r 8) 40 K, arB ty (r 9) 40 U] rfl dX9_commands_10 (fun H locs w => ?_)
  refine lv_aload_n hx hb dX9_commands_13 rfl (lv_at hl 0 rfl) ?_
  refine k_vV (As := []) (rest := []) (Rs := [arB ty (r 1) 215 (sqA 215 S), arB ty (r 2) 215 (sqA 215 T0), arB ty (r 5) 1720 HA]) (Bs' := [moB r (upd (upd (upd (upd (upd F 18 (nI y)) 12 0) 19 (nI ((raA ch y K U).1))) 20 ((raA ch y K U).2.1)) 21 (nI ((raA ch y K U).2.2.1))), arB ty (r 1) 215 (sqA 215 S), arB ty (r 2) 215 (sqA 215 T0), arB ty (r 5) 1720 HA, arB ty (r 6) 60 ch, arB ty (r 8) 40 ((raA ch y K U).2.2.2.1), arB ty (r 9) 40 ((raA ch y K U).2.2.2.2)]) ⟨hx, hb, hml, hown, hts⟩ w (c_X9_readsAll l D ty r (upd (upd F 18 (nI y)) 12 0) ch y hy rfl K U) (cwV 0 hts gX9_commands_X9_readsAll rfl rfl rfl ⟨rfl, hdN_X9_readsAll⟩ ⟨Nat.le_of_ble_eq_true rfl, Nat.le_of_ble_eq_true rfl⟩) [0, 4, 5, 6, 1, 2, 3] (nB := 7) (by decide) rfl rfl rfl rfl 0 rfl rfl (ci := 13) rfl rfl rfl hl.1 rfl (Nat.le_of_ble_eq_true rfl) dX9_commands_14 ⟨(Nat.zero_le _), (Nat.zero_le _)⟩ (fun H locs w => ?_)
  refine lv_aload_n hx hb dX9_commands_17 rfl (lv_at hl 0 rfl) ?_
  refine lv_aload_n hx hb dX9_commands_18 rfl (lv_at hl 0 rfl) ?_
  refine r_get (v' := .int ((raA ch y K U).2.1)) hx hb hts in_X9_commands_X9 hown w 0 0 rfl rfl (ci := 13) rfl 20 (by decide) (hts _ (List.mem_of_getElem? (i := 3) rfl)) rfl rfl rfl dX9_commands_19 ?_
  refine r_put hx hb hts in_X9_commands_X9 tyX9 tyX9_ok nmX9 hown w 0 0 rfl rfl (ci := 13) rfl 13 (by decide) (hts _ (List.mem_of_getElem? (i := 4) rfl)) rfl rfl (ty := .int) (by decide +kernel) rfl rfl (Nat.le_of_ble_eq_true rfl) (moB r (upd (upd (upd (upd (upd (upd F 18 (nI y)) 12 0) 19 (nI ((raA ch y K U).1))) 20 ((raA ch y K U).2.1)) 21 (nI ((raA ch y K U).2.2.1))) 13 ((raA ch y K U).2.1))) rfl [moB r (upd (upd (upd (upd (upd (upd F 18 (nI y)) 12 0) 19 (nI ((raA ch y K U).1))) 20 ((raA ch y K U).2.1)) 21 (nI ((raA ch y K U).2.2.1))) 13 ((raA ch y K U).2.1)), arB ty (r 1) 215 (sqA 215 S), arB ty (r 2) 215 (sqA 215 T0), arB ty (r 5) 1720 HA, arB ty (r 6) 60 ch, arB ty (r 8) 40 ((raA ch y K U).2.2.2.1), arB ty (r 9) 40 ((raA ch y K U).2.2.2.2)] rfl dX9_commands_22 (fun H locs w => ?_)
  refine lv_aload_n hx hb dX9_commands_25 rfl (lv_at hl 0 rfl) ?_
  refine lv_aload_n hx hb dX9_commands_26 rfl (lv_at hl 0 rfl) ?_
  refine r_get (v' := .int ((raA ch y K U).2.1)) hx hb hts in_X9_commands_X9 hown w 0 0 rfl rfl (ci := 13) rfl 20 (by decide) (hts _ (List.mem_of_getElem? (i := 3) rfl)) rfl rfl rfl dX9_commands_27 ?_
  refine lv_iconst (v := (-1)) hx hb dX9_commands_30 (by decide) ?_
  refine lv_icmp_eq (tgt := 38) hx hb dX9_commands_31 (by decide) (fun c31 => ?_) (fun c31 => ?_)
  · refine lv_iconst (v := 0) hx hb dX9_commands_38 (by decide) ?_
    have w := w.cast (Bs' := [moB r (rdF F ch y K U), arB ty (r 1) 215 (sqA 215 S), arB ty (r 2) 215 (sqA 215 T0), arB ty (r 5) 1720 HA, arB ty (r 6) 60 ch, arB ty (r 8) 40 ((raA ch y K U).2.2.2.1), arB ty (r 9) 40 ((raA ch y K U).2.2.2.2)]) rfl
    refine r_put hx hb hts in_X9_commands_X9 tyX9 tyX9_ok nmX9 hown w 0 0 rfl rfl (ci := 13) rfl 7 (by decide) (hts _ (List.mem_of_getElem? (i := 5) rfl)) rfl rfl (ty := .int) (by decide +kernel) rfl rfl (Nat.le_of_ble_eq_true rfl) (moB r (upd (rdF F ch y K U) 7 0)) rfl [moB r (upd (rdF F ch y K U) 7 0), arB ty (r 1) 215 (sqA 215 S), arB ty (r 2) 215 (sqA 215 T0), arB ty (r 5) 1720 HA, arB ty (r 6) 60 ch, arB ty (r 8) 40 ((raA ch y K U).2.2.2.1), arB ty (r 9) 40 ((raA ch y K U).2.2.2.2)] rfl dX9_commands_39 (fun H locs w => ?_)
    refine lv_aload_n hx hb dX9_commands_42 rfl (lv_at hl 0 rfl) ?_
    refine r_get (v' := .int 0) hx hb hts in_X9_commands_X9 hown w 0 0 rfl rfl (ci := 13) rfl 7 (by decide) (hts _ (List.mem_of_getElem? (i := 5) rfl)) rfl rfl rfl dX9_commands_43 ?_
    refine lv_if_eq (tgt := 51) hx hb dX9_commands_46 (by decide) (fun c46 => ?_) (fun c46 => ?_)
    · have c31 : (raA ch y K U).2.1 = -1 := c31
      have hto := raA_b hy c31
      refine lv_aload_n hx hb dX9_commands_51 rfl (lv_at hl 0 rfl) ?_
      refine k_vV (As := []) (rest := []) (Rs := [arB ty (r 5) 1720 HA, arB ty (r 6) 60 ch, arB ty (r 8) 40 ((raA ch y K U).2.2.2.1), arB ty (r 9) 40 ((raA ch y K U).2.2.2.2)]) (Bs' := [moB r (upd (upd (rdF F ch y K U) 7 0) 16 0), arB ty (r 1) 215 (sqA 215 S), arB ty (r 2) 215 (sqA 215 S), arB ty (r 5) 1720 HA, arB ty (r 6) 60 ch, arB ty (r 8) 40 ((raA ch y K U).2.2.2.1), arB ty (r 9) 40 ((raA ch y K U).2.2.2.2)]) ⟨hx, hb, hml, hown, hts⟩ w (c_X9_begins l D ty r (upd (rdF F ch y K U) 7 0) S T0) (cwV 0 hts gX9_commands_X9_begins rfl rfl rfl ⟨rfl, hdN_X9_begins⟩ ⟨Nat.le_of_ble_eq_true rfl, Nat.le_of_ble_eq_true rfl⟩) [0, 1, 2, 3, 4, 5, 6] (nB := 7) (by decide) rfl rfl rfl rfl 0 rfl rfl (ci := 13) rfl rfl rfl hl.1 rfl (Nat.le_of_ble_eq_true rfl) dX9_commands_52 ⟨(Nat.zero_le _), (Nat.zero_le _)⟩ (fun H locs w => ?_)
      refine lv_iconst (v := 0) hx hb dX9_commands_55 (by decide) ?_
      refine lv_istore_n (lv' := [(1, .int 0), (0, .ref (r 0))]) hx hb dX9_commands_56 rfl hl (by decide) rfl (fun ls hl => ?_)
      refine k_loop (fun k H locs ls => ∃ (T : pS) (X : pS) (Wc : Int32 × Int32) (R : pS), kW D (kTY ty) A s.heap s H locs [moB r (hnd Wc (upd (upd (rdF F ch y K U) 7 0) 16 0)), arB ty (r 1) 215 (sqA 215 R), arB ty (r 2) 215 (sqA 215 S), arB ty (r 5) 1720 HA, arB ty (r 6) 60 ch, arB ty (r 8) 40 ((raA ch y K U).2.2.2.1), arB ty (r 9) 40 ((raA ch y K U).2.2.2.2)] ∧ lv_has ls 3 [(0, .ref (r 0)), (1, .int (nI k))] ∧ (Wc.1 = 0 → R = T ∧ (rdG ch y K U S M) = cG (raA ch y K U).2.2.2.1 (raA ch y K U).2.2.2.2 ((raA ch y K U).2.2.1 - k) k (T, X) ∧ IV (B + 50 * k) (T, X)) ∧ (¬ Wc.1 = 0 → (rdG ch y K U S M) = (Wc, k, (T, X)))) ((raA ch y K U).2.2.1) 0 (by omega) ⟨S, M, (0, 0), S, w, lv_sub hl [1, 0] rfl, (fun _ => ⟨rfl, rfl, hV⟩), (fun q => absurd rfl q)⟩ ?_
      intro k hk0 hk ihk H locs ls hI
      obtain ⟨T, X, Wc, R, w, hl, hG1, hG2⟩ := hI
      refine lv_iload_n hx hb dX9_commands_57 rfl (lv_at hl 1 rfl) ?_
      refine lv_aload_n hx hb dX9_commands_58 rfl (lv_at hl 0 rfl) ?_
      refine r_get (v' := .int (nI ((raA ch y K U).2.2.1))) hx hb hts in_X9_commands_X9 hown w 0 0 rfl rfl (ci := 13) rfl 21 (by decide) (hts _ (List.mem_of_getElem? (i := 6) rfl)) rfl rfl (congrArg Value.int (hnd_21.trans rfl)) dX9_commands_59 ?_
      refine lv_icmp_ge (tgt := 95) hx hb dX9_commands_62 (by decide) (fun c62 => ?_) (fun c62 => ?_)
      · have c62 := (nI_leI (a := ((raA ch y K U).2.2.1)) (b := k) (by omega) (by omega)).mp c62
        by_cases hWc : Wc.1 = 0
        · obtain ⟨hR, hG, hIV⟩ := hG1 hWc
          have hk0 : (raA ch y K U).2.2.1 - k = 0 := by omega
          rw [hk0] at hG
          have hG : (rdG ch y K U S M) = ((0, 0), k, (T, X)) := hG
          have hfin : hnd Wc (upd (upd (rdF F ch y K U) 7 0) 16 0) = hnd (rdG ch y K U S M).1 (upd (upd (rdF F ch y K U) 7 0) 16 0) := hnd_e (Or.inr ⟨hWc, by rw [hG]⟩)
          have hk2 : (rdG ch y K U S M).2.1 = k := by rw [hG]
          have hT2 : (rdG ch y K U S M).2.2.1 = T := by rw [hG]
          have hz0 : (rdG ch y K U S M).1.1 = 0 := by rw [hG]
          have w := w.cast (Bs' := [moB r (hnd (rdG ch y K U S M).1 (upd (upd (rdF F ch y K U) 7 0) 16 0)), arB ty (r 1) 215 (sqA 215 R), arB ty (r 2) 215 (sqA 215 S), arB ty (r 5) 1720 HA, arB ty (r 6) 60 ch, arB ty (r 8) 40 ((raA ch y K U).2.2.2.1), arB ty (r 9) 40 ((raA ch y K U).2.2.2.2)]) (by rw [hfin])
          refine lv_aload_n hx hb dX9_commands_95 rfl (lv_at hl 0 rfl) ?_
          refine lv_aload_n hx hb dX9_commands_96 rfl (lv_at hl 0 rfl) ?_
          refine r_get (v' := .int (nI ((raA ch y K U).2.2.1))) hx hb hts in_X9_commands_X9 hown w 0 0 rfl rfl (ci := 13) rfl 21 (by decide) (hts _ (List.mem_of_getElem? (i := 6) rfl)) rfl rfl (congrArg Value.int (hnd_21.trans rfl)) dX9_commands_97 ?_
          refine lv_iconst (v := 2) hx hb dX9_commands_100 (by decide) ?_
          refine lv_iload_n hx hb dX9_commands_101 rfl (lv_at hl 1 rfl) ?_
          refine lv_iconst (v := 1) hx hb dX9_commands_102 (by decide) ?_
          refine lv_isub hx hb dX9_commands_103 ?_
          refine k_iV (As := [.int (nI ((raA ch y K U).2.2.1)), .int 2, .int ((nI k) - 1)]) (rest := []) (Rs := [arB ty (r 6) 60 ch, arB ty (r 8) 40 ((raA ch y K U).2.2.2.1), arB ty (r 9) 40 ((raA ch y K U).2.2.2.2)]) (Bs' := [moB r (enF (hnd (rdG ch y K U S M).1 (upd (upd (rdF F ch y K U) 7 0) 16 0)) 2 ((nI k) - 1) z), arB ty (r 1) 215 (sqA 215 (enS (hnd (rdG ch y K U S M).1 (upd (upd (rdF F ch y K U) 7 0) 16 0)) R S)), arB ty (r 2) 215 (sqA 215 S), arB ty (r 5) 1720 (enH (hnd (rdG ch y K U S M).1 (upd (upd (rdF F ch y K U) 7 0) 16 0)) HA S z), arB ty (r 6) 60 ch, arB ty (r 8) 40 ((raA ch y K U).2.2.2.1), arB ty (r 9) 40 ((raA ch y K U).2.2.2.2)]) ⟨hx, hb, hml, hown, hts⟩ w (c_X9_ends l D ty r (hnd (rdG ch y K U S M).1 (upd (upd (rdF F ch y K U) 7 0) 16 0)) R S HA z hz (hnd_6.trans h6) (nI ((raA ch y K U).2.2.1)) 2 ((nI k) - 1)) (cwV 3 hts gX9_commands_X9_ends rfl rfl rfl ⟨rfl, hdN_X9_ends⟩ ⟨Nat.le_of_ble_eq_true rfl, Nat.le_of_ble_eq_true rfl⟩) [0, 1, 2, 3, 4, 5, 6] (nB := 7) (by decide) rfl rfl rfl rfl 0 rfl rfl (ci := 13) rfl rfl rfl hl.1 rfl (Nat.le_of_ble_eq_true rfl) dX9_commands_104 ⟨(Nat.zero_le _), (Nat.zero_le _)⟩ (fun H locs w => ?_)
          exact e_i hx hb hr hlocks (w.cast (by rw [cmF, rR_0 c31, rR_0 c31, rR_0 c31, rR_0 c31]; simp only [en_S u16, en_H u16, gR_0 hz0, hk2, hR, hT2])) (by rw [rR_0 c31, en_V u16]) dX9_commands_107 (Nat.le_refl _) (Nat.le_refl _)
        · have hG := hG2 hWc
          have hfin : hnd Wc (upd (upd (rdF F ch y K U) 7 0) 16 0) = hnd (rdG ch y K U S M).1 (upd (upd (rdF F ch y K U) 7 0) 16 0) := hnd_e (Or.inl (congrArg (fun x => x.1) hG).symm)
          have hk2 : (rdG ch y K U S M).2.1 = k := by rw [hG]
          have hne : ¬ (rdG ch y K U S M).1.1 = 0 := by rw [hG]; exact hWc
          have w := w.cast (Bs' := [moB r (hnd (rdG ch y K U S M).1 (upd (upd (rdF F ch y K U) 7 0) 16 0)), arB ty (r 1) 215 (sqA 215 R), arB ty (r 2) 215 (sqA 215 S), arB ty (r 5) 1720 HA, arB ty (r 6) 60 ch, arB ty (r 8) 40 ((raA ch y K U).2.2.2.1), arB ty (r 9) 40 ((raA ch y K U).2.2.2.2)]) (by rw [hfin])
          refine lv_aload_n hx hb dX9_commands_95 rfl (lv_at hl 0 rfl) ?_
          refine lv_aload_n hx hb dX9_commands_96 rfl (lv_at hl 0 rfl) ?_
          refine r_get (v' := .int (nI ((raA ch y K U).2.2.1))) hx hb hts in_X9_commands_X9 hown w 0 0 rfl rfl (ci := 13) rfl 21 (by decide) (hts _ (List.mem_of_getElem? (i := 6) rfl)) rfl rfl (congrArg Value.int (hnd_21.trans rfl)) dX9_commands_97 ?_
          refine lv_iconst (v := 2) hx hb dX9_commands_100 (by decide) ?_
          refine lv_iload_n hx hb dX9_commands_101 rfl (lv_at hl 1 rfl) ?_
          refine lv_iconst (v := 1) hx hb dX9_commands_102 (by decide) ?_
          refine lv_isub hx hb dX9_commands_103 ?_
          refine k_iV (As := [.int (nI ((raA ch y K U).2.2.1)), .int 2, .int ((nI k) - 1)]) (rest := []) (Rs := [arB ty (r 6) 60 ch, arB ty (r 8) 40 ((raA ch y K U).2.2.2.1), arB ty (r 9) 40 ((raA ch y K U).2.2.2.2)]) (Bs' := [moB r (enF (hnd (rdG ch y K U S M).1 (upd (upd (rdF F ch y K U) 7 0) 16 0)) 2 ((nI k) - 1) z), arB ty (r 1) 215 (sqA 215 (enS (hnd (rdG ch y K U S M).1 (upd (upd (rdF F ch y K U) 7 0) 16 0)) R S)), arB ty (r 2) 215 (sqA 215 S), arB ty (r 5) 1720 (enH (hnd (rdG ch y K U S M).1 (upd (upd (rdF F ch y K U) 7 0) 16 0)) HA S z), arB ty (r 6) 60 ch, arB ty (r 8) 40 ((raA ch y K U).2.2.2.1), arB ty (r 9) 40 ((raA ch y K U).2.2.2.2)]) ⟨hx, hb, hml, hown, hts⟩ w (c_X9_ends l D ty r (hnd (rdG ch y K U S M).1 (upd (upd (rdF F ch y K U) 7 0) 16 0)) R S HA z hz (hnd_6.trans h6) (nI ((raA ch y K U).2.2.1)) 2 ((nI k) - 1)) (cwV 3 hts gX9_commands_X9_ends rfl rfl rfl ⟨rfl, hdN_X9_ends⟩ ⟨Nat.le_of_ble_eq_true rfl, Nat.le_of_ble_eq_true rfl⟩) [0, 1, 2, 3, 4, 5, 6] (nB := 7) (by decide) rfl rfl rfl rfl 0 rfl rfl (ci := 13) rfl rfl rfl hl.1 rfl (Nat.le_of_ble_eq_true rfl) dX9_commands_104 ⟨(Nat.zero_le _), (Nat.zero_le _)⟩ (fun H locs w => ?_)
          exact e_i hx hb hr hlocks (w.cast (by rw [cmF, rR_0 c31, rR_0 c31, rR_0 c31, rR_0 c31]; simp only [en_S u16, en_H u16, gR_1 hne, hk2])) (by rw [rR_0 c31, en_V u16]) dX9_commands_107 (Nat.le_refl _) (Nat.le_refl _)
      · have c62 := mt (nI_leI (a := ((raA ch y K U).2.2.1)) (b := k) (by omega) (by omega)).mpr c62
        refine lv_aload_n hx hb dX9_commands_65 rfl (lv_at hl 0 rfl) ?_
        refine r_get (v' := .int ((hnd Wc (upd (upd (rdF F ch y K U) 7 0) 16 0)) 16)) hx hb hts in_X9_commands_X9 hown w 0 0 rfl rfl (ci := 13) rfl 16 (by decide) (hts _ (List.mem_of_getElem? (i := 7) rfl)) rfl rfl rfl dX9_commands_66 ?_
        refine lv_if_ne (tgt := 95) hx hb dX9_commands_69 (by decide) (fun c69 => ?_) (fun c69 => ?_)
        · have hWc : ¬ Wc.1 = 0 := mt (hnd_z u16).mpr c69
          have hG := hG2 hWc
          have hfin : hnd Wc (upd (upd (rdF F ch y K U) 7 0) 16 0) = hnd (rdG ch y K U S M).1 (upd (upd (rdF F ch y K U) 7 0) 16 0) := hnd_e (Or.inl (congrArg (fun x => x.1) hG).symm)
          have hk2 : (rdG ch y K U S M).2.1 = k := by rw [hG]
          have hne : ¬ (rdG ch y K U S M).1.1 = 0 := by rw [hG]; exact hWc
          have w := w.cast (Bs' := [moB r (hnd (rdG ch y K U S M).1 (upd (upd (rdF F ch y K U) 7 0) 16 0)), arB ty (r 1) 215 (sqA 215 R), arB ty (r 2) 215 (sqA 215 S), arB ty (r 5) 1720 HA, arB ty (r 6) 60 ch, arB ty (r 8) 40 ((raA ch y K U).2.2.2.1), arB ty (r 9) 40 ((raA ch y K U).2.2.2.2)]) (by rw [hfin])
          refine lv_aload_n hx hb dX9_commands_95 rfl (lv_at hl 0 rfl) ?_
          refine lv_aload_n hx hb dX9_commands_96 rfl (lv_at hl 0 rfl) ?_
          refine r_get (v' := .int (nI ((raA ch y K U).2.2.1))) hx hb hts in_X9_commands_X9 hown w 0 0 rfl rfl (ci := 13) rfl 21 (by decide) (hts _ (List.mem_of_getElem? (i := 6) rfl)) rfl rfl (congrArg Value.int (hnd_21.trans rfl)) dX9_commands_97 ?_
          refine lv_iconst (v := 2) hx hb dX9_commands_100 (by decide) ?_
          refine lv_iload_n hx hb dX9_commands_101 rfl (lv_at hl 1 rfl) ?_
          refine lv_iconst (v := 1) hx hb dX9_commands_102 (by decide) ?_
          refine lv_isub hx hb dX9_commands_103 ?_
          refine k_iV (As := [.int (nI ((raA ch y K U).2.2.1)), .int 2, .int ((nI k) - 1)]) (rest := []) (Rs := [arB ty (r 6) 60 ch, arB ty (r 8) 40 ((raA ch y K U).2.2.2.1), arB ty (r 9) 40 ((raA ch y K U).2.2.2.2)]) (Bs' := [moB r (enF (hnd (rdG ch y K U S M).1 (upd (upd (rdF F ch y K U) 7 0) 16 0)) 2 ((nI k) - 1) z), arB ty (r 1) 215 (sqA 215 (enS (hnd (rdG ch y K U S M).1 (upd (upd (rdF F ch y K U) 7 0) 16 0)) R S)), arB ty (r 2) 215 (sqA 215 S), arB ty (r 5) 1720 (enH (hnd (rdG ch y K U S M).1 (upd (upd (rdF F ch y K U) 7 0) 16 0)) HA S z), arB ty (r 6) 60 ch, arB ty (r 8) 40 ((raA ch y K U).2.2.2.1), arB ty (r 9) 40 ((raA ch y K U).2.2.2.2)]) ⟨hx, hb, hml, hown, hts⟩ w (c_X9_ends l D ty r (hnd (rdG ch y K U S M).1 (upd (upd (rdF F ch y K U) 7 0) 16 0)) R S HA z hz (hnd_6.trans h6) (nI ((raA ch y K U).2.2.1)) 2 ((nI k) - 1)) (cwV 3 hts gX9_commands_X9_ends rfl rfl rfl ⟨rfl, hdN_X9_ends⟩ ⟨Nat.le_of_ble_eq_true rfl, Nat.le_of_ble_eq_true rfl⟩) [0, 1, 2, 3, 4, 5, 6] (nB := 7) (by decide) rfl rfl rfl rfl 0 rfl rfl (ci := 13) rfl rfl rfl hl.1 rfl (Nat.le_of_ble_eq_true rfl) dX9_commands_104 ⟨(Nat.zero_le _), (Nat.zero_le _)⟩ (fun H locs w => ?_)
          exact e_i hx hb hr hlocks (w.cast (by rw [cmF, rR_0 c31, rR_0 c31, rR_0 c31, rR_0 c31]; simp only [en_S u16, en_H u16, gR_1 hne, hk2])) (by rw [rR_0 c31, en_V u16]) dX9_commands_107 (Nat.le_refl _) (Nat.le_refl _)
        · have hWc : Wc.1 = 0 := (hnd_z u16).mp c69
          obtain ⟨hR, hG, hIV⟩ := hG1 hWc
          have w := w.cast (Bs' := [moB r (upd (upd (rdF F ch y K U) 7 0) 16 0), arB ty (r 1) 215 (sqA 215 T), arB ty (r 2) 215 (sqA 215 S), arB ty (r 5) 1720 HA, arB ty (r 6) 60 ch, arB ty (r 8) 40 ((raA ch y K U).2.2.2.1), arB ty (r 9) 40 ((raA ch y K U).2.2.2.2)]) (by rw [hnd_0 hWc, hR])
          refine lv_aload_n hx hb dX9_commands_72 rfl (lv_at hl 0 rfl) ?_
          refine lv_aload_n hx hb dX9_commands_73 rfl (lv_at hl 0 rfl) ?_
          refine r_get (v' := .ref (r 8)) hx hb hts in_X9_commands_X9 hown w 0 0 rfl rfl (ci := 13) rfl 22 (by decide) (hts _ (List.mem_of_getElem? (i := 8) rfl)) rfl rfl rfl dX9_commands_74 ?_
          refine lv_iload_n hx hb dX9_commands_77 rfl (lv_at hl 1 rfl) ?_
          refine r_iald (v := (((raA ch y K U).2.2.2.1) k)) hx hb w 5 0 rfl rfl 0 rfl k (by omega) (by omega) rfl rfl dX9_commands_78 ?_
          refine lv_aload_n hx hb dX9_commands_79 rfl (lv_at hl 0 rfl) ?_
          refine r_get (v' := .ref (r 9)) hx hb hts in_X9_commands_X9 hown w 0 0 rfl rfl (ci := 13) rfl 23 (by decide) (hts _ (List.mem_of_getElem? (i := 9) rfl)) rfl rfl rfl dX9_commands_80 ?_
          refine lv_iload_n hx hb dX9_commands_83 rfl (lv_at hl 1 rfl) ?_
          refine r_iald (v := (((raA ch y K U).2.2.2.2) k)) hx hb w 6 0 rfl rfl 0 rfl k (by omega) (by omega) rfl rfl dX9_commands_84 ?_
          refine k_iV (As := [.int (((raA ch y K U).2.2.2.1) k), .int (((raA ch y K U).2.2.2.2) k)]) (rest := []) (Rs := [arB ty (r 2) 215 (sqA 215 S), arB ty (r 5) 1720 HA, arB ty (r 6) 60 ch, arB ty (r 8) 40 ((raA ch y K U).2.2.2.1), arB ty (r 9) 40 ((raA ch y K U).2.2.2.2)]) (Bs' := [moB r (hnd (dW T (((raA ch y K U).2.2.2.1) k) (((raA ch y K U).2.2.2.2) k)) (upd (upd (rdF F ch y K U) 7 0) 16 0)), arB ty (r 1) 215 (sqA 215 (gR (dW T (((raA ch y K U).2.2.2.1) k) (((raA ch y K U).2.2.2.2) k)) (dX (T, X) (((raA ch y K U).2.2.2.1) k) (((raA ch y K U).2.2.2.2) k)).1 (if (((raA ch y K U).2.2.2.1) k) = 114 then upd T 208 (((raA ch y K U).2.2.2.2) k) else T))), arB ty (r 2) 215 (sqA 215 S), arB ty (r 5) 1720 HA, arB ty (r 6) 60 ch, arB ty (r 8) 40 ((raA ch y K U).2.2.2.1), arB ty (r 9) 40 ((raA ch y K U).2.2.2.2)]) ⟨hx, hb, hml, hown, hts⟩ w (c_X9_does l D ty r (upd (upd (rdF F ch y K U) 7 0) 16 0) T u16 X (B + 50 * k) (by omega) hIV (((raA ch y K U).2.2.2.1) k) (((raA ch y K U).2.2.2.2) k)) (cwV 2 hts gX9_commands_X9_does rfl rfl rfl ⟨rfl, hdN_X9_does⟩ ⟨Nat.le_of_ble_eq_true rfl, Nat.le_of_ble_eq_true rfl⟩) [0, 1, 2, 3, 4, 5, 6] (nB := 7) (by decide) rfl rfl rfl rfl 0 rfl rfl (ci := 13) rfl rfl rfl hl.1 rfl (Nat.le_of_ble_eq_true rfl) dX9_commands_85 ⟨(Nat.zero_le _), (Nat.zero_le _)⟩ (fun H locs w => ?_)
          refine lv_istore_n (lv' := [(2, .int (dRv T X (((raA ch y K U).2.2.2.1) k) (((raA ch y K U).2.2.2.2) k))), (0, .ref (r 0)), (1, .int (nI k))]) hx hb dX9_commands_88 rfl hl (by decide) rfl (fun ls hl => ?_)
          by_cases hdW : (dW T ((raA ch y K U).2.2.2.1 k) ((raA ch y K U).2.2.2.2 k)).1 = 0
          · refine lv_iinc (v := (nI (k + 1))) (lv' := [(1, .int (nI (k + 1))), (2, .int (dRv T X (((raA ch y K U).2.2.2.1) k) (((raA ch y K U).2.2.2.2) k))), (0, .ref (r 0))]) hx hb dX9_commands_89 hl (k := 2) rfl (inc1 k) (by decide) rfl (fun ls hl => ?_)
            refine lv_goto (tgt := 57) hx hb dX9_commands_92 (by decide) ?_
            exact ihk _ _ _ ⟨(dX (T, X) ((raA ch y K U).2.2.2.1 k) ((raA ch y K U).2.2.2.2 k)).1, (dX (T, X) ((raA ch y K U).2.2.2.1 k) ((raA ch y K U).2.2.2.2 k)).2, dW T ((raA ch y K U).2.2.2.1 k) ((raA ch y K U).2.2.2.2 k), gR (dW T ((raA ch y K U).2.2.2.1 k) ((raA ch y K U).2.2.2.2 k)) (dX (T, X) ((raA ch y K U).2.2.2.1 k) ((raA ch y K U).2.2.2.2 k)).1 (if ((raA ch y K U).2.2.2.1 k) = 114 then upd T 208 ((raA ch y K U).2.2.2.2 k) else T), w, lv_sub hl [2, 0] rfl, (fun _ => ⟨gR_0 hdW, hG.trans (by rw [show (raA ch y K U).2.2.1 - k = ((raA ch y K U).2.2.1 - (k + 1)) + 1 by omega]; exact cG_y hdW), by rw [show B + 50 * (k + 1) = B + 50 * k + 50 by omega]; exact IV_do hIV (by omega) hdW⟩), (fun q => absurd hdW q)⟩ (by omega)
          · refine lv_iinc (v := (nI (k + 1))) (lv' := [(1, .int (nI (k + 1))), (2, .int (dRv T X (((raA ch y K U).2.2.2.1) k) (((raA ch y K U).2.2.2.2) k))), (0, .ref (r 0))]) hx hb dX9_commands_89 hl (k := 2) rfl (inc1 k) (by decide) rfl (fun ls hl => ?_)
            refine lv_goto (tgt := 57) hx hb dX9_commands_92 (by decide) ?_
            exact ihk _ _ _ ⟨T, X, dW T ((raA ch y K U).2.2.2.1 k) ((raA ch y K U).2.2.2.2 k), gR (dW T ((raA ch y K U).2.2.2.1 k) ((raA ch y K U).2.2.2.2 k)) (dX (T, X) ((raA ch y K U).2.2.2.1 k) ((raA ch y K U).2.2.2.2 k)).1 (if ((raA ch y K U).2.2.2.1 k) = 114 then upd T 208 ((raA ch y K U).2.2.2.2 k) else T), w, lv_sub hl [2, 0] rfl, (fun q => absurd q hdW), (fun _ => hG.trans (by rw [show (raA ch y K U).2.2.1 - k = ((raA ch y K U).2.2.1 - (k + 1)) + 1 by omega]; exact cG_n hdW))⟩ (by omega)
    · exact absurd c46 (by decide)
  · refine lv_iconst (v := 1) hx hb dX9_commands_34 (by decide) ?_
    refine lv_goto (tgt := 39) hx hb dX9_commands_35 (by decide) ?_
    have w := w.cast (Bs' := [moB r (rdF F ch y K U), arB ty (r 1) 215 (sqA 215 S), arB ty (r 2) 215 (sqA 215 T0), arB ty (r 5) 1720 HA, arB ty (r 6) 60 ch, arB ty (r 8) 40 ((raA ch y K U).2.2.2.1), arB ty (r 9) 40 ((raA ch y K U).2.2.2.2)]) rfl
    refine r_put hx hb hts in_X9_commands_X9 tyX9 tyX9_ok nmX9 hown w 0 0 rfl rfl (ci := 13) rfl 7 (by decide) (hts _ (List.mem_of_getElem? (i := 5) rfl)) rfl rfl (ty := .int) (by decide +kernel) rfl rfl (Nat.le_of_ble_eq_true rfl) (moB r (upd (rdF F ch y K U) 7 1)) rfl [moB r (upd (rdF F ch y K U) 7 1), arB ty (r 1) 215 (sqA 215 S), arB ty (r 2) 215 (sqA 215 T0), arB ty (r 5) 1720 HA, arB ty (r 6) 60 ch, arB ty (r 8) 40 ((raA ch y K U).2.2.2.1), arB ty (r 9) 40 ((raA ch y K U).2.2.2.2)] rfl dX9_commands_39 (fun H locs w => ?_)
    refine lv_aload_n hx hb dX9_commands_42 rfl (lv_at hl 0 rfl) ?_
    refine r_get (v' := .int 1) hx hb hts in_X9_commands_X9 hown w 0 0 rfl rfl (ci := 13) rfl 7 (by decide) (hts _ (List.mem_of_getElem? (i := 5) rfl)) rfl rfl rfl dX9_commands_43 ?_
    refine lv_if_eq (tgt := 51) hx hb dX9_commands_46 (by decide) (fun c46 => ?_) (fun c46 => ?_)
    · exact absurd c46 (by decide)
    · refine lv_iconst (v := 0) hx hb dX9_commands_49 (by decide) ?_
      exact e_i hx hb hr hlocks (w.cast (by simp only [cmF, rR_1 c31])) (by rw [rR_1 c31]) dX9_commands_50 (Nat.le_refl _) (Nat.le_refl _)
