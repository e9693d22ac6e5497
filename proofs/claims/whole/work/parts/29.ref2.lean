theorem in_X9_joins_X9 : ∀ w ∈ wsX90, w ∈ wsX9_joins := by decide +kernel
theorem hdN_X9_joins : yX9_joins.cls ≠ "java/lang/invoke/MethodHandle" ∧ yX9_joins.cls ≠ "java/lang/invoke/VarHandle" ∧ (parseMethodDescriptor yX9_joins.desc).map (fun d => d.parameters.length) = some 1 := by decide +kernel
set_option maxRecDepth 100000 in
set_option maxHeartbeats 4000000 in
theorem c_X9_joins (l : Launch) (D : va_G) (ty : Nat → ClassId) (r : Nat → Nat) (F S : pS) (hF : F 16 = 0) (n q : Nat) (hI : pSh S n q) (ht : nOK S) (M : pS) (h : Int32)  : Mi l yX9_joins wsX9_joins (kR 4 92 0 0) D (kTY ty) [.ref (r 0), .int h] [moB r F, arB ty (r 1) 215 (sqA 215 S)] [moB r (hnd (wJoin S h) F), arB ty (r 1) 215 (sqA 215 (gR (wJoin S h) (oJL n (cN h) q (S, M)).2.1 S))] (gR (wJoin S h) (oJL n (cN h) q (S, M)).1 0) 0 0 := by
  refine m_i (cc := cX9_joins) (maxL := 2) (ret := (some .int)) (by decide +kernel) rfl (Nat.le_of_ble_eq_true rfl) ?_
  intro p e s m below meth c A ls hx hb hml hr hlocks hown hts w hl
  have hown : s.vm.findClass RX9 = some m.cls := hown
  have hl : lv_has ls 2 [(0, .ref (r 0)), (1, .int h)] := hl
  obtain ⟨h0, hn, h1, hq, he, hd, hdr, hwr⟩ := id hI
  refine lv_aload_n hx hb dX9_joins_0 rfl (lv_at hl 0 rfl) ?_
  refine k_cut (fun H locs ls => kW D (kTY ty) A s.heap s H locs [moB r F, arB ty (r 1) 215 (sqA 215 S)] ∧ lv_has ls 2 [(0, .ref (r 0)), (1, .int h)]) (pc' := 14) (st' := [.int (bI (!(pHas h n))), .ref (r 0)]) ?_ ?_
  · intro H locs ls hI
    obtain ⟨w, hl⟩ := hI
    refine lv_iconst (v := 3) hx hb dX9_joins_14 (by decide) ?_
    refine lv_iload_n hx hb dX9_joins_15 rfl (lv_at hl 1 rfl) ?_
    refine k_vV (As := [.int (bI (!(pHas h n))), .int 3, .int h]) (rest := []) (Rs := [arB ty (r 1) 215 (sqA 215 S)]) (Bs' := [moB r (hin (!(pHas h n)) 3 h F), arB ty (r 1) 215 (sqA 215 S)]) ⟨hx, hb, hml, hown, hts⟩ w (c_X9_hinders l D ty r F (!(pHas h n)) 3 h) (cwV 3 hts gX9_joins_X9_hinders rfl rfl rfl ⟨rfl, hdN_X9_hinders⟩ ⟨Nat.le_of_ble_eq_true rfl, Nat.le_of_ble_eq_true rfl⟩) [0, 1] (nB := 2) (by decide) rfl rfl rfl rfl 0 rfl rfl (ci := 13) rfl rfl rfl hl.1 rfl (Nat.le_of_ble_eq_true rfl) dX9_joins_16 ⟨(Nat.zero_le _), (Nat.zero_le _)⟩ (fun H locs w => ?_)
    refine lv_aload_n hx hb dX9_joins_19 rfl (lv_at hl 0 rfl) ?_
    refine r_get (v' := .int ((hin (!(pHas h n)) 3 h F) 16)) hx hb hts in_X9_joins_X9 hown w 0 0 rfl rfl (ci := 13) rfl 16 (by decide) (hts _ (List.mem_of_getElem? (i := 1) rfl)) rfl rfl rfl dX9_joins_20 ?_
    refine lv_if_ne (tgt := 75) hx hb dX9_joins_23 (by decide) (fun c23 => ?_) (fun c23 => ?_)
    · refine lv_aload_n hx hb dX9_joins_75 rfl (lv_at hl 0 rfl) ?_
      refine r_get (v' := .int ((hin (!(pHas h n)) 3 h F) 16)) hx hb hts in_X9_joins_X9 hown w 0 0 rfl rfl (ci := 13) rfl 16 (by decide) (hts _ (List.mem_of_getElem? (i := 1) rfl)) rfl rfl rfl dX9_joins_76 ?_
      refine lv_if_eq (tgt := 84) hx hb dX9_joins_79 (by decide) (fun c79 => ?_) (fun c79 => ?_)
      · exact absurd c79 c23
      · refine lv_iconst (v := 0) hx hb dX9_joins_82 (by decide) ?_
        exact e_i hx hb hr hlocks (w.cast (by rw [gR_1 (jo_1 hI hF c23).2, (jo_1 hI hF c23).1])) (by rw [gR_1 (jo_1 hI hF c23).2]) dX9_joins_83 (Nat.le_refl _) (Nat.le_refl _)
    · have hh := (hin_z hF (by decide)).mp c23
      have hh : pHas h n = true := by cases e : pHas h n; (rw [e] at hh; exact absurd hh (by decide)); rfl
      obtain ⟨i, hi, rfl⟩ := (pHas_iff (by omega)).mp hh
      refine lv_aload_n hx hb dX9_joins_26 rfl (lv_at hl 0 rfl) ?_
      refine k_cut (fun H locs ls => kW D (kTY ty) A s.heap s H locs [moB r (hin (!(pHas (nI i) n)) 3 (nI i) F), arB ty (r 1) 215 (sqA 215 S)] ∧ lv_has ls 2 [(0, .ref (r 0)), (1, .int (nI i))]) (pc' := 41) (st' := [.int (bI (decide (¬ pPl S (nI i) q = -1))), .ref (r 0)]) ?_ ?_
      · intro H locs ls hI
        obtain ⟨w, hl⟩ := hI
        refine lv_iconst (v := 4) hx hb dX9_joins_41 (by decide) ?_
        refine lv_aload_n hx hb dX9_joins_42 rfl (lv_at hl 0 rfl) ?_
        refine lv_iload_n hx hb dX9_joins_43 rfl (lv_at hl 1 rfl) ?_
        refine k_iV (As := [.int (nI i)]) (rest := [.int 4, .int (bI (decide (¬ pPl S (nI i) q = -1))), .ref (r 0)]) (Rs := []) (Bs' := [moB r (hin (!(pHas (nI i) n)) 3 (nI i) F), arB ty (r 1) 215 (sqA 215 S)]) ⟨hx, hb, hml, hown, hts⟩ w (c_X9_placeOf l D ty r (hin (!(pHas (nI i) n)) 3 (nI i) F) S q (hI).2.2.1 (hI).2.2.2.1 (nI i)) (cwV 1 hts gX9_joins_X9_placeOf rfl rfl rfl ⟨rfl, hdN_X9_placeOf⟩ ⟨Nat.le_of_ble_eq_true rfl, Nat.le_of_ble_eq_true rfl⟩) [0, 1] (nB := 2) (by decide) rfl rfl rfl rfl 0 rfl rfl (ci := 13) rfl rfl rfl hl.1 rfl (Nat.le_of_ble_eq_true rfl) dX9_joins_44 ⟨(Nat.zero_le _), (Nat.zero_le _)⟩ (fun H locs w => ?_)
        refine k_vV (As := [.int (bI (decide (¬ pPl S (nI i) q = -1))), .int 4, .int (pPl S (nI i) q)]) (rest := []) (Rs := [arB ty (r 1) 215 (sqA 215 S)]) (Bs' := [moB r (hin (decide (¬ pPl S (nI i) q = -1)) 4 (pPl S (nI i) q) (hin (!(pHas (nI i) n)) 3 (nI i) F)), arB ty (r 1) 215 (sqA 215 S)]) ⟨hx, hb, hml, hown, hts⟩ w (c_X9_hinders l D ty r (hin (!(pHas (nI i) n)) 3 (nI i) F) (decide (¬ pPl S (nI i) q = -1)) 4 (pPl S (nI i) q)) (cwV 3 hts gX9_joins_X9_hinders rfl rfl rfl ⟨rfl, hdN_X9_hinders⟩ ⟨Nat.le_of_ble_eq_true rfl, Nat.le_of_ble_eq_true rfl⟩) [0, 1] (nB := 2) (by decide) rfl rfl rfl rfl 0 rfl rfl (ci := 13) rfl rfl rfl hl.1 rfl (Nat.le_of_ble_eq_true rfl) dX9_joins_47 ⟨(Nat.zero_le _), (Nat.zero_le _)⟩ (fun H locs w => ?_)
        refine lv_aload_n hx hb dX9_joins_50 rfl (lv_at hl 0 rfl) ?_
        refine k_cut (fun H locs ls => kW D (kTY ty) A s.heap s H locs [moB r (hin (decide (¬ pPl S (nI i) q = -1)) 4 (pPl S (nI i) q) (hin (!(pHas (nI i) n)) 3 (nI i) F)), arB ty (r 1) 215 (sqA 215 S)] ∧ lv_has ls 2 [(0, .ref (r 0)), (1, .int (nI i))]) (pc' := 64) (st' := [.int (bI (decide (pLeft S i = 0))), .ref (r 0)]) ?_ ?_
        · intro H locs ls hI
          obtain ⟨w, hl⟩ := hI
          refine lv_bipush (v := 6) hx hb dX9_joins_64 (by decide) ?_
          refine lv_aload_n hx hb dX9_joins_66 rfl (lv_at hl 0 rfl) ?_
          refine lv_iload_n hx hb dX9_joins_67 rfl (lv_at hl 1 rfl) ?_
          refine lv_iconst (v := 3) hx hb dX9_joins_68 (by decide) ?_
          refine k_iV (As := [.int (nI i), .int 3]) (rest := [.int 6, .int (bI (decide (pLeft S i = 0))), .ref (r 0)]) (Rs := []) (Bs' := [moB r (hin (decide (¬ pPl S (nI i) q = -1)) 4 (pPl S (nI i) q) (hin (!(pHas (nI i) n)) 3 (nI i) F)), arB ty (r 1) 215 (sqA 215 S)]) ⟨hx, hb, hml, hown, hts⟩ w (c_X9_of l D ty r (hin (decide (¬ pPl S (nI i) q = -1)) 4 (pPl S (nI i) q) (hin (!(pHas (nI i) n)) 3 (nI i) F)) S i 3 (by omega)) (cwV 2 hts gX9_joins_X9_of rfl rfl rfl ⟨rfl, hdN_X9_of⟩ ⟨Nat.le_of_ble_eq_true rfl, Nat.le_of_ble_eq_true rfl⟩) [0, 1] (nB := 2) (by decide) rfl rfl rfl rfl 0 rfl rfl (ci := 13) rfl rfl rfl hl.1 rfl (Nat.le_of_ble_eq_true rfl) dX9_joins_69 ⟨(Nat.zero_le _), (Nat.zero_le _)⟩ (fun H locs w => ?_)
          refine k_vV (As := [.int (bI (decide (pLeft S i = 0))), .int 6, .int (S (1 + 6 * i + 3))]) (rest := []) (Rs := [arB ty (r 1) 215 (sqA 215 S)]) (Bs' := [moB r (hin (decide (pLeft S i = 0)) 6 (S (1 + 6 * i + 3)) (hin (decide (¬ pPl S (nI i) q = -1)) 4 (pPl S (nI i) q) (hin (!(pHas (nI i) n)) 3 (nI i) F))), arB ty (r 1) 215 (sqA 215 S)]) ⟨hx, hb, hml, hown, hts⟩ w (c_X9_hinders l D ty r (hin (decide (¬ pPl S (nI i) q = -1)) 4 (pPl S (nI i) q) (hin (!(pHas (nI i) n)) 3 (nI i) F)) (decide (pLeft S i = 0)) 6 (S (1 + 6 * i + 3))) (cwV 3 hts gX9_joins_X9_hinders rfl rfl rfl ⟨rfl, hdN_X9_hinders⟩ ⟨Nat.le_of_ble_eq_true rfl, Nat.le_of_ble_eq_true rfl⟩) [0, 1] (nB := 2) (by decide) rfl rfl rfl rfl 0 rfl rfl (ci := 13) rfl rfl rfl hl.1 rfl (Nat.le_of_ble_eq_true rfl) dX9_joins_72 ⟨(Nat.zero_le _), (Nat.zero_le _)⟩ (fun H locs w => ?_)
          have w := w.cast (Bs' := [moB r (hnd (wJoin S (nI i)) F), arB ty (r 1) 215 (sqA 215 S)]) (by rw [jo_W hI hi hF])
          refine lv_aload_n hx hb dX9_joins_75 rfl (lv_at hl 0 rfl) ?_
          refine r_get (v' := .int ((hnd (wJoin S (nI i)) F) 16)) hx hb hts in_X9_joins_X9 hown w 0 0 rfl rfl (ci := 13) rfl 16 (by decide) (hts _ (List.mem_of_getElem? (i := 1) rfl)) rfl rfl rfl dX9_joins_76 ?_
          refine lv_if_eq (tgt := 84) hx hb dX9_joins_79 (by decide) (fun c79 => ?_) (fun c79 => ?_)
          · have hW : (wJoin S (nI i)).1 = 0 := (hnd_z hF).mp c79
            have w := w.cast (Bs' := [moB r F, arB ty (r 1) 215 (sqA 215 S)]) (by rw [hnd_0 hW])
            have hnq := jo_no hI hi hW
            refine k_loop (fun k H locs ls => ∃ (T : pS) (U : pS), kW D (kTY ty) A s.heap s H locs [moB r F, arB ty (r 1) 215 (sqA 215 T)] ∧ lv_has ls 2 [(0, .ref (r 0)), (1, .int (nI i))] ∧ (pSh T n (q - k)) ∧ (nOK T) ∧ (∀ j, j < q - k → T (50 + j) ≠ nI i) ∧ (oJL n i q (S, M) = oJL n i (q - k) (T, U))) q 0 (by omega) ⟨S, M, w, lv_sub hl [0, 1] rfl, hI, ht, hnq, rfl⟩ ?_
            intro k hk0 hk ihk H locs ls hI
            obtain ⟨T, U, w, hl, hT, htT, hnqT, hoj⟩ := hI
            refine lv_aload_n hx hb dX9_joins_84 rfl (lv_at hl 0 rfl) ?_
            refine r_get (v' := .ref (r 1)) hx hb hts in_X9_joins_X9 hown w 0 0 rfl rfl (ci := 13) rfl 0 (by decide) (hts _ (List.mem_of_getElem? (i := 2) rfl)) rfl rfl rfl dX9_joins_85 ?_
            refine lv_bipush (v := 49) hx hb dX9_joins_88 (by decide) ?_
            refine r_iald (v := (T 49)) hx hb w 1 0 rfl rfl 0 rfl 49 (by omega) (Nat.le_of_ble_eq_true rfl) rfl (sqA_at (by omega)) dX9_joins_90 ?_
            refine r_eq (y := (nI (q - k))) hT.2.2.1 ?_
            refine lv_if_le (tgt := 161) hx hb dX9_joins_91 (by decide) (fun c91 => ?_) (fun c91 => ?_)
            · have e0 := nI_le0 c91 (by omega)
              have hroom := pSh_room hT hi hnqT
              refine lv_aload_n hx hb dX9_joins_161 rfl (lv_at hl 0 rfl) ?_
              refine lv_iload_n hx hb dX9_joins_162 rfl (lv_at hl 1 rfl) ?_
              refine k_vV (As := [.int (nI i)]) (rest := []) (Rs := []) (Bs' := [moB r F, arB ty (r 1) 215 (sqA 215 (sCome T (q - k) i))]) ⟨hx, hb, hml, hown, hts⟩ w (c_X9_comesTo l D ty r F T (q - k) (hT).2.2.1 (by omega) i) (cwV 1 hts gX9_joins_X9_comesTo rfl rfl rfl ⟨rfl, hdN_X9_comesTo⟩ ⟨Nat.le_of_ble_eq_true rfl, Nat.le_of_ble_eq_true rfl⟩) [0, 1] (nB := 2) (by decide) rfl rfl rfl rfl 0 rfl rfl (ci := 13) rfl rfl rfl hl.1 rfl (Nat.le_of_ble_eq_true rfl) dX9_joins_163 ⟨(Nat.zero_le _), (Nat.zero_le _)⟩ (fun H locs w => ?_)
              refine lv_aload_n hx hb dX9_joins_166 rfl (lv_at hl 0 rfl) ?_
              refine r_get (v' := .ref (r 1)) hx hb hts in_X9_joins_X9 hown w 0 0 rfl rfl (ci := 13) rfl 0 (by decide) (hts _ (List.mem_of_getElem? (i := 2) rfl)) rfl rfl rfl dX9_joins_167 ?_
              refine lv_bipush (v := 49) hx hb dX9_joins_170 (by decide) ?_
              refine r_iald (v := ((sCome T (q - k) i) 49)) hx hb w 1 0 rfl rfl 0 rfl 49 (by omega) (Nat.le_of_ble_eq_true rfl) rfl (sqA_at (by omega)) dX9_joins_172 ?_
              refine r_eq (y := (nI (q - k + 1))) (upds rfl) ?_
              refine lv_iconst (v := 1) hx hb dX9_joins_173 (by decide) ?_
              refine lv_isub hx hb dX9_joins_174 ?_
              refine r_eq (y := (nI (q - k))) (nI_pred (q - k)) ?_
              exact e_i hx hb hr hlocks (w.cast (by rw [gR_0 hW, hnd_0 hW, cN_nI (by omega), hoj, e0]; rfl)) (by rw [gR_0 hW, cN_nI (by omega), hoj, e0]; rfl) dX9_joins_175 (Nat.le_refl _) (Nat.le_refl _)
            · have hp := nI_gt0 c91
              obtain ⟨z, hz, ez⟩ := hT.2.2.2.2.1 (q - k - 1) (by omega)
              have ez2 : T (50 + (q - k) - 1) = nI z := by rw [show 50 + (q - k) - 1 = 50 + (q - k - 1) by omega]; exact ez
              have hroom := pSh_room hT hi hnqT
              have hzi : z ≠ i := fun e => hnqT (q - k - 1) (by omega) (by rw [ez, e])
              refine lv_aload_n hx hb dX9_joins_94 rfl (lv_at hl 0 rfl) ?_
              refine lv_aload_n hx hb dX9_joins_95 rfl (lv_at hl 0 rfl) ?_
              refine r_get (v' := .ref (r 1)) hx hb hts in_X9_joins_X9 hown w 0 0 rfl rfl (ci := 13) rfl 0 (by decide) (hts _ (List.mem_of_getElem? (i := 2) rfl)) rfl rfl rfl dX9_joins_96 ?_
              refine lv_bipush (v := 50) hx hb dX9_joins_99 (by decide) ?_
              refine lv_aload_n hx hb dX9_joins_101 rfl (lv_at hl 0 rfl) ?_
              refine r_get (v' := .ref (r 1)) hx hb hts in_X9_joins_X9 hown w 0 0 rfl rfl (ci := 13) rfl 0 (by decide) (hts _ (List.mem_of_getElem? (i := 2) rfl)) rfl rfl rfl dX9_joins_102 ?_
              refine lv_bipush (v := 49) hx hb dX9_joins_105 (by decide) ?_
              refine r_iald (v := (T 49)) hx hb w 1 0 rfl rfl 0 rfl 49 (by omega) (Nat.le_of_ble_eq_true rfl) rfl (sqA_at (by omega)) dX9_joins_107 ?_
              refine r_eq (y := (nI (q - k))) hT.2.2.1 ?_
              refine lv_iadd hx hb dX9_joins_108 ?_
              refine r_eq (y := (nI (50 + (q - k)))) (nI_add 50 (q - k)) ?_
              refine lv_iconst (v := 1) hx hb dX9_joins_109 (by decide) ?_
              refine lv_isub hx hb dX9_joins_110 ?_
              refine r_eq (y := (nI ((50 + (q - k)) - 1))) (pk_sub (a := (50 + (q - k))) (b := 1) (by omega)) ?_
              refine r_iald (v := (T ((50 + (q - k)) - 1))) hx hb w 1 0 rfl rfl 0 rfl ((50 + (q - k)) - 1) (by omega) (Nat.le_of_ble_eq_true rfl) rfl (sqA_at (by omega)) dX9_joins_111 ?_
              refine r_eq (y := (nI z)) ez2 ?_
              refine lv_iload_n hx hb dX9_joins_112 rfl (lv_at hl 1 rfl) ?_
              refine k_iV (As := [.int (nI z), .int (nI i)]) (rest := []) (Rs := []) (Bs' := [moB r F, arB ty (r 1) 215 (sqA 215 T)]) ⟨hx, hb, hml, hown, hts⟩ w (c_X9_doQuarrel l D ty r F T z i (by omega) (by omega)) (cwV 2 hts gX9_joins_X9_doQuarrel rfl rfl rfl ⟨rfl, hdN_X9_doQuarrel⟩ ⟨Nat.le_of_ble_eq_true rfl, Nat.le_of_ble_eq_true rfl⟩) [0, 1] (nB := 2) (by decide) rfl rfl rfl rfl 0 rfl rfl (ci := 13) rfl rfl rfl hl.1 rfl (Nat.le_of_ble_eq_true rfl) dX9_joins_113 ⟨(Nat.zero_le _), (Nat.zero_le _)⟩ (fun H locs w => ?_)
              refine lv_if_eq (tgt := 161) hx hb dX9_joins_116 (by decide) (fun c116 => ?_) (fun c116 => ?_)
              · have c116 := bI_0.mp c116
                refine lv_aload_n hx hb dX9_joins_161 rfl (lv_at hl 0 rfl) ?_
                refine lv_iload_n hx hb dX9_joins_162 rfl (lv_at hl 1 rfl) ?_
                refine k_vV (As := [.int (nI i)]) (rest := []) (Rs := []) (Bs' := [moB r F, arB ty (r 1) 215 (sqA 215 (sCome T (q - k) i))]) ⟨hx, hb, hml, hown, hts⟩ w (c_X9_comesTo l D ty r F T (q - k) (hT).2.2.1 (by omega) i) (cwV 1 hts gX9_joins_X9_comesTo rfl rfl rfl ⟨rfl, hdN_X9_comesTo⟩ ⟨Nat.le_of_ble_eq_true rfl, Nat.le_of_ble_eq_true rfl⟩) [0, 1] (nB := 2) (by decide) rfl rfl rfl rfl 0 rfl rfl (ci := 13) rfl rfl rfl hl.1 rfl (Nat.le_of_ble_eq_true rfl) dX9_joins_163 ⟨(Nat.zero_le _), (Nat.zero_le _)⟩ (fun H locs w => ?_)
                refine lv_aload_n hx hb dX9_joins_166 rfl (lv_at hl 0 rfl) ?_
                refine r_get (v' := .ref (r 1)) hx hb hts in_X9_joins_X9 hown w 0 0 rfl rfl (ci := 13) rfl 0 (by decide) (hts _ (List.mem_of_getElem? (i := 2) rfl)) rfl rfl rfl dX9_joins_167 ?_
                refine lv_bipush (v := 49) hx hb dX9_joins_170 (by decide) ?_
                refine r_iald (v := ((sCome T (q - k) i) 49)) hx hb w 1 0 rfl rfl 0 rfl 49 (by omega) (Nat.le_of_ble_eq_true rfl) rfl (sqA_at (by omega)) dX9_joins_172 ?_
                refine r_eq (y := (nI (q - k + 1))) (upds rfl) ?_
                refine lv_iconst (v := 1) hx hb dX9_joins_173 (by decide) ?_
                refine lv_isub hx hb dX9_joins_174 ?_
                refine r_eq (y := (nI (q - k))) (nI_pred (q - k)) ?_
                exact e_i hx hb hr hlocks (w.cast (by rw [gR_0 hW, hnd_0 hW, cN_nI (by omega), hoj, oJL_no hp ez (by omega) c116])) (by rw [gR_0 hW, cN_nI (by omega), hoj, oJL_no hp ez (by omega) c116]) dX9_joins_175 (Nat.le_refl _) (Nat.le_refl _)
              · have c116 := bI_1.mp c116
                have hdq := c116
                refine lv_aload_n hx hb dX9_joins_119 rfl (lv_at hl 0 rfl) ?_
                refine lv_aload_n hx hb dX9_joins_120 rfl (lv_at hl 0 rfl) ?_
                refine r_get (v' := .ref (r 1)) hx hb hts in_X9_joins_X9 hown w 0 0 rfl rfl (ci := 13) rfl 0 (by decide) (hts _ (List.mem_of_getElem? (i := 2) rfl)) rfl rfl rfl dX9_joins_121 ?_
                refine lv_bipush (v := 50) hx hb dX9_joins_124 (by decide) ?_
                refine lv_aload_n hx hb dX9_joins_126 rfl (lv_at hl 0 rfl) ?_
                refine r_get (v' := .ref (r 1)) hx hb hts in_X9_joins_X9 hown w 0 0 rfl rfl (ci := 13) rfl 0 (by decide) (hts _ (List.mem_of_getElem? (i := 2) rfl)) rfl rfl rfl dX9_joins_127 ?_
                refine lv_bipush (v := 49) hx hb dX9_joins_130 (by decide) ?_
                refine r_iald (v := (T 49)) hx hb w 1 0 rfl rfl 0 rfl 49 (by omega) (Nat.le_of_ble_eq_true rfl) rfl (sqA_at (by omega)) dX9_joins_132 ?_
                refine r_eq (y := (nI (q - k))) hT.2.2.1 ?_
                refine lv_iadd hx hb dX9_joins_133 ?_
                refine r_eq (y := (nI (50 + (q - k)))) (nI_add 50 (q - k)) ?_
                refine lv_iconst (v := 1) hx hb dX9_joins_134 (by decide) ?_
                refine lv_isub hx hb dX9_joins_135 ?_
                refine r_eq (y := (nI ((50 + (q - k)) - 1))) (pk_sub (a := (50 + (q - k))) (b := 1) (by omega)) ?_
                refine r_iald (v := (T ((50 + (q - k)) - 1))) hx hb w 1 0 rfl rfl 0 rfl ((50 + (q - k)) - 1) (by omega) (Nat.le_of_ble_eq_true rfl) rfl (sqA_at (by omega)) dX9_joins_136 ?_
                refine r_eq (y := (nI z)) ez2 ?_
                refine lv_iload_n hx hb dX9_joins_137 rfl (lv_at hl 1 rfl) ?_
                refine k_iV (As := [.int (nI z), .int (nI i)]) (rest := []) (Rs := []) (Bs' := [moB r F, arB ty (r 1) 215 (sqA 215 ((oQuarrel (T, U) (pWin T n z i) (pLose T n z i)).1))]) ⟨hx, hb, hml, hown, hts⟩ w (c_X9_quarrel l D ty r F T n (hT).1 (hT).2.1 (cN (T 122)) htT.1 htT.2 U z i (by omega) (by omega)) (cwV 2 hts gX9_joins_X9_quarrel rfl rfl rfl ⟨rfl, hdN_X9_quarrel⟩ ⟨Nat.le_of_ble_eq_true rfl, Nat.le_of_ble_eq_true rfl⟩) [0, 1] (nB := 2) (by decide) rfl rfl rfl rfl 0 rfl rfl (ci := 13) rfl rfl rfl hl.1 rfl (Nat.le_of_ble_eq_true rfl) dX9_joins_138 ⟨(Nat.zero_le _), (Nat.zero_le _)⟩ (fun H locs w => ?_)
                have hpw := pWin_lt (S := T) (n := n) (a := z) (j := i) (by omega) (by omega)
                refine lv_iload_n hx hb dX9_joins_141 rfl (lv_at hl 1 rfl) ?_
                refine lv_icmp_eq (tgt := 147) hx hb dX9_joins_142 (by decide) (fun c142 => ?_) (fun c142 => ?_)
                · have c142 := (nI_eq (a := (pWin T n z i)) (b := i) (by omega) (by omega)).mp c142
                  have w := w.cast (Bs' := [moB r F, arB ty (r 1) 215 (sqA 215 ((oQuarrel (T, U) i z).1))]) (by rw [lose_i c142 hzi, c142])
                  have hT1 := pSh_quarrel (M := U) (w := i) (l := z) hT htT.2 (by omega) (by omega)
                  have hnw : ¬ pWin T n z i = z := fun e => hzi (e.symm.trans c142)
                  refine lv_aload_n hx hb dX9_joins_147 rfl (lv_at hl 0 rfl) ?_
                  refine r_get (v' := .ref (r 1)) hx hb hts in_X9_joins_X9 hown w 0 0 rfl rfl (ci := 13) rfl 0 (by decide) (hts _ (List.mem_of_getElem? (i := 2) rfl)) rfl rfl rfl dX9_joins_148 ?_
                  refine lv_bipush (v := 49) hx hb dX9_joins_151 (by decide) ?_
                  refine lv_dup2_11 hx hb dX9_joins_153 rfl rfl ?_
                  refine r_iald (v := (((oQuarrel (T, U) i z).1) 49)) hx hb w 1 0 rfl rfl 0 rfl 49 (by omega) (Nat.le_of_ble_eq_true rfl) rfl (sqA_at (by omega)) dX9_joins_154 ?_
                  refine r_eq (y := (nI (q - k))) hT1.2.2.1 ?_
                  refine lv_iconst (v := 1) hx hb dX9_joins_155 (by decide) ?_
                  refine lv_isub hx hb dX9_joins_156 ?_
                  refine r_eq (y := (nI ((q - k) - 1))) (pk_sub (a := (q - k)) (b := 1) (by omega)) ?_
                  refine r_iast hx hb w 1 0 rfl rfl 0 rfl 49 (by omega) (Nat.le_of_ble_eq_true rfl) rfl (arB ty (r 1) 215 (sqA 215 (sGo (oQuarrel (T, U) i z).1 (q - k) (q - k - 1)))) ((arB_st (by omega)).trans (by rw [go_ref hp])) [moB r F, arB ty (r 1) 215 (sqA 215 (sGo (oQuarrel (T, U) i z).1 (q - k) (q - k - 1)))] rfl dX9_joins_157 (fun H locs w => ?_)
                  refine lv_goto (tgt := 84) hx hb dX9_joins_158 (by decide) ?_
                  exact ihk _ _ _ ⟨sGo (oQuarrel (T, U) i z).1 (q - k) (q - k - 1), (oQuarrel (T, U) i z).2, w, lv_sub hl [0, 1] rfl, (by rw [show q - (k + 1) = q - k - 1 by omega]; exact pSh_go hT1 (by omega)), (nOK_ext (nOK_qu (M := U) htT (show i < 8 by omega) (show z < 8 by omega)) (sGo_off (by omega) (by omega))), (by rw [show q - (k + 1) = q - k - 1 by omega]; exact jl_next hT htT.2 hp (by omega) (by omega) hnqT), (by rw [show q - (k + 1) = q - k - 1 by omega, hoj]; exact oJL_win hp ez (by omega) hdq hnw)⟩ (by omega)
                · have c142 := mt (nI_eq (a := (pWin T n z i)) (b := i) (by omega) (by omega)).mpr c142
                  refine lv_iconst (v := (-1)) hx hb dX9_joins_145 (by decide) ?_
                  exact e_i hx hb hr hlocks (w.cast (by rw [gR_0 hW, hnd_0 hW, cN_nI (by omega), hoj, oJL_lose hp ez (by omega) hzi hdq (win_z c142), lose_z (win_z c142), win_z c142])) (by rw [gR_0 hW, cN_nI (by omega), hoj, oJL_lose hp ez (by omega) hzi hdq (win_z c142)]) dX9_joins_146 (Nat.le_refl _) (Nat.le_refl _)
          · have hW : ¬ (wJoin S (nI i)).1 = 0 := mt (hnd_z hF).mpr c79
            refine lv_iconst (v := 0) hx hb dX9_joins_82 (by decide) ?_
            exact e_i hx hb hr hlocks (w.cast (by rw [gR_1 hW])) (by rw [gR_1 hW]) dX9_joins_83 (Nat.le_refl _) (Nat.le_refl _)
        · intro cont64
          refine lv_aload_n hx hb dX9_joins_51 rfl (lv_at hl 0 rfl) ?_
          refine lv_iload_n hx hb dX9_joins_52 rfl (lv_at hl 1 rfl) ?_
          refine k_iV (As := [.int (nI i)]) (rest := [.ref (r 0)]) (Rs := []) (Bs' := [moB r (hin (decide (¬ pPl S (nI i) q = -1)) 4 (pPl S (nI i) q) (hin (!(pHas (nI i) n)) 3 (nI i) F)), arB ty (r 1) 215 (sqA 215 S)]) ⟨hx, hb, hml, hown, hts⟩ w (c_X9_left l D ty r (hin (decide (¬ pPl S (nI i) q = -1)) 4 (pPl S (nI i) q) (hin (!(pHas (nI i) n)) 3 (nI i) F)) S i (by omega)) (cwV 1 hts gX9_joins_X9_left rfl rfl rfl ⟨rfl, hdN_X9_left⟩ ⟨Nat.le_of_ble_eq_true rfl, Nat.le_of_ble_eq_true rfl⟩) [0, 1] (nB := 2) (by decide) rfl rfl rfl rfl 0 rfl rfl (ci := 13) rfl rfl rfl hl.1 rfl (Nat.le_of_ble_eq_true rfl) dX9_joins_53 ⟨(Nat.zero_le _), (Nat.zero_le _)⟩ (fun H locs w => ?_)
          refine lv_if_ne (tgt := 63) hx hb dX9_joins_56 (by decide) (fun c56 => ?_) (fun c56 => ?_)
          · refine lv_iconst (v := 0) hx hb dX9_joins_63 (by decide) ?_
            refine r_eq (y := (bI (decide (pLeft S i = 0)))) (bI_d0 c56) ?_
            exact cont64 _ _ _ ⟨w, hl⟩
          · refine lv_iconst (v := 1) hx hb dX9_joins_59 (by decide) ?_
            refine lv_goto (tgt := 64) hx hb dX9_joins_60 (by decide) ?_
            refine r_eq (y := (bI (decide (pLeft S i = 0)))) (bI_d1 c56) ?_
            exact cont64 _ _ _ ⟨w, hl⟩
      · intro cont41
        refine lv_aload_n hx hb dX9_joins_27 rfl (lv_at hl 0 rfl) ?_
        refine lv_iload_n hx hb dX9_joins_28 rfl (lv_at hl 1 rfl) ?_
        refine k_iV (As := [.int (nI i)]) (rest := [.ref (r 0)]) (Rs := []) (Bs' := [moB r (hin (!(pHas (nI i) n)) 3 (nI i) F), arB ty (r 1) 215 (sqA 215 S)]) ⟨hx, hb, hml, hown, hts⟩ w (c_X9_placeOf l D ty r (hin (!(pHas (nI i) n)) 3 (nI i) F) S q (hI).2.2.1 (hI).2.2.2.1 (nI i)) (cwV 1 hts gX9_joins_X9_placeOf rfl rfl rfl ⟨rfl, hdN_X9_placeOf⟩ ⟨Nat.le_of_ble_eq_true rfl, Nat.le_of_ble_eq_true rfl⟩) [0, 1] (nB := 2) (by decide) rfl rfl rfl rfl 0 rfl rfl (ci := 13) rfl rfl rfl hl.1 rfl (Nat.le_of_ble_eq_true rfl) dX9_joins_29 ⟨(Nat.zero_le _), (Nat.zero_le _)⟩ (fun H locs w => ?_)
        refine lv_iconst (v := (-1)) hx hb dX9_joins_32 (by decide) ?_
        refine lv_icmp_eq (tgt := 40) hx hb dX9_joins_33 (by decide) (fun c33 => ?_) (fun c33 => ?_)
        · refine lv_iconst (v := 0) hx hb dX9_joins_40 (by decide) ?_
          refine r_eq (y := (bI (decide (¬ pPl S (nI i) q = -1)))) (bI_d0 (fun x => x c33)) ?_
          exact cont41 _ _ _ ⟨w, hl⟩
        · refine lv_iconst (v := 1) hx hb dX9_joins_36 (by decide) ?_
          refine lv_goto (tgt := 41) hx hb dX9_joins_37 (by decide) ?_
          refine r_eq (y := (bI (decide (¬ pPl S (nI i) q = -1)))) (bI_d1 c33) ?_
          exact cont41 _ _ _ ⟨w, hl⟩
  · intro cont14
    refine lv_aload_n hx hb dX9_joins_1 rfl (lv_at hl 0 rfl) ?_
    refine lv_iload_n hx hb dX9_joins_2 rfl (lv_at hl 1 rfl) ?_
    refine k_iV (As := [.int h]) (rest := [.ref (r 0)]) (Rs := []) (Bs' := [moB r F, arB ty (r 1) 215 (sqA 215 S)]) ⟨hx, hb, hml, hown, hts⟩ w (c_X9_isHousehold l D ty r F S n (hI).1 (hI).2.1 h) (cwV 1 hts gX9_joins_X9_isHousehold rfl rfl rfl ⟨rfl, hdN_X9_isHousehold⟩ ⟨Nat.le_of_ble_eq_true rfl, Nat.le_of_ble_eq_true rfl⟩) [0, 1] (nB := 2) (by decide) rfl rfl rfl rfl 0 rfl rfl (ci := 13) rfl rfl rfl hl.1 rfl (Nat.le_of_ble_eq_true rfl) dX9_joins_3 ⟨(Nat.zero_le _), (Nat.zero_le _)⟩ (fun H locs w => ?_)
    refine lv_if_ne (tgt := 13) hx hb dX9_joins_6 (by decide) (fun c6 => ?_) (fun c6 => ?_)
    · have c6 := bI_1.mp c6
      refine lv_iconst (v := 0) hx hb dX9_joins_13 (by decide) ?_
      refine r_eq (y := (bI (!(pHas h n)))) (nb_0 c6) ?_
      exact cont14 _ _ _ ⟨w, hl⟩
    · have c6 := bI_0.mp c6
      refine lv_iconst (v := 1) hx hb dX9_joins_9 (by decide) ?_
      refine lv_goto (tgt := 14) hx hb dX9_joins_10 (by decide) ?_
      refine r_eq (y := (bI (!(pHas h n)))) (nb_1 c6) ?_
      exact cont14 _ _ _ ⟨w, hl⟩
