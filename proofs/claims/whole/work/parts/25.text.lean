theorem hdN_X0_isDigit : yX0_isDigit.cls ≠ "java/lang/invoke/MethodHandle" ∧ yX0_isDigit.cls ≠ "java/lang/invoke/VarHandle" ∧ (parseMethodDescriptor yX0_isDigit.desc).map (fun d => d.parameters.length) = some 1 := by decide +kernel
set_option maxRecDepth 100000 in
set_option maxHeartbeats 4000000 in
theorem c_X0_isDigit (l : Launch) (D : va_G) (ty : Nat → ClassId) (v : Int32)  : Mi l yX0_isDigit wsX0_isDigit (kR 0 0 0 0) D (kTY ty) [.int v] [] [] (bI (pIn v 48 57)) 0 0 := by
  refine m_i (cc := cX0_isDigit) (maxL := 1) (ret := (some .boolean)) (by decide +kernel) rfl (Nat.le_of_ble_eq_true rfl) ?_
  intro p e s m below meth c A ls hx hb hml hr hlocks hown hts w hl
  have hown : s.vm.findClass RX0 = some m.cls := hown
  have hl : lv_has ls 1 [(0, .int v)] := hl
  refine lv_iload_n hx hb dX0_isDigit_0 rfl (lv_at hl 0 rfl) ?_
  refine lv_bipush (v := 48) hx hb dX0_isDigit_1 (by decide) ?_
  refine lv_icmp_lt (tgt := 16) hx hb dX0_isDigit_3 (by decide) (fun c3 => ?_) (fun c3 => ?_)
  · refine lv_iconst (v := 0) hx hb dX0_isDigit_16 (by decide) ?_
    exact e_z (ty := .boolean) hx hb hr rfl hlocks w (by first | exact pIn_t c3 c9 | exact pIn_f1 c3 | exact pIn_f2 c9) dX0_isDigit_17 (Nat.le_refl _) (Nat.le_refl _)
  · refine lv_iload_n hx hb dX0_isDigit_6 rfl (lv_at hl 0 rfl) ?_
    refine lv_bipush (v := 57) hx hb dX0_isDigit_7 (by decide) ?_
    refine lv_icmp_gt (tgt := 16) hx hb dX0_isDigit_9 (by decide) (fun c9 => ?_) (fun c9 => ?_)
    · refine lv_iconst (v := 0) hx hb dX0_isDigit_16 (by decide) ?_
      exact e_z (ty := .boolean) hx hb hr rfl hlocks w (by first | exact pIn_t c3 c9 | exact pIn_f1 c3 | exact pIn_f2 c9) dX0_isDigit_17 (Nat.le_refl _) (Nat.le_refl _)
    · refine lv_iconst (v := 1) hx hb dX0_isDigit_12 (by decide) ?_
      refine lv_goto (tgt := 17) hx hb dX0_isDigit_13 (by decide) ?_
      exact e_z (ty := .boolean) hx hb hr rfl hlocks w (by first | exact pIn_t c3 c9 | exact pIn_f1 c3 | exact pIn_f2 c9) dX0_isDigit_17 (Nat.le_refl _) (Nat.le_refl _)

theorem hdN_X0_expectedBehindLetter : yX0_expectedBehindLetter.cls ≠ "java/lang/invoke/MethodHandle" ∧ yX0_expectedBehindLetter.cls ≠ "java/lang/invoke/VarHandle" ∧ (parseMethodDescriptor yX0_expectedBehindLetter.desc).map (fun d => d.parameters.length) = some 1 := by decide +kernel
set_option maxRecDepth 100000 in
set_option maxHeartbeats 4000000 in
theorem c_X0_expectedBehindLetter (l : Launch) (D : va_G) (ty : Nat → ClassId) (v : Int32)  : Mi l yX0_expectedBehindLetter wsX0_expectedBehindLetter (kR 0 0 0 0) D (kTY ty) [.int v] [] [] (pLet v) 0 0 := by
  refine m_i (cc := cX0_expectedBehindLetter) (maxL := 1) (ret := (some .int)) (by decide +kernel) rfl (Nat.le_of_ble_eq_true rfl) ?_
  intro p e s m below meth c A ls hx hb hml hr hlocks hown hts w hl
  have hown : s.vm.findClass RX0 = some m.cls := hown
  have hl : lv_has ls 1 [(0, .int v)] := hl
  refine lv_iload_n hx hb dX0_expectedBehindLetter_0 rfl (lv_at hl 0 rfl) ?_
  by_cases e1_100 : v = 100
  · refine r_eq (y := 100) e1_100 ?_
    refine lv_tableIn (tgt := 94) hx hb dX0_expectedBehindLetter_1 (by decide) (by decide) rfl (by decide) ?_
    refine lv_iconst (v := 2) hx hb dX0_expectedBehindLetter_94 (by decide) ?_
    exact e_i hx hb hr hlocks w (by first | (rw [pLet]; simp [*]; done) | (unfold pLet; simp_all; done) | (simp_all [pLet]; done)) dX0_expectedBehindLetter_95 (Nat.le_refl _) (Nat.le_refl _)
  by_cases e1_101 : v = 101
  · refine r_eq (y := 101) e1_101 ?_
    refine lv_tableIn (tgt := 98) hx hb dX0_expectedBehindLetter_1 (by decide) (by decide) rfl (by decide) ?_
    refine lv_iconst (v := (-1)) hx hb dX0_expectedBehindLetter_98 (by decide) ?_
    exact e_i hx hb hr hlocks w (by first | (rw [pLet]; simp [*]; done) | (unfold pLet; simp_all; done) | (simp_all [pLet]; done)) dX0_expectedBehindLetter_99 (Nat.le_refl _) (Nat.le_refl _)
  by_cases e1_102 : v = 102
  · refine r_eq (y := 102) e1_102 ?_
    refine lv_tableIn (tgt := 98) hx hb dX0_expectedBehindLetter_1 (by decide) (by decide) rfl (by decide) ?_
    refine lv_iconst (v := (-1)) hx hb dX0_expectedBehindLetter_98 (by decide) ?_
    exact e_i hx hb hr hlocks w (by first | (rw [pLet]; simp [*]; done) | (unfold pLet; simp_all; done) | (simp_all [pLet]; done)) dX0_expectedBehindLetter_99 (Nat.le_refl _) (Nat.le_refl _)
  by_cases e1_103 : v = 103
  · refine r_eq (y := 103) e1_103 ?_
    refine lv_tableIn (tgt := 98) hx hb dX0_expectedBehindLetter_1 (by decide) (by decide) rfl (by decide) ?_
    refine lv_iconst (v := (-1)) hx hb dX0_expectedBehindLetter_98 (by decide) ?_
    exact e_i hx hb hr hlocks w (by first | (rw [pLet]; simp [*]; done) | (unfold pLet; simp_all; done) | (simp_all [pLet]; done)) dX0_expectedBehindLetter_99 (Nat.le_refl _) (Nat.le_refl _)
  by_cases e1_104 : v = 104
  · refine r_eq (y := 104) e1_104 ?_
    refine lv_tableIn (tgt := 98) hx hb dX0_expectedBehindLetter_1 (by decide) (by decide) rfl (by decide) ?_
    refine lv_iconst (v := (-1)) hx hb dX0_expectedBehindLetter_98 (by decide) ?_
    exact e_i hx hb hr hlocks w (by first | (rw [pLet]; simp [*]; done) | (unfold pLet; simp_all; done) | (simp_all [pLet]; done)) dX0_expectedBehindLetter_99 (Nat.le_refl _) (Nat.le_refl _)
  by_cases e1_105 : v = 105
  · refine r_eq (y := 105) e1_105 ?_
    refine lv_tableIn (tgt := 98) hx hb dX0_expectedBehindLetter_1 (by decide) (by decide) rfl (by decide) ?_
    refine lv_iconst (v := (-1)) hx hb dX0_expectedBehindLetter_98 (by decide) ?_
    exact e_i hx hb hr hlocks w (by first | (rw [pLet]; simp [*]; done) | (unfold pLet; simp_all; done) | (simp_all [pLet]; done)) dX0_expectedBehindLetter_99 (Nat.le_refl _) (Nat.le_refl _)
  by_cases e1_106 : v = 106
  · refine r_eq (y := 106) e1_106 ?_
    refine lv_tableIn (tgt := 92) hx hb dX0_expectedBehindLetter_1 (by decide) (by decide) rfl (by decide) ?_
    refine lv_iconst (v := 1) hx hb dX0_expectedBehindLetter_92 (by decide) ?_
    exact e_i hx hb hr hlocks w (by first | (rw [pLet]; simp [*]; done) | (unfold pLet; simp_all; done) | (simp_all [pLet]; done)) dX0_expectedBehindLetter_93 (Nat.le_refl _) (Nat.le_refl _)
  by_cases e1_107 : v = 107
  · refine r_eq (y := 107) e1_107 ?_
    refine lv_tableIn (tgt := 98) hx hb dX0_expectedBehindLetter_1 (by decide) (by decide) rfl (by decide) ?_
    refine lv_iconst (v := (-1)) hx hb dX0_expectedBehindLetter_98 (by decide) ?_
    exact e_i hx hb hr hlocks w (by first | (rw [pLet]; simp [*]; done) | (unfold pLet; simp_all; done) | (simp_all [pLet]; done)) dX0_expectedBehindLetter_99 (Nat.le_refl _) (Nat.le_refl _)
  by_cases e1_108 : v = 108
  · refine r_eq (y := 108) e1_108 ?_
    refine lv_tableIn (tgt := 92) hx hb dX0_expectedBehindLetter_1 (by decide) (by decide) rfl (by decide) ?_
    refine lv_iconst (v := 1) hx hb dX0_expectedBehindLetter_92 (by decide) ?_
    exact e_i hx hb hr hlocks w (by first | (rw [pLet]; simp [*]; done) | (unfold pLet; simp_all; done) | (simp_all [pLet]; done)) dX0_expectedBehindLetter_93 (Nat.le_refl _) (Nat.le_refl _)
  by_cases e1_109 : v = 109
  · refine r_eq (y := 109) e1_109 ?_
    refine lv_tableIn (tgt := 98) hx hb dX0_expectedBehindLetter_1 (by decide) (by decide) rfl (by decide) ?_
    refine lv_iconst (v := (-1)) hx hb dX0_expectedBehindLetter_98 (by decide) ?_
    exact e_i hx hb hr hlocks w (by first | (rw [pLet]; simp [*]; done) | (unfold pLet; simp_all; done) | (simp_all [pLet]; done)) dX0_expectedBehindLetter_99 (Nat.le_refl _) (Nat.le_refl _)
  by_cases e1_110 : v = 110
  · refine r_eq (y := 110) e1_110 ?_
    refine lv_tableIn (tgt := 94) hx hb dX0_expectedBehindLetter_1 (by decide) (by decide) rfl (by decide) ?_
    refine lv_iconst (v := 2) hx hb dX0_expectedBehindLetter_94 (by decide) ?_
    exact e_i hx hb hr hlocks w (by first | (rw [pLet]; simp [*]; done) | (unfold pLet; simp_all; done) | (simp_all [pLet]; done)) dX0_expectedBehindLetter_95 (Nat.le_refl _) (Nat.le_refl _)
  by_cases e1_111 : v = 111
  · refine r_eq (y := 111) e1_111 ?_
    refine lv_tableIn (tgt := 98) hx hb dX0_expectedBehindLetter_1 (by decide) (by decide) rfl (by decide) ?_
    refine lv_iconst (v := (-1)) hx hb dX0_expectedBehindLetter_98 (by decide) ?_
    exact e_i hx hb hr hlocks w (by first | (rw [pLet]; simp [*]; done) | (unfold pLet; simp_all; done) | (simp_all [pLet]; done)) dX0_expectedBehindLetter_99 (Nat.le_refl _) (Nat.le_refl _)
  by_cases e1_112 : v = 112
  · refine r_eq (y := 112) e1_112 ?_
    refine lv_tableIn (tgt := 96) hx hb dX0_expectedBehindLetter_1 (by decide) (by decide) rfl (by decide) ?_
    refine lv_iconst (v := 4) hx hb dX0_expectedBehindLetter_96 (by decide) ?_
    exact e_i hx hb hr hlocks w (by first | (rw [pLet]; simp [*]; done) | (unfold pLet; simp_all; done) | (simp_all [pLet]; done)) dX0_expectedBehindLetter_97 (Nat.le_refl _) (Nat.le_refl _)
  by_cases e1_113 : v = 113
  · refine r_eq (y := 113) e1_113 ?_
    refine lv_tableIn (tgt := 98) hx hb dX0_expectedBehindLetter_1 (by decide) (by decide) rfl (by decide) ?_
    refine lv_iconst (v := (-1)) hx hb dX0_expectedBehindLetter_98 (by decide) ?_
    exact e_i hx hb hr hlocks w (by first | (rw [pLet]; simp [*]; done) | (unfold pLet; simp_all; done) | (simp_all [pLet]; done)) dX0_expectedBehindLetter_99 (Nat.le_refl _) (Nat.le_refl _)
  by_cases e1_114 : v = 114
  · refine r_eq (y := 114) e1_114 ?_
    refine lv_tableIn (tgt := 92) hx hb dX0_expectedBehindLetter_1 (by decide) (by decide) rfl (by decide) ?_
    refine lv_iconst (v := 1) hx hb dX0_expectedBehindLetter_92 (by decide) ?_
    exact e_i hx hb hr hlocks w (by first | (rw [pLet]; simp [*]; done) | (unfold pLet; simp_all; done) | (simp_all [pLet]; done)) dX0_expectedBehindLetter_93 (Nat.le_refl _) (Nat.le_refl _)
  by_cases e1_115 : v = 115
  · refine r_eq (y := 115) e1_115 ?_
    refine lv_tableIn (tgt := 98) hx hb dX0_expectedBehindLetter_1 (by decide) (by decide) rfl (by decide) ?_
    refine lv_iconst (v := (-1)) hx hb dX0_expectedBehindLetter_98 (by decide) ?_
    exact e_i hx hb hr hlocks w (by first | (rw [pLet]; simp [*]; done) | (unfold pLet; simp_all; done) | (simp_all [pLet]; done)) dX0_expectedBehindLetter_99 (Nat.le_refl _) (Nat.le_refl _)
  by_cases e1_116 : v = 116
  · refine r_eq (y := 116) e1_116 ?_
    refine lv_tableIn (tgt := 98) hx hb dX0_expectedBehindLetter_1 (by decide) (by decide) rfl (by decide) ?_
    refine lv_iconst (v := (-1)) hx hb dX0_expectedBehindLetter_98 (by decide) ?_
    exact e_i hx hb hr hlocks w (by first | (rw [pLet]; simp [*]; done) | (unfold pLet; simp_all; done) | (simp_all [pLet]; done)) dX0_expectedBehindLetter_99 (Nat.le_refl _) (Nat.le_refl _)
  by_cases e1_117 : v = 117
  · refine r_eq (y := 117) e1_117 ?_
    refine lv_tableIn (tgt := 98) hx hb dX0_expectedBehindLetter_1 (by decide) (by decide) rfl (by decide) ?_
    refine lv_iconst (v := (-1)) hx hb dX0_expectedBehindLetter_98 (by decide) ?_
    exact e_i hx hb hr hlocks w (by first | (rw [pLet]; simp [*]; done) | (unfold pLet; simp_all; done) | (simp_all [pLet]; done)) dX0_expectedBehindLetter_99 (Nat.le_refl _) (Nat.le_refl _)
  by_cases e1_118 : v = 118
  · refine r_eq (y := 118) e1_118 ?_
    refine lv_tableIn (tgt := 96) hx hb dX0_expectedBehindLetter_1 (by decide) (by decide) rfl (by decide) ?_
    refine lv_iconst (v := 4) hx hb dX0_expectedBehindLetter_96 (by decide) ?_
    exact e_i hx hb hr hlocks w (by first | (rw [pLet]; simp [*]; done) | (unfold pLet; simp_all; done) | (simp_all [pLet]; done)) dX0_expectedBehindLetter_97 (Nat.le_refl _) (Nat.le_refl _)
  refine lv_tableOut (tgt := 98) hx hb dX0_expectedBehindLetter_1 (sw_out 100 118 (fun v h1 h2 e => by
    have h3 : v = 100 ∨ v = 101 ∨ v = 102 ∨ v = 103 ∨ v = 104 ∨ v = 105 ∨ v = 106 ∨ v = 107 ∨ v = 108 ∨ v = 109 ∨ v = 110 ∨ v = 111 ∨ v = 112 ∨ v = 113 ∨ v = 114 ∨ v = 115 ∨ v = 116 ∨ v = 117 ∨ v = 118 := by omega
    rcases h3 with rfl | rfl | rfl | rfl | rfl | rfl | rfl | rfl | rfl | rfl | rfl | rfl | rfl | rfl | rfl | rfl | rfl | rfl | rfl
    · exact e1_100 (Int32.toInt_inj.mp e)
    · exact e1_101 (Int32.toInt_inj.mp e)
    · exact e1_102 (Int32.toInt_inj.mp e)
    · exact e1_103 (Int32.toInt_inj.mp e)
    · exact e1_104 (Int32.toInt_inj.mp e)
    · exact e1_105 (Int32.toInt_inj.mp e)
    · exact e1_106 (Int32.toInt_inj.mp e)
    · exact e1_107 (Int32.toInt_inj.mp e)
    · exact e1_108 (Int32.toInt_inj.mp e)
    · exact e1_109 (Int32.toInt_inj.mp e)
    · exact e1_110 (Int32.toInt_inj.mp e)
    · exact e1_111 (Int32.toInt_inj.mp e)
    · exact e1_112 (Int32.toInt_inj.mp e)
    · exact e1_113 (Int32.toInt_inj.mp e)
    · exact e1_114 (Int32.toInt_inj.mp e)
    · exact e1_115 (Int32.toInt_inj.mp e)
    · exact e1_116 (Int32.toInt_inj.mp e)
    · exact e1_117 (Int32.toInt_inj.mp e)
    · exact e1_118 (Int32.toInt_inj.mp e)
    )) (by decide) ?_
  refine lv_iconst (v := (-1)) hx hb dX0_expectedBehindLetter_98 (by decide) ?_
  exact e_i hx hb hr hlocks w (by first | (rw [pLet]; simp [*]; done) | (unfold pLet; simp_all; done) | (simp_all [pLet]; done)) dX0_expectedBehindLetter_99 (Nat.le_refl _) (Nat.le_refl _)

theorem hdN_X0_expectedBehind : yX0_expectedBehind.cls ≠ "java/lang/invoke/MethodHandle" ∧ yX0_expectedBehind.cls ≠ "java/lang/invoke/VarHandle" ∧ (parseMethodDescriptor yX0_expectedBehind.desc).map (fun d => d.parameters.length) = some 2 := by decide +kernel
set_option maxRecDepth 100000 in
set_option maxHeartbeats 4000000 in
theorem c_X0_expectedBehind (l : Launch) (D : va_G) (ty : Nat → ClassId) (v x : Int32)  : Mi l yX0_expectedBehind wsX0_expectedBehind (kR 1 20 0 0) D (kTY ty) [.int v, .int x] [] [] (pEx v x) 0 0 := by
  refine m_i (cc := cX0_expectedBehind) (maxL := 2) (ret := (some .int)) (by decide +kernel) rfl (Nat.le_of_ble_eq_true rfl) ?_
  intro p e s m below meth c A ls hx hb hml hr hlocks hown hts w hl
  have hown : s.vm.findClass RX0 = some m.cls := hown
  have hl : lv_has ls 2 [(0, .int v), (1, .int x)] := hl
  refine lv_iload_n hx hb dX0_expectedBehind_0 rfl (lv_at hl 0 rfl) ?_
  by_cases e1_0 : v = 0
  · refine r_eq (y := 0) e1_0 ?_
    refine lv_tableIn (tgt := 32) hx hb dX0_expectedBehind_1 (by decide) (by decide) rfl (by decide) ?_
    refine lv_iload_n hx hb dX0_expectedBehind_32 rfl (lv_at hl 1 rfl) ?_
    refine k_iS (As := [.int x]) (rest := []) (Rs := []) (Bs' := []) ⟨hx, hb, hml, hown, hts⟩ w (c_X0_expectedBehindLetter l D ty x) (va_cwS 1 hts gX0_expectedBehind_X0_expectedBehindLetter rfl rfl rfl hdN_X0_expectedBehindLetter ⟨Nat.le_of_ble_eq_true rfl, Nat.le_of_ble_eq_true rfl⟩) [] (nB := 0) (by decide) rfl rfl rfl rfl rfl hl.1 rfl (Nat.le_of_ble_eq_true rfl) dX0_expectedBehind_33 ⟨(Nat.zero_le _), (Nat.zero_le _)⟩ (fun H locs w => ?_)
    exact e_i hx hb hr hlocks w (pEx_0 e1_0) dX0_expectedBehind_36 (Nat.le_refl _) (Nat.le_refl _)
  by_cases e1_1 : v = 1
  · refine r_eq (y := 1) e1_1 ?_
    refine lv_tableIn (tgt := 37) hx hb dX0_expectedBehind_1 (by decide) (by decide) rfl (by decide) ?_
    refine lv_iload_n hx hb dX0_expectedBehind_37 rfl (lv_at hl 1 rfl) ?_
    refine k_iS (As := [.int x]) (rest := []) (Rs := []) (Bs' := []) ⟨hx, hb, hml, hown, hts⟩ w (c_X0_isDigit l D ty x) (va_cwS 1 hts gX0_expectedBehind_X0_isDigit rfl rfl rfl hdN_X0_isDigit ⟨Nat.le_of_ble_eq_true rfl, Nat.le_of_ble_eq_true rfl⟩) [] (nB := 0) (by decide) rfl rfl rfl rfl rfl hl.1 rfl (Nat.le_of_ble_eq_true rfl) dX0_expectedBehind_38 ⟨(Nat.zero_le _), (Nat.zero_le _)⟩ (fun H locs w => ?_)
    refine lv_if_eq (tgt := 48) hx hb dX0_expectedBehind_41 (by decide) (fun c41 => ?_) (fun c41 => ?_)
    · have c41 := bI_0.mp c41
      refine lv_iconst (v := (-1)) hx hb dX0_expectedBehind_48 (by decide) ?_
      exact e_i hx hb hr hlocks w (pEx_1 e1_0 e1_1 _ (by rw [if_neg (bt_n c41)])) dX0_expectedBehind_49 (Nat.le_refl _) (Nat.le_refl _)
    · have c41 := bI_1.mp c41
      refine lv_iconst (v := 4) hx hb dX0_expectedBehind_44 (by decide) ?_
      refine lv_goto (tgt := 49) hx hb dX0_expectedBehind_45 (by decide) ?_
      exact e_i hx hb hr hlocks w (pEx_1 e1_0 e1_1 _ (by rw [if_pos c41])) dX0_expectedBehind_49 (Nat.le_refl _) (Nat.le_refl _)
  by_cases e1_2 : v = 2
  · refine r_eq (y := 2) e1_2 ?_
    refine lv_tableIn (tgt := 50) hx hb dX0_expectedBehind_1 (by decide) (by decide) rfl (by decide) ?_
    refine lv_iload_n hx hb dX0_expectedBehind_50 rfl (lv_at hl 1 rfl) ?_
    refine k_iS (As := [.int x]) (rest := []) (Rs := []) (Bs' := []) ⟨hx, hb, hml, hown, hts⟩ w (c_X0_isDigit l D ty x) (va_cwS 1 hts gX0_expectedBehind_X0_isDigit rfl rfl rfl hdN_X0_isDigit ⟨Nat.le_of_ble_eq_true rfl, Nat.le_of_ble_eq_true rfl⟩) [] (nB := 0) (by decide) rfl rfl rfl rfl rfl hl.1 rfl (Nat.le_of_ble_eq_true rfl) dX0_expectedBehind_51 ⟨(Nat.zero_le _), (Nat.zero_le _)⟩ (fun H locs w => ?_)
    refine lv_if_eq (tgt := 61) hx hb dX0_expectedBehind_54 (by decide) (fun c54 => ?_) (fun c54 => ?_)
    · have c54 := bI_0.mp c54
      refine lv_iconst (v := (-1)) hx hb dX0_expectedBehind_61 (by decide) ?_
      exact e_i hx hb hr hlocks w (pEx_2 e1_0 e1_1 e1_2 _ (by rw [if_neg (bt_n c54)])) dX0_expectedBehind_62 (Nat.le_refl _) (Nat.le_refl _)
    · have c54 := bI_1.mp c54
      refine lv_iconst (v := 3) hx hb dX0_expectedBehind_57 (by decide) ?_
      refine lv_goto (tgt := 62) hx hb dX0_expectedBehind_58 (by decide) ?_
      exact e_i hx hb hr hlocks w (pEx_2 e1_0 e1_1 e1_2 _ (by rw [if_pos c54])) dX0_expectedBehind_62 (Nat.le_refl _) (Nat.le_refl _)
  by_cases e1_3 : v = 3
  · refine r_eq (y := 3) e1_3 ?_
    refine lv_tableIn (tgt := 63) hx hb dX0_expectedBehind_1 (by decide) (by decide) rfl (by decide) ?_
    refine lv_iload_n hx hb dX0_expectedBehind_63 rfl (lv_at hl 1 rfl) ?_
    refine k_iS (As := [.int x]) (rest := []) (Rs := []) (Bs' := []) ⟨hx, hb, hml, hown, hts⟩ w (c_X0_isDigit l D ty x) (va_cwS 1 hts gX0_expectedBehind_X0_isDigit rfl rfl rfl hdN_X0_isDigit ⟨Nat.le_of_ble_eq_true rfl, Nat.le_of_ble_eq_true rfl⟩) [] (nB := 0) (by decide) rfl rfl rfl rfl rfl hl.1 rfl (Nat.le_of_ble_eq_true rfl) dX0_expectedBehind_64 ⟨(Nat.zero_le _), (Nat.zero_le _)⟩ (fun H locs w => ?_)
    refine lv_if_eq (tgt := 72) hx hb dX0_expectedBehind_67 (by decide) (fun c67 => ?_) (fun c67 => ?_)
    · have c67 := bI_0.mp c67
      refine lv_iload_n hx hb dX0_expectedBehind_72 rfl (lv_at hl 1 rfl) ?_
      refine lv_bipush (v := 59) hx hb dX0_expectedBehind_73 (by decide) ?_
      refine lv_icmp_ne (tgt := 82) hx hb dX0_expectedBehind_75 (by decide) (fun c75 => ?_) (fun c75 => ?_)
      · refine lv_iconst (v := (-1)) hx hb dX0_expectedBehind_82 (by decide) ?_
        exact e_i hx hb hr hlocks w (pEx_3 e1_0 e1_1 e1_2 e1_3 _ (by rw [if_neg (bt_n c67), if_neg c75])) dX0_expectedBehind_83 (Nat.le_refl _) (Nat.le_refl _)
      · refine lv_iconst (v := 0) hx hb dX0_expectedBehind_78 (by decide) ?_
        refine lv_goto (tgt := 83) hx hb dX0_expectedBehind_79 (by decide) ?_
        exact e_i hx hb hr hlocks w (pEx_3 e1_0 e1_1 e1_2 e1_3 _ (by rw [if_neg (bt_n c67), if_pos c75])) dX0_expectedBehind_83 (Nat.le_refl _) (Nat.le_refl _)
    · have c67 := bI_1.mp c67
      refine lv_iconst (v := 4) hx hb dX0_expectedBehind_70 (by decide) ?_
      exact e_i hx hb hr hlocks w (pEx_3 e1_0 e1_1 e1_2 e1_3 _ (by rw [if_pos c67])) dX0_expectedBehind_71 (Nat.le_refl _) (Nat.le_refl _)
  refine lv_tableOut (tgt := 84) hx hb dX0_expectedBehind_1 (sw_out 0 3 (fun v h1 h2 e => by
    have h3 : v = 0 ∨ v = 1 ∨ v = 2 ∨ v = 3 := by omega
    rcases h3 with rfl | rfl | rfl | rfl
    · exact e1_0 (Int32.toInt_inj.mp e)
    · exact e1_1 (Int32.toInt_inj.mp e)
    · exact e1_2 (Int32.toInt_inj.mp e)
    · exact e1_3 (Int32.toInt_inj.mp e)
    )) (by decide) ?_
  refine lv_iload_n hx hb dX0_expectedBehind_84 rfl (lv_at hl 1 rfl) ?_
  refine lv_bipush (v := 59) hx hb dX0_expectedBehind_85 (by decide) ?_
  refine lv_icmp_ne (tgt := 94) hx hb dX0_expectedBehind_87 (by decide) (fun c87 => ?_) (fun c87 => ?_)
  · refine lv_iconst (v := (-1)) hx hb dX0_expectedBehind_94 (by decide) ?_
    exact e_i hx hb hr hlocks w (pEx_4 e1_0 e1_1 e1_2 e1_3 _ (by rw [if_neg c87])) dX0_expectedBehind_95 (Nat.le_refl _) (Nat.le_refl _)
  · refine lv_iconst (v := 0) hx hb dX0_expectedBehind_90 (by decide) ?_
    refine lv_goto (tgt := 95) hx hb dX0_expectedBehind_91 (by decide) ?_
    exact e_i hx hb hr hlocks w (pEx_4 e1_0 e1_1 e1_2 e1_3 _ (by rw [if_pos c87])) dX0_expectedBehind_95 (Nat.le_refl _) (Nat.le_refl _)

theorem in_X0_isFull_X0 : ∀ w ∈ wsX00, w ∈ wsX0_isFull := by decide +kernel
theorem hdN_X0_isFull : yX0_isFull.cls ≠ "java/lang/invoke/MethodHandle" ∧ yX0_isFull.cls ≠ "java/lang/invoke/VarHandle" ∧ (parseMethodDescriptor yX0_isFull.desc).map (fun d => d.parameters.length) = some 0 := by decide +kernel
set_option maxRecDepth 100000 in
set_option maxHeartbeats 4000000 in
theorem c_X0_isFull (l : Launch) (D : va_G) (ty : Nat → ClassId) (t : Nat → Nat) (z : Nat) (hz : z ≤ 60) (cn : Int32) (ch le nu : Nat → Int32)  : Mi l yX0_isFull wsX0_isFull (kR 0 0 0 0) D (kTY ty) [.ref (t 0)] [txB ty t (nI z) cn ch le nu] [txB ty t (nI z) cn ch le nu] (bI (decide (60 ≤ z))) 0 0 := by
  refine m_i (cc := cX0_isFull) (maxL := 1) (ret := (some .boolean)) (by decide +kernel) rfl (Nat.le_of_ble_eq_true rfl) ?_
  intro p e s m below meth c A ls hx hb hml hr hlocks hown hts w hl
  have hown : s.vm.findClass RX0 = some m.cls := hown
  have hl : lv_has ls 1 [(0, .ref (t 0))] := hl
  refine lv_aload_n hx hb dX0_isFull_0 rfl (lv_at hl 0 rfl) ?_
  refine r_get (v' := .int (nI z)) hx hb hts in_X0_isFull_X0 hown w 0 0 rfl rfl (ci := 4) rfl 0 (by decide) (hts _ (List.mem_of_getElem? (i := 1) rfl)) rfl rfl rfl dX0_isFull_1 ?_
  refine lv_bipush (v := 60) hx hb dX0_isFull_4 (by decide) ?_
  refine lv_icmp_lt (tgt := 13) hx hb dX0_isFull_6 (by decide) (fun c6 => ?_) (fun c6 => ?_)
  · have c6 := (nI_ltI (a := z) (b := 60) (by omega) (by omega)).mp c6
    refine lv_iconst (v := 0) hx hb dX0_isFull_13 (by decide) ?_
    exact e_z (ty := .boolean) hx hb hr rfl hlocks w (bI_d0 (by omega)) dX0_isFull_14 (Nat.le_refl _) (Nat.le_refl _)
  · have c6 := mt (nI_ltI (a := z) (b := 60) (by omega) (by omega)).mpr c6
    refine lv_iconst (v := 1) hx hb dX0_isFull_9 (by decide) ?_
    refine lv_goto (tgt := 14) hx hb dX0_isFull_10 (by decide) ?_
    exact e_z (ty := .boolean) hx hb hr rfl hlocks w (bI_d1 (by omega)) dX0_isFull_14 (Nat.le_refl _) (Nat.le_refl _)

theorem in_X0_add_X0 : ∀ w ∈ wsX00, w ∈ wsX0_add := by decide +kernel
theorem hdN_X0_add : yX0_add.cls ≠ "java/lang/invoke/MethodHandle" ∧ yX0_add.cls ≠ "java/lang/invoke/VarHandle" ∧ (parseMethodDescriptor yX0_add.desc).map (fun d => d.parameters.length) = some 1 := by decide +kernel
set_option maxRecDepth 100000 in
set_option maxHeartbeats 4000000 in
theorem c_X0_add (l : Launch) (D : va_G) (ty : Nat → ClassId) (t : Nat → Nat) (z : Nat) (hz : z < 60) (cn : Int32) (ch le nu : Nat → Int32) (v : Int32) (hv : vp_nar .char v = v)  : Mv l yX0_add wsX0_add (kR 1 20 0 0) D (kTY ty) [.ref (t 0), .int v] [txB ty t (nI z) cn ch le nu] [txB ty t (nI (z + 1)) cn (upd ch z v) le nu] 0 0 := by
  refine m_v (cc := cX0_add) (maxL := 2) (ret := none) (by decide +kernel) rfl (Nat.le_of_ble_eq_true rfl) ?_
  intro p e s m below meth c A ls hx hb hml hr hlocks hown hts w hl
  have hown : s.vm.findClass RX0 = some m.cls := hown
  have hl : lv_has ls 2 [(0, .ref (t 0)), (1, .int v)] := hl
  refine lv_aload_n hx hb dX0_add_0 rfl (lv_at hl 0 rfl) ?_
  refine k_iV (As := []) (rest := []) (Rs := []) (Bs' := [txB ty t (nI z) cn ch le nu]) ⟨hx, hb, hml, hown, hts⟩ w (c_X0_isFull l D ty t z (by omega) cn ch le nu) (cwV 0 hts gX0_add_X0_isFull rfl rfl rfl ⟨rfl, hdN_X0_isFull⟩ ⟨Nat.le_of_ble_eq_true rfl, Nat.le_of_ble_eq_true rfl⟩) [0] (nB := 1) (by decide) rfl rfl rfl rfl 0 rfl rfl (ci := 4) rfl rfl rfl hl.1 rfl (Nat.le_of_ble_eq_true rfl) dX0_add_1 ⟨(Nat.zero_le _), (Nat.zero_le _)⟩ (fun H locs w => ?_)
  refine lv_if_ne (tgt := 27) hx hb dX0_add_4 (by decide) (fun c4 => ?_) (fun c4 => ?_)
  · have c4 := bI_1.mp c4
    exact absurd c4 (by rw [decide_eq_false (by omega)]; decide)
  · have c4 := bI_0.mp c4
    refine lv_aload_n hx hb dX0_add_7 rfl (lv_at hl 0 rfl) ?_
    refine r_get (v' := .ref (t 1)) hx hb hts in_X0_add_X0 hown w 0 0 rfl rfl (ci := 4) rfl 1 (by decide) (hts _ (List.mem_of_getElem? (i := 1) rfl)) rfl rfl rfl dX0_add_8 ?_
    refine lv_aload_n hx hb dX0_add_11 rfl (lv_at hl 0 rfl) ?_
    refine r_get (v' := .int (nI z)) hx hb hts in_X0_add_X0 hown w 0 0 rfl rfl (ci := 4) rfl 0 (by decide) (hts _ (List.mem_of_getElem? (i := 2) rfl)) rfl rfl rfl dX0_add_12 ?_
    refine lv_iload_n hx hb dX0_add_15 rfl (lv_at hl 1 rfl) ?_
    refine r_cast hx hb w 0 1 rfl rfl 1 rfl z (by omega) (Nat.le_of_ble_eq_true rfl) rfl hv (txB ty t (nI z) cn (upd ch z v) le nu) rfl [txB ty t (nI z) cn (upd ch z v) le nu] rfl dX0_add_16 (fun H locs w => ?_)
    refine lv_aload_n hx hb dX0_add_17 rfl (lv_at hl 0 rfl) ?_
    refine lv_dup hx hb dX0_add_18 rfl ?_
    refine r_get (v' := .int (nI z)) hx hb hts in_X0_add_X0 hown w 0 0 rfl rfl (ci := 4) rfl 0 (by decide) (hts _ (List.mem_of_getElem? (i := 2) rfl)) rfl rfl rfl dX0_add_19 ?_
    refine lv_iconst (v := 1) hx hb dX0_add_22 (by decide) ?_
    refine lv_iadd hx hb dX0_add_23 ?_
    refine r_eq (y := (nI (z + 1))) (nI_add z 1) ?_
    refine r_put hx hb hts in_X0_add_X0 tyX0 tyX0_ok nmX0 hown w 0 0 rfl rfl (ci := 4) rfl 0 (by decide) (hts _ (List.mem_of_getElem? (i := 2) rfl)) rfl rfl (ty := .int) (by decide +kernel) rfl rfl (Nat.le_of_ble_eq_true rfl) (txB ty t (nI (z + 1)) cn (upd ch z v) le nu) rfl [txB ty t (nI (z + 1)) cn (upd ch z v) le nu] rfl dX0_add_24 (fun H locs w => ?_)
    exact e_v hx hb hr hlocks w dX0_add_27 (Nat.le_refl _) (Nat.le_refl _)

theorem in_X0_empty_X0 : ∀ w ∈ wsX00, w ∈ wsX0_empty := by decide +kernel
theorem hdN_X0_empty : yX0_empty.cls ≠ "java/lang/invoke/MethodHandle" ∧ yX0_empty.cls ≠ "java/lang/invoke/VarHandle" ∧ (parseMethodDescriptor yX0_empty.desc).map (fun d => d.parameters.length) = some 0 := by decide +kernel
set_option maxRecDepth 100000 in
set_option maxHeartbeats 4000000 in
theorem c_X0_empty (l : Launch) (D : va_G) (ty : Nat → ClassId) (t : Nat → Nat) (z cn : Int32) (ch le nu : Nat → Int32)  : Mv l yX0_empty wsX0_empty (kR 0 0 0 0) D (kTY ty) [.ref (t 0)] [txB ty t z cn ch le nu] [txB ty t 0 cn ch le nu] 0 0 := by
  refine m_v (cc := cX0_empty) (maxL := 1) (ret := none) (by decide +kernel) rfl (Nat.le_of_ble_eq_true rfl) ?_
  intro p e s m below meth c A ls hx hb hml hr hlocks hown hts w hl
  have hown : s.vm.findClass RX0 = some m.cls := hown
  have hl : lv_has ls 1 [(0, .ref (t 0))] := hl
  refine lv_aload_n hx hb dX0_empty_0 rfl (lv_at hl 0 rfl) ?_
  refine lv_iconst (v := 0) hx hb dX0_empty_1 (by decide) ?_
  refine r_put hx hb hts in_X0_empty_X0 tyX0 tyX0_ok nmX0 hown w 0 0 rfl rfl (ci := 4) rfl 0 (by decide) (hts _ (List.mem_of_getElem? (i := 1) rfl)) rfl rfl (ty := .int) (by decide +kernel) rfl rfl (Nat.le_of_ble_eq_true rfl) (txB ty t 0 cn ch le nu) rfl [txB ty t 0 cn ch le nu] rfl dX0_empty_2 (fun H locs w => ?_)
  exact e_v hx hb hr hlocks w dX0_empty_5 (Nat.le_refl _) (Nat.le_refl _)

theorem in_X0_take_X0 : ∀ w ∈ wsX00, w ∈ wsX0_take := by decide +kernel
theorem hdN_X0_take : yX0_take.cls ≠ "java/lang/invoke/MethodHandle" ∧ yX0_take.cls ≠ "java/lang/invoke/VarHandle" ∧ (parseMethodDescriptor yX0_take.desc).map (fun d => d.parameters.length) = some 2 := by decide +kernel
set_option maxRecDepth 100000 in
set_option maxHeartbeats 4000000 in
theorem c_X0_take (l : Launch) (D : va_G) (ty : Nat → ClassId) (t : Nat → Nat) (z : Int32) (cn : Nat) (ch le nu : Nat → Int32) (v x : Int32) (hc : cn < 60) (hv : vp_nar .char x = x)  : Mv l yX0_take wsX0_take (kR 1 20 0 0) D (kTY ty) [.ref (t 0), .int v, .int x] [txB ty t z (nI cn) ch le nu] [txB ty t z (nI (clT v x cn le nu).1) ch ((clT v x cn le nu).2.1) ((clT v x cn le nu).2.2)] 0 0 := by
  refine m_v (cc := cX0_take) (maxL := 3) (ret := none) (by decide +kernel) rfl (Nat.le_of_ble_eq_true rfl) ?_
  intro p e s m below meth c A ls hx hb hml hr hlocks hown hts w hl
  have hown : s.vm.findClass RX0 = some m.cls := hown
  have hl : lv_has ls 3 [(0, .ref (t 0)), (1, .int v), (2, .int x)] := hl
  refine lv_iload_n hx hb dX0_take_0 rfl (lv_at hl 1 rfl) ?_
  refine lv_if_ne (tgt := 46) hx hb dX0_take_1 (by decide) (fun c1 => ?_) (fun c1 => ?_)
  · refine lv_iload_n hx hb dX0_take_46 rfl (lv_at hl 2 rfl) ?_
    refine k_iS (As := [.int x]) (rest := []) (Rs := [txB ty t z (nI cn) ch le nu]) (Bs' := [txB ty t z (nI cn) ch le nu]) ⟨hx, hb, hml, hown, hts⟩ w (c_X0_isDigit l D ty x) (va_cwS 1 hts gX0_take_X0_isDigit rfl rfl rfl hdN_X0_isDigit ⟨Nat.le_of_ble_eq_true rfl, Nat.le_of_ble_eq_true rfl⟩) [0] (nB := 1) (by decide) rfl rfl rfl rfl rfl hl.1 rfl (Nat.le_of_ble_eq_true rfl) dX0_take_47 ⟨(Nat.zero_le _), (Nat.zero_le _)⟩ (fun H locs w => ?_)
    refine lv_if_eq (tgt := 90) hx hb dX0_take_50 (by decide) (fun c50 => ?_) (fun c50 => ?_)
    · have c50 := bI_0.mp c50
      exact e_v hx hb hr hlocks (w.cast (by rw [clT_2 c1 (fun q => bt_n c50 q.1)])) dX0_take_90 (Nat.le_refl _) (Nat.le_refl _)
    · have c50 := bI_1.mp c50
      refine lv_aload_n hx hb dX0_take_53 rfl (lv_at hl 0 rfl) ?_
      refine r_get (v' := .int (nI cn)) hx hb hts in_X0_take_X0 hown w 0 0 rfl rfl (ci := 4) rfl 2 (by decide) (hts _ (List.mem_of_getElem? (i := 1) rfl)) rfl rfl rfl dX0_take_54 ?_
      refine lv_if_le (tgt := 90) hx hb dX0_take_57 (by decide) (fun c57 => ?_) (fun c57 => ?_)
      · exact e_v hx hb hr hlocks (w.cast (by rw [clT_2 c1 (fun q => absurd c57 (nI_nle q.2 (by omega)))])) dX0_take_90 (Nat.le_refl _) (Nat.le_refl _)
      · have hcp : 0 < cn := by rcases Nat.eq_zero_or_pos cn with q | q; exact absurd (by rw [q]; decide) c57; exact q
        refine lv_aload_n hx hb dX0_take_60 rfl (lv_at hl 0 rfl) ?_
        refine r_get (v' := .ref (t 3)) hx hb hts in_X0_take_X0 hown w 0 0 rfl rfl (ci := 4) rfl 4 (by decide) (hts _ (List.mem_of_getElem? (i := 3) rfl)) rfl rfl rfl dX0_take_61 ?_
        refine lv_aload_n hx hb dX0_take_64 rfl (lv_at hl 0 rfl) ?_
        refine r_get (v' := .int (nI cn)) hx hb hts in_X0_take_X0 hown w 0 0 rfl rfl (ci := 4) rfl 2 (by decide) (hts _ (List.mem_of_getElem? (i := 1) rfl)) rfl rfl rfl dX0_take_65 ?_
        refine lv_iconst (v := 1) hx hb dX0_take_68 (by decide) ?_
        refine lv_isub hx hb dX0_take_69 ?_
        refine r_eq (y := (nI (cn - 1))) (pk_sub (a := cn) (b := 1) (by omega)) ?_
        refine lv_aload_n hx hb dX0_take_70 rfl (lv_at hl 0 rfl) ?_
        refine r_get (v' := .ref (t 3)) hx hb hts in_X0_take_X0 hown w 0 0 rfl rfl (ci := 4) rfl 4 (by decide) (hts _ (List.mem_of_getElem? (i := 3) rfl)) rfl rfl rfl dX0_take_71 ?_
        refine lv_aload_n hx hb dX0_take_74 rfl (lv_at hl 0 rfl) ?_
        refine r_get (v' := .int (nI cn)) hx hb hts in_X0_take_X0 hown w 0 0 rfl rfl (ci := 4) rfl 2 (by decide) (hts _ (List.mem_of_getElem? (i := 1) rfl)) rfl rfl rfl dX0_take_75 ?_
        refine lv_iconst (v := 1) hx hb dX0_take_78 (by decide) ?_
        refine lv_isub hx hb dX0_take_79 ?_
        refine r_eq (y := (nI (cn - 1))) (pk_sub (a := cn) (b := 1) (by omega)) ?_
        refine r_iald (v := (nu (cn - 1))) hx hb w 0 3 rfl rfl 0 rfl (cn - 1) (by omega) (Nat.le_of_ble_eq_true rfl) rfl rfl dX0_take_80 ?_
        refine lv_bipush (v := 10) hx hb dX0_take_81 (by decide) ?_
        refine lv_imul hx hb dX0_take_83 ?_
        refine lv_iload_n hx hb dX0_take_84 rfl (lv_at hl 2 rfl) ?_
        refine lv_bipush (v := 48) hx hb dX0_take_85 (by decide) ?_
        refine lv_isub hx hb dX0_take_87 ?_
        refine lv_iadd hx hb dX0_take_88 ?_
        refine r_iast hx hb w 0 3 rfl rfl 0 rfl (cn - 1) (by omega) (Nat.le_of_ble_eq_true rfl) rfl (txB ty t z (nI cn) ch le (upd nu (cn - 1) (((nu (cn - 1)) * 10) + (x - 48)))) rfl [txB ty t z (nI cn) ch le (upd nu (cn - 1) (((nu (cn - 1)) * 10) + (x - 48)))] rfl dX0_take_89 (fun H locs w => ?_)
        exact e_v hx hb hr hlocks (w.cast (by rw [clT_1 c1 c50 hcp])) dX0_take_90 (Nat.le_refl _) (Nat.le_refl _)
  · refine lv_aload_n hx hb dX0_take_4 rfl (lv_at hl 0 rfl) ?_
    refine r_get (v' := .int (nI cn)) hx hb hts in_X0_take_X0 hown w 0 0 rfl rfl (ci := 4) rfl 2 (by decide) (hts _ (List.mem_of_getElem? (i := 1) rfl)) rfl rfl rfl dX0_take_5 ?_
    refine lv_bipush (v := 60) hx hb dX0_take_8 (by decide) ?_
    refine lv_icmp_ge (tgt := 46) hx hb dX0_take_10 (by decide) (fun c10 => ?_) (fun c10 => ?_)
    · have c10 := (nI_leI (a := 60) (b := cn) (by omega) (by omega)).mp c10
      exact absurd hc (by omega)
    · have c10 := mt (nI_leI (a := 60) (b := cn) (by omega) (by omega)).mpr c10
      refine lv_aload_n hx hb dX0_take_13 rfl (lv_at hl 0 rfl) ?_
      refine r_get (v' := .ref (t 2)) hx hb hts in_X0_take_X0 hown w 0 0 rfl rfl (ci := 4) rfl 3 (by decide) (hts _ (List.mem_of_getElem? (i := 2) rfl)) rfl rfl rfl dX0_take_14 ?_
      refine lv_aload_n hx hb dX0_take_17 rfl (lv_at hl 0 rfl) ?_
      refine r_get (v' := .int (nI cn)) hx hb hts in_X0_take_X0 hown w 0 0 rfl rfl (ci := 4) rfl 2 (by decide) (hts _ (List.mem_of_getElem? (i := 1) rfl)) rfl rfl rfl dX0_take_18 ?_
      refine lv_iload_n hx hb dX0_take_21 rfl (lv_at hl 2 rfl) ?_
      refine r_cast hx hb w 0 2 rfl rfl 1 rfl cn (by omega) (Nat.le_of_ble_eq_true rfl) rfl hv (txB ty t z (nI cn) ch (upd le cn x) nu) rfl [txB ty t z (nI cn) ch (upd le cn x) nu] rfl dX0_take_22 (fun H locs w => ?_)
      refine lv_aload_n hx hb dX0_take_23 rfl (lv_at hl 0 rfl) ?_
      refine r_get (v' := .ref (t 3)) hx hb hts in_X0_take_X0 hown w 0 0 rfl rfl (ci := 4) rfl 4 (by decide) (hts _ (List.mem_of_getElem? (i := 3) rfl)) rfl rfl rfl dX0_take_24 ?_
      refine lv_aload_n hx hb dX0_take_27 rfl (lv_at hl 0 rfl) ?_
      refine r_get (v' := .int (nI cn)) hx hb hts in_X0_take_X0 hown w 0 0 rfl rfl (ci := 4) rfl 2 (by decide) (hts _ (List.mem_of_getElem? (i := 1) rfl)) rfl rfl rfl dX0_take_28 ?_
      refine lv_iconst (v := 0) hx hb dX0_take_31 (by decide) ?_
      refine r_iast hx hb w 0 3 rfl rfl 0 rfl cn (by omega) (Nat.le_of_ble_eq_true rfl) rfl (txB ty t z (nI cn) ch (upd le cn x) (upd nu cn 0)) rfl [txB ty t z (nI cn) ch (upd le cn x) (upd nu cn 0)] rfl dX0_take_32 (fun H locs w => ?_)
      refine lv_aload_n hx hb dX0_take_33 rfl (lv_at hl 0 rfl) ?_
      refine lv_dup hx hb dX0_take_34 rfl ?_
      refine r_get (v' := .int (nI cn)) hx hb hts in_X0_take_X0 hown w 0 0 rfl rfl (ci := 4) rfl 2 (by decide) (hts _ (List.mem_of_getElem? (i := 1) rfl)) rfl rfl rfl dX0_take_35 ?_
      refine lv_iconst (v := 1) hx hb dX0_take_38 (by decide) ?_
      refine lv_iadd hx hb dX0_take_39 ?_
      refine r_eq (y := (nI (cn + 1))) (nI_add cn 1) ?_
      refine r_put hx hb hts in_X0_take_X0 tyX0 tyX0_ok nmX0 hown w 0 0 rfl rfl (ci := 4) rfl 2 (by decide) (hts _ (List.mem_of_getElem? (i := 1) rfl)) rfl rfl (ty := .int) (by decide +kernel) rfl rfl (Nat.le_of_ble_eq_true rfl) (txB ty t z (nI (cn + 1)) ch (upd le cn x) (upd nu cn 0)) rfl [txB ty t z (nI (cn + 1)) ch (upd le cn x) (upd nu cn 0)] rfl dX0_take_40 (fun H locs w => ?_)
      refine lv_goto (tgt := 90) hx hb dX0_take_43 (by decide) ?_
      exact e_v hx hb hr hlocks (w.cast (by rw [clT_0 c1])) dX0_take_90 (Nat.le_refl _) (Nat.le_refl _)

theorem in_X0_read_X0 : ∀ w ∈ wsX00, w ∈ wsX0_read := by decide +kernel
theorem hdN_X0_read : yX0_read.cls ≠ "java/lang/invoke/MethodHandle" ∧ yX0_read.cls ≠ "java/lang/invoke/VarHandle" ∧ (parseMethodDescriptor yX0_read.desc).map (fun d => d.parameters.length) = some 0 := by decide +kernel
set_option maxRecDepth 100000 in
set_option maxHeartbeats 4000000 in
theorem c_X0_read (l : Launch) (D : va_G) (ty : Nat → ClassId) (t : Nat → Nat) (z : Nat) (cn0 : Int32) (ch le nu : Nat → Int32) (hz : z ≤ 60) (hch : ∀ k, k < z → vp_nar .char (ch k) = ch k)  : Mi l yX0_read wsX0_read (kR 2 42 0 0) D (kTY ty) [.ref (t 0)] [txB ty t (nI z) cn0 ch le nu] [txB ty t (nI z) (nI (clR ch z z 0 0 0 le nu).2.1) ch ((clR ch z z 0 0 0 le nu).2.2.1) ((clR ch z z 0 0 0 le nu).2.2.2)] ((clR ch z z 0 0 0 le nu).1) 0 0 := by
  refine m_i (cc := cX0_read) (maxL := 4) (ret := (some .int)) (by decide +kernel) rfl (Nat.le_of_ble_eq_true rfl) ?_
  intro p e s m below meth c A ls hx hb hml hr hlocks hown hts w hl
  have hown : s.vm.findClass RX0 = some m.cls := hown
  have hl : lv_has ls 4 [(0, .ref (t 0))] := hl
  refine lv_aload_n hx hb dX0_read_0 rfl (lv_at hl 0 rfl) ?_
  refine lv_iconst (v := 0) hx hb dX0_read_1 (by decide) ?_
  refine r_put hx hb hts in_X0_read_X0 tyX0 tyX0_ok nmX0 hown w 0 0 rfl rfl (ci := 4) rfl 2 (by decide) (hts _ (List.mem_of_getElem? (i := 1) rfl)) rfl rfl (ty := .int) (by decide +kernel) rfl rfl (Nat.le_of_ble_eq_true rfl) (txB ty t (nI z) 0 ch le nu) rfl [txB ty t (nI z) 0 ch le nu] rfl dX0_read_2 (fun H locs w => ?_)
  refine lv_iconst (v := 0) hx hb dX0_read_5 (by decide) ?_
  refine lv_istore_n (lv' := [(1, .int 0), (0, .ref (t 0))]) hx hb dX0_read_6 rfl hl (by decide) rfl (fun ls hl => ?_)
  refine lv_iconst (v := 0) hx hb dX0_read_7 (by decide) ?_
  refine lv_istore_n (lv' := [(2, .int 0), (1, .int 0), (0, .ref (t 0))]) hx hb dX0_read_8 rfl hl (by decide) rfl (fun ls hl => ?_)
  refine k_loop (fun k H locs ls => ∃ (e1 : Int32) (cn : Nat) (le1 : Nat → Int32) (nu1 : Nat → Int32), kW D (kTY ty) A s.heap s H locs [txB ty t (nI z) (nI cn) ch le1 nu1] ∧ lv_has ls 4 [(0, .ref (t 0)), (1, .int e1), (2, .int (nI k))] ∧ (cn ≤ k) ∧ ((clR ch z z 0 0 0 le nu) = clR ch z (z - k) k e1 cn le1 nu1)) z 0 (by omega) ⟨0, 0, le, nu, w, lv_sub hl [2, 1, 0] rfl, (by omega), rfl⟩ ?_
  intro k hk0 hk ihk H locs ls hI
  obtain ⟨e1, cn, le1, nu1, w, hl, hcn, hcr⟩ := hI
  refine lv_iload_n hx hb dX0_read_9 rfl (lv_at hl 2 rfl) ?_
  refine lv_aload_n hx hb dX0_read_10 rfl (lv_at hl 0 rfl) ?_
  refine r_get (v' := .int (nI z)) hx hb hts in_X0_read_X0 hown w 0 0 rfl rfl (ci := 4) rfl 0 (by decide) (hts _ (List.mem_of_getElem? (i := 2) rfl)) rfl rfl rfl dX0_read_11 ?_
  refine lv_icmp_ge (tgt := 54) hx hb dX0_read_14 (by decide) (fun c14 => ?_) (fun c14 => ?_)
  · have c14 := (nI_leI (a := z) (b := k) (by omega) (by omega)).mp c14
    obtain rfl : z = k := by omega
    refine lv_iload_n hx hb dX0_read_54 rfl (lv_at hl 1 rfl) ?_
    refine lv_iconst (v := 3) hx hb dX0_read_55 (by decide) ?_
    refine lv_icmp_eq (tgt := 64) hx hb dX0_read_56 (by decide) (fun c56 => ?_) (fun c56 => ?_)
    · refine lv_iconst (v := (-1)) hx hb dX0_read_64 (by decide) ?_
      refine lv_goto (tgt := 72) hx hb dX0_read_65 (by decide) ?_
      exact e_i hx hb hr hlocks (w.cast (by rw [hcr, Nat.sub_self]; rfl)) (by rw [hcr, Nat.sub_self]; exact (if_pos (Or.inl c56)).symm) dX0_read_72 (Nat.le_refl _) (Nat.le_refl _)
    · refine lv_iload_n hx hb dX0_read_59 rfl (lv_at hl 1 rfl) ?_
      refine lv_iconst (v := 4) hx hb dX0_read_60 (by decide) ?_
      refine lv_icmp_ne (tgt := 68) hx hb dX0_read_61 (by decide) (fun c61 => ?_) (fun c61 => ?_)
      · refine lv_aload_n hx hb dX0_read_68 rfl (lv_at hl 0 rfl) ?_
        refine r_get (v' := .int (nI z)) hx hb hts in_X0_read_X0 hown w 0 0 rfl rfl (ci := 4) rfl 0 (by decide) (hts _ (List.mem_of_getElem? (i := 2) rfl)) rfl rfl rfl dX0_read_69 ?_
        exact e_i hx hb hr hlocks (w.cast (by rw [hcr, Nat.sub_self]; rfl)) (by rw [hcr, Nat.sub_self]; exact (if_neg (fun q => q.elim c56 c61)).symm) dX0_read_72 (Nat.le_refl _) (Nat.le_refl _)
      · refine lv_iconst (v := (-1)) hx hb dX0_read_64 (by decide) ?_
        refine lv_goto (tgt := 72) hx hb dX0_read_65 (by decide) ?_
        exact e_i hx hb hr hlocks (w.cast (by rw [hcr, Nat.sub_self]; rfl)) (by rw [hcr, Nat.sub_self]; exact (if_pos (Or.inr c61)).symm) dX0_read_72 (Nat.le_refl _) (Nat.le_refl _)
  · have c14 := mt (nI_leI (a := z) (b := k) (by omega) (by omega)).mpr c14
    have hk2 : k < z := by omega
    refine lv_iload_n hx hb dX0_read_17 rfl (lv_at hl 1 rfl) ?_
    refine lv_aload_n hx hb dX0_read_18 rfl (lv_at hl 0 rfl) ?_
    refine r_get (v' := .ref (t 1)) hx hb hts in_X0_read_X0 hown w 0 0 rfl rfl (ci := 4) rfl 1 (by decide) (hts _ (List.mem_of_getElem? (i := 3) rfl)) rfl rfl rfl dX0_read_19 ?_
    refine lv_iload_n hx hb dX0_read_22 rfl (lv_at hl 2 rfl) ?_
    refine r_cald (v := (ch k)) hx hb w 0 1 rfl rfl 1 rfl k (by omega) (Nat.le_of_ble_eq_true rfl) rfl rfl dX0_read_23 ?_
    refine k_iS (As := [.int e1, .int (ch k)]) (rest := []) (Rs := [txB ty t (nI z) (nI cn) ch le1 nu1]) (Bs' := [txB ty t (nI z) (nI cn) ch le1 nu1]) ⟨hx, hb, hml, hown, hts⟩ w (c_X0_expectedBehind l D ty e1 (ch k)) (va_cwS 2 hts gX0_read_X0_expectedBehind rfl rfl rfl hdN_X0_expectedBehind ⟨Nat.le_of_ble_eq_true rfl, Nat.le_of_ble_eq_true rfl⟩) [0] (nB := 1) (by decide) rfl rfl rfl rfl rfl hl.1 rfl (Nat.le_of_ble_eq_true rfl) dX0_read_24 ⟨(Nat.zero_le _), (Nat.zero_le _)⟩ (fun H locs w => ?_)
    refine lv_istore_n (lv' := [(3, .int (pEx e1 (ch k))), (0, .ref (t 0)), (1, .int e1), (2, .int (nI k))]) hx hb dX0_read_27 rfl hl (by decide) rfl (fun ls hl => ?_)
    refine lv_iload_n hx hb dX0_read_28 rfl (lv_at hl 0 rfl) ?_
    refine lv_iconst (v := (-1)) hx hb dX0_read_29 (by decide) ?_
    refine lv_icmp_ne (tgt := 35) hx hb dX0_read_30 (by decide) (fun c30 => ?_) (fun c30 => ?_)
    · refine lv_aload_n hx hb dX0_read_35 rfl (lv_at hl 1 rfl) ?_
      refine lv_iload_n hx hb dX0_read_36 rfl (lv_at hl 2 rfl) ?_
      refine lv_aload_n hx hb dX0_read_37 rfl (lv_at hl 1 rfl) ?_
      refine r_get (v' := .ref (t 1)) hx hb hts in_X0_read_X0 hown w 0 0 rfl rfl (ci := 4) rfl 1 (by decide) (hts _ (List.mem_of_getElem? (i := 3) rfl)) rfl rfl rfl dX0_read_38 ?_
      refine lv_iload_n hx hb dX0_read_41 rfl (lv_at hl 3 rfl) ?_
      refine r_cald (v := (ch k)) hx hb w 0 1 rfl rfl 1 rfl k (by omega) (Nat.le_of_ble_eq_true rfl) rfl rfl dX0_read_42 ?_
      refine k_vV (As := [.int e1, .int (ch k)]) (rest := []) (Rs := []) (Bs' := [txB ty t (nI z) (nI (clT e1 (ch k) cn le1 nu1).1) ch ((clT e1 (ch k) cn le1 nu1).2.1) ((clT e1 (ch k) cn le1 nu1).2.2)]) ⟨hx, hb, hml, hown, hts⟩ w (c_X0_take l D ty t (nI z) cn ch le1 nu1 e1 (ch k) (by omega) (hch k hk2)) (cwV 2 hts gX0_read_X0_take rfl rfl rfl ⟨rfl, hdN_X0_take⟩ ⟨Nat.le_of_ble_eq_true rfl, Nat.le_of_ble_eq_true rfl⟩) [0] (nB := 1) (by decide) rfl rfl rfl rfl 0 rfl rfl (ci := 4) rfl rfl rfl hl.1 rfl (Nat.le_of_ble_eq_true rfl) dX0_read_43 ⟨(Nat.zero_le _), (Nat.zero_le _)⟩ (fun H locs w => ?_)
      refine lv_iload_n hx hb dX0_read_46 rfl (lv_at hl 0 rfl) ?_
      refine lv_istore_n (lv' := [(1, .int (pEx e1 (ch k))), (3, .int (pEx e1 (ch k))), (0, .ref (t 0)), (2, .int (nI k))]) hx hb dX0_read_47 rfl hl (by decide) rfl (fun ls hl => ?_)
      refine lv_iinc (v := (nI (k + 1))) (lv' := [(2, .int (nI (k + 1))), (1, .int (pEx e1 (ch k))), (3, .int (pEx e1 (ch k))), (0, .ref (t 0))]) hx hb dX0_read_48 hl (k := 3) rfl (inc1 k) (by decide) rfl (fun ls hl => ?_)
      refine lv_goto (tgt := 9) hx hb dX0_read_51 (by decide) ?_
      exact ihk _ _ _ ⟨_, _, _, _, w, lv_sub hl [3, 1, 0] rfl, (by have := @clT_n e1 (ch k) cn le1 nu1; omega), (hcr.trans (clR_s hk2 c30))⟩ (by omega)
    · refine lv_iload_n hx hb dX0_read_33 rfl (lv_at hl 3 rfl) ?_
      exact e_i hx hb hr hlocks (w.cast (by rw [hcr, clR_f hk2 c30])) (by rw [hcr, clR_f hk2 c30]) dX0_read_34 (Nat.le_refl _) (Nat.le_refl _)
