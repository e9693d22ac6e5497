theorem hdN_L_turns : yL_turns.cls ≠ "java/lang/invoke/MethodHandle" ∧ yL_turns.cls ≠ "java/lang/invoke/VarHandle" ∧ (parseMethodDescriptor yL_turns.desc).map (fun d => d.parameters.length) = some 3 := by decide +kernel
set_option maxRecDepth 100000 in
set_option maxHeartbeats 4000000 in
theorem c_L_turns (l : Launch) (D : va_G) (ty : Nat → ClassId) (o : Nat) (a b sn h t : Nat → Nat) (r sb : Nat) (hs lf : Int32) (S M : pS) (n q : Nat) (hA : IA S n q) (i : Nat) (hi : i < n) (v : Int32)  : Mi l yL_turns wsL_turns (kR 4 87 0 0) D (kTY ty) [.ref o, .int (nI i), .int v] [ppB o (a 0) (b 0) (sn 0) (h 0) r (t 0) sb hs lf, stB a S, lnB ty a S, quB ty a S, weB a S, miB ty a M] [ppB o (a 0) (b 0) (sn 0) (h 0) r (t 0) sb hs lf, stB a S, lnB ty a S, quB ty a S, weB a S, miB ty a M] (pTbl S i v) 0 0 := by
  refine m_i (cc := cL_turns) (maxL := 4) (ret := (some .int)) (by decide +kernel) rfl (Nat.le_of_ble_eq_true rfl) ?_
  intro p e s m below meth c A ls hx hb hml hr hlocks hown hts w hl
  have hown : s.vm.findClass RL = some m.cls := hown
  have hl : lv_has ls 4 [(0, .ref o), (1, .int (nI i)), (2, .int v)] := hl
  have hI := hA.1
  obtain ⟨h0, hn, h1, hq, he, hd, hdr, hwr⟩ := id hI
  refine lv_aload_n hx hb dL_turns_0 rfl (lv_at hl 0 rfl) ?_
  refine lv_iload_n hx hb dL_turns_1 rfl (lv_at hl 1 rfl) ?_
  refine lv_iconst (v := 0) hx hb dL_turns_2 (by decide) ?_
  refine k_iV (As := [.int (nI i), .int 0]) (rest := []) (Rs := []) (Bs' := [ppB o (a 0) (b 0) (sn 0) (h 0) r (t 0) sb hs lf, stB a S, lnB ty a S, quB ty a S, weB a S, miB ty a M]) ⟨hx, hb, hml, hown, hts⟩ w (c_ho0 l D ty o a b sn h t r sb hs lf S M n q hA i (by omega)) (cwV 2 hts gL_turns_X8_householdOf rfl rfl rfl ⟨rfl, hdN_X8_householdOf⟩ ⟨Nat.le_of_ble_eq_true rfl, Nat.le_of_ble_eq_true rfl⟩) [0, 1, 2, 3, 4, 5] (nB := 6) (by decide) rfl rfl rfl rfl 0 rfl rfl (ci := 12) rfl rfl rfl hl.1 rfl (Nat.le_of_ble_eq_true rfl) dL_turns_3 ⟨(Nat.zero_le _), (Nat.zero_le _)⟩ (fun H locs w => ?_)
  refine lv_istore_n (lv' := [(3, .int (S (1 + 6 * i + 0))), (0, .ref o), (1, .int (nI i)), (2, .int v)]) hx hb dL_turns_6 rfl hl (by decide) rfl (fun ls hl => ?_)
  refine lv_iload_n hx hb dL_turns_7 rfl (lv_at hl 3 rfl) ?_
  refine lv_if_ne (tgt := 19) hx hb dL_turns_8 (by decide) (fun c8 => ?_) (fun c8 => ?_)
  · refine lv_iload_n hx hb dL_turns_19 rfl (lv_at hl 3 rfl) ?_
    refine lv_iconst (v := 1) hx hb dL_turns_20 (by decide) ?_
    refine lv_icmp_ne (tgt := 28) hx hb dL_turns_21 (by decide) (fun c21 => ?_) (fun c21 => ?_)
    · refine lv_iload_n hx hb dL_turns_28 rfl (lv_at hl 3 rfl) ?_
      refine lv_iconst (v := 2) hx hb dL_turns_29 (by decide) ?_
      refine lv_icmp_ne (tgt := 46) hx hb dL_turns_30 (by decide) (fun c30 => ?_) (fun c30 => ?_)
      · refine lv_iconst (v := 1) hx hb dL_turns_46 (by decide) ?_
        exact e_i hx hb hr hlocks w (by first | exact pTbl_0 c8 | exact pTbl_1 c8 c21 | exact pTbl_2 c8 c21 c30 | exact pTbl_3 c8 c21 c30) dL_turns_47 (Nat.le_refl _) (Nat.le_refl _)
      · refine lv_iconst (v := 4) hx hb dL_turns_33 (by decide) ?_
        refine lv_aload_n hx hb dL_turns_34 rfl (lv_at hl 1 rfl) ?_
        refine lv_iload_n hx hb dL_turns_35 rfl (lv_at hl 2 rfl) ?_
        refine lv_iconst (v := 2) hx hb dL_turns_36 (by decide) ?_
        refine k_iV (As := [.int (nI i), .int 2]) (rest := [.int 4]) (Rs := []) (Bs' := [ppB o (a 0) (b 0) (sn 0) (h 0) r (t 0) sb hs lf, stB a S, lnB ty a S, quB ty a S, weB a S, miB ty a M]) ⟨hx, hb, hml, hown, hts⟩ w (c_ho2 l D ty o a b sn h t r sb hs lf S M n q hA i (by omega)) (cwV 2 hts gL_turns_X8_householdOf rfl rfl rfl ⟨rfl, hdN_X8_householdOf⟩ ⟨Nat.le_of_ble_eq_true rfl, Nat.le_of_ble_eq_true rfl⟩) [0, 1, 2, 3, 4, 5] (nB := 6) (by decide) rfl rfl rfl rfl 0 rfl rfl (ci := 12) rfl rfl rfl hl.1 rfl (Nat.le_of_ble_eq_true rfl) dL_turns_37 ⟨(Nat.zero_le _), (Nat.zero_le _)⟩ (fun H locs w => ?_)
        refine lv_iconst (v := 3) hx hb dL_turns_40 (by decide) ?_
        refine lv_idiv hx hb dL_turns_41 (by decide) ?_
        refine lv_isub hx hb dL_turns_42 ?_
        refine lv_goto (tgt := 47) hx hb dL_turns_43 (by decide) ?_
        exact e_i hx hb hr hlocks w (by first | exact pTbl_0 c8 | exact pTbl_1 c8 c21 | exact pTbl_2 c8 c21 c30 | exact pTbl_3 c8 c21 c30) dL_turns_47 (Nat.le_refl _) (Nat.le_refl _)
    · refine lv_iconst (v := 3) hx hb dL_turns_24 (by decide) ?_
      refine lv_goto (tgt := 47) hx hb dL_turns_25 (by decide) ?_
      exact e_i hx hb hr hlocks w (by first | exact pTbl_0 c8 | exact pTbl_1 c8 c21 | exact pTbl_2 c8 c21 c30 | exact pTbl_3 c8 c21 c30) dL_turns_47 (Nat.le_refl _) (Nat.le_refl _)
  · refine lv_iload_n hx hb dL_turns_11 rfl (lv_at hl 0 rfl) ?_
    refine lv_iconst (v := 1) hx hb dL_turns_12 (by decide) ?_
    refine lv_iadd hx hb dL_turns_13 ?_
    refine lv_iconst (v := 2) hx hb dL_turns_14 (by decide) ?_
    refine lv_idiv hx hb dL_turns_15 (by decide) ?_
    refine lv_goto (tgt := 47) hx hb dL_turns_16 (by decide) ?_
    exact e_i hx hb hr hlocks w (by first | exact pTbl_0 c8 | exact pTbl_1 c8 c21 | exact pTbl_2 c8 c21 c30 | exact pTbl_3 c8 c21 c30) dL_turns_47 (Nat.le_refl _) (Nat.le_refl _)

theorem hdN_L_isHouseholdRight : yL_isHouseholdRight.cls ≠ "java/lang/invoke/MethodHandle" ∧ yL_isHouseholdRight.cls ≠ "java/lang/invoke/VarHandle" ∧ (parseMethodDescriptor yL_isHouseholdRight.desc).map (fun d => d.parameters.length) = some 2 := by decide +kernel
set_option maxRecDepth 100000 in
set_option maxHeartbeats 4000000 in
theorem c_L_isHouseholdRight (l : Launch) (D : va_G) (ty : Nat → ClassId) (o : Nat) (a b sn h t : Nat → Nat) (r sb : Nat) (hs lf : Int32) (S M : pS) (n q : Nat) (hA : IA S n q) (ha : Nat → Nat → Nat) (sz nx ln cn : Int32) (ch le nu : Nat → Int32) (hM0 : M 0 = S 122) (i : Nat) (hi : i < n)  : Mi l yL_isHouseholdRight wsL_isHouseholdRight (kR 5 110 0 0) D (kTY ty) [.ref o, .int (nI i)] [ppB o (a 0) (b 0) (sn 0) (h 0) r (t 0) sb hs lf, stB a S, lnB ty a S, quB ty a S, weB a S, miB ty a M, hiB ty h ha sz nx, txB ty t ln cn ch le nu] [ppB o (a 0) (b 0) (sn 0) (h 0) r (t 0) sb hs lf, stB a S, lnB ty a S, quB ty a S, weB a S, miB ty a M, hiB ty h ha sz nx, txB ty t ln cn ch le nu] 1 0 0 := by
  refine m_i (cc := cL_isHouseholdRight) (maxL := 8) (ret := (some .boolean)) (by decide +kernel) rfl (Nat.le_of_ble_eq_true rfl) ?_
  intro p e s m below meth c A ls hx hb hml hr hlocks hown hts w hl
  have hown : s.vm.findClass RL = some m.cls := hown
  have hl : lv_has ls 8 [(0, .ref o), (1, .int (nI i))] := hl
  have hI := hA.1
  obtain ⟨h0, hn, h1, hq, he, hd, hdr, hwr⟩ := id hI
  obtain ⟨m9, x9, t9, d9, l9, hR0, hR1, hR2, hR3, hR4, hR5, hR6, hR7, hR8⟩ := hA.2.2.2.1 i (by omega)
  refine lv_iconst (v := 0) hx hb dL_isHouseholdRight_0 (by decide) ?_
  refine lv_istore_n (lv' := [(2, .int 0), (0, .ref o), (1, .int (nI i))]) hx hb dL_isHouseholdRight_1 rfl hl (by decide) rfl (fun ls hl => ?_)
  refine lv_iconst (v := 1) hx hb dL_isHouseholdRight_2 (by decide) ?_
  refine lv_istore_n (lv' := [(3, .int 1), (2, .int 0), (0, .ref o), (1, .int (nI i))]) hx hb dL_isHouseholdRight_3 rfl hl (by decide) rfl (fun ls hl => ?_)
  refine lv_iconst (v := 0) hx hb dL_isHouseholdRight_4 (by decide) ?_
  refine lv_istore (lv' := [(4, .int 0), (3, .int 1), (2, .int 0), (0, .ref o), (1, .int (nI i))]) hx hb dL_isHouseholdRight_5 hl (by decide) rfl (fun ls hl => ?_)
  refine k_loop (fun k H locs ls => kW D (kTY ty) A s.heap s H locs [ppB o (a 0) (b 0) (sn 0) (h 0) r (t 0) sb hs lf, stB a S, lnB ty a S, quB ty a S, weB a S, miB ty a M, hiB ty h ha sz nx, txB ty t ln cn ch le nu] ∧ lv_has ls 8 [(0, .ref o), (1, .int (nI i)), (2, .int (nI (pWant S i (k - 1)))), (3, .int 1), (4, .int (nI k))]) 4 0 (by omega) ⟨w, lv_sub hl [3, 4, 2, 1, 0] rfl⟩ ?_
  intro k hk0 hk ihk H locs ls hI
  obtain ⟨w, hl⟩ := hI
  refine lv_iload hx hb dL_isHouseholdRight_7 (lv_at hl 4 rfl) ?_
  refine lv_iconst (v := 4) hx hb dL_isHouseholdRight_9 (by decide) ?_
  refine lv_icmp_ge (tgt := 69) hx hb dL_isHouseholdRight_10 (by decide) (fun c10 => ?_) (fun c10 => ?_)
  · have c10 := (nI_leI (a := 4) (b := k) (by omega) (by omega)).mp c10
    obtain rfl : 4 = k := by omega
    refine lv_aload_n hx hb dL_isHouseholdRight_69 rfl (lv_at hl 0 rfl) ?_
    refine lv_iload_n hx hb dL_isHouseholdRight_70 rfl (lv_at hl 1 rfl) ?_
    refine lv_aload_n hx hb dL_isHouseholdRight_71 rfl (lv_at hl 0 rfl) ?_
    refine lv_bipush (v := 10) hx hb dL_isHouseholdRight_72 (by decide) ?_
    refine k_iV (As := [.int 10]) (rest := [.int (nI i), .ref o]) (Rs := []) (Bs' := [ppB o (a 0) (b 0) (sn 0) (h 0) r (t 0) sb hs lf, stB a S, lnB ty a S, quB ty a S, weB a S, miB ty a M, hiB ty h ha sz nx, txB ty t ln cn ch le nu]) ⟨hx, hb, hml, hown, hts⟩ w (c_ac10 l D ty o a b sn h t r sb hs lf S M n q hA ha sz nx ln cn ch le nu hM0) (cwV 1 hts gL_isHouseholdRight_X8_account rfl rfl rfl ⟨rfl, hdN_X8_account⟩ ⟨Nat.le_of_ble_eq_true rfl, Nat.le_of_ble_eq_true rfl⟩) [0, 1, 2, 3, 4, 5, 6, 7] (nB := 8) (by decide) rfl rfl rfl rfl 0 rfl rfl (ci := 12) rfl rfl rfl hl.1 rfl (Nat.le_of_ble_eq_true rfl) dL_isHouseholdRight_74 ⟨(Nat.zero_le _), (Nat.zero_le _)⟩ (fun H locs w => ?_)
    refine k_iS (As := [.ref o, .int (nI i), .int (S 203)]) (rest := []) (Rs := [hiB ty h ha sz nx, txB ty t ln cn ch le nu]) (Bs' := [ppB o (a 0) (b 0) (sn 0) (h 0) r (t 0) sb hs lf, stB a S, lnB ty a S, quB ty a S, weB a S, miB ty a M, hiB ty h ha sz nx, txB ty t ln cn ch le nu]) ⟨hx, hb, hml, hown, hts⟩ w (c_L_turns l D ty o a b sn h t r sb hs lf S M n q hA i (by omega) (S 203)) (va_cwS 3 hts gL_isHouseholdRight_L_turns rfl rfl rfl hdN_L_turns ⟨Nat.le_of_ble_eq_true rfl, Nat.le_of_ble_eq_true rfl⟩) [0, 1, 2, 3, 4, 5, 6, 7] (nB := 8) (by decide) rfl rfl rfl rfl rfl hl.1 rfl (Nat.le_of_ble_eq_true rfl) dL_isHouseholdRight_77 ⟨(Nat.zero_le _), (Nat.zero_le _)⟩ (fun H locs w => ?_)
    refine lv_istore (lv' := [(4, .int (pTbl S i (S 203))), (0, .ref o), (1, .int (nI i)), (2, .int (nI (pWant S i (4 - 1)))), (3, .int 1)]) hx hb dL_isHouseholdRight_80 hl (by decide) rfl (fun ls hl => ?_)
    refine k_cut (fun H locs ls => kW D (kTY ty) A s.heap s H locs [ppB o (a 0) (b 0) (sn 0) (h 0) r (t 0) sb hs lf, stB a S, lnB ty a S, quB ty a S, weB a S, miB ty a M, hiB ty h ha sz nx, txB ty t ln cn ch le nu] ∧ lv_has ls 8 [(4, .int (pTbl S i (S 203))), (0, .ref o), (1, .int (nI i)), (2, .int (nI (pWant S i (4 - 1)))), (3, .int 1)]) (pc' := 103) (st' := [.int (pTurns S i)]) ?_ ?_
    · intro H locs ls hI
      obtain ⟨w, hl⟩ := hI
      refine lv_istore (lv' := [(5, .int (pTurns S i)), (4, .int (pTbl S i (S 203))), (0, .ref o), (1, .int (nI i)), (2, .int (nI (pWant S i (4 - 1)))), (3, .int 1)]) hx hb dL_isHouseholdRight_103 hl (by decide) rfl (fun ls hl => ?_)
      refine lv_iconst (v := 0) hx hb dL_isHouseholdRight_105 (by decide) ?_
      refine lv_iload hx hb dL_isHouseholdRight_106 (lv_at hl 0 rfl) ?_
      refine lv_aload_n hx hb dL_isHouseholdRight_108 rfl (lv_at hl 2 rfl) ?_
      refine lv_iload_n hx hb dL_isHouseholdRight_109 rfl (lv_at hl 3 rfl) ?_
      refine lv_iconst (v := 5) hx hb dL_isHouseholdRight_110 (by decide) ?_
      refine k_iV (As := [.int (nI i), .int 5]) (rest := [.int (pTurns S i), .int 0]) (Rs := [hiB ty h ha sz nx, txB ty t ln cn ch le nu]) (Bs' := [ppB o (a 0) (b 0) (sn 0) (h 0) r (t 0) sb hs lf, stB a S, lnB ty a S, quB ty a S, weB a S, miB ty a M, hiB ty h ha sz nx, txB ty t ln cn ch le nu]) ⟨hx, hb, hml, hown, hts⟩ w (c_ho5 l D ty o a b sn h t r sb hs lf S M n q hA i (by omega)) (cwV 2 hts gL_isHouseholdRight_X8_householdOf rfl rfl rfl ⟨rfl, hdN_X8_householdOf⟩ ⟨Nat.le_of_ble_eq_true rfl, Nat.le_of_ble_eq_true rfl⟩) [0, 1, 2, 3, 4, 5, 6, 7] (nB := 8) (by decide) rfl rfl rfl rfl 0 rfl rfl (ci := 12) rfl rfl rfl hl.1 rfl (Nat.le_of_ble_eq_true rfl) dL_isHouseholdRight_111 ⟨(Nat.zero_le _), (Nat.zero_le _)⟩ (fun H locs w => ?_)
      refine lv_isub hx hb dL_isHouseholdRight_114 ?_
      refine lv_aload_n hx hb dL_isHouseholdRight_115 rfl (lv_at hl 2 rfl) ?_
      refine lv_iload_n hx hb dL_isHouseholdRight_116 rfl (lv_at hl 3 rfl) ?_
      refine lv_bipush (v := 6) hx hb dL_isHouseholdRight_117 (by decide) ?_
      refine k_iV (As := [.int (nI i), .int 6]) (rest := [.int ((pTurns S i) - (S (1 + 6 * i + 3))), .int 0]) (Rs := [hiB ty h ha sz nx, txB ty t ln cn ch le nu]) (Bs' := [ppB o (a 0) (b 0) (sn 0) (h 0) r (t 0) sb hs lf, stB a S, lnB ty a S, quB ty a S, weB a S, miB ty a M, hiB ty h ha sz nx, txB ty t ln cn ch le nu]) ⟨hx, hb, hml, hown, hts⟩ w (c_ho6 l D ty o a b sn h t r sb hs lf S M n q hA i (by omega)) (cwV 2 hts gL_isHouseholdRight_X8_householdOf rfl rfl rfl ⟨rfl, hdN_X8_householdOf⟩ ⟨Nat.le_of_ble_eq_true rfl, Nat.le_of_ble_eq_true rfl⟩) [0, 1, 2, 3, 4, 5, 6, 7] (nB := 8) (by decide) rfl rfl rfl rfl 0 rfl rfl (ci := 12) rfl rfl rfl hl.1 rfl (Nat.le_of_ble_eq_true rfl) dL_isHouseholdRight_119 ⟨(Nat.zero_le _), (Nat.zero_le _)⟩ (fun H locs w => ?_)
      refine lv_isub hx hb dL_isHouseholdRight_122 ?_
      refine va_mmax hx hb (hml.trans hl.1.symm) hown (hts _ (List.mem_of_getElem? (i := 1) rfl)) (hts _ (List.mem_of_getElem? (i := 2) rfl)) (hts _ (List.mem_of_getElem? (i := 3) rfl)) (hts _ (List.mem_of_getElem? (i := 4) rfl)) (Nat.le_of_ble_eq_true rfl) (Nat.le_of_ble_eq_true rfl) (Nat.zero_le _) (Nat.zero_le _) dL_isHouseholdRight_123 ?_
      refine r_eq (y := (jmax 0 (((pTurns S i) - (S (1 + 6 * i + 3))) - (S (1 + 6 * i + 4))))) rfl ?_
      refine r_eq (y := (pLeft S i)) rfl ?_
      refine lv_istore (lv' := [(6, .int (pLeft S i)), (5, .int (pTurns S i)), (4, .int (pTbl S i (S 203))), (0, .ref o), (1, .int (nI i)), (2, .int (nI (pWant S i (4 - 1)))), (3, .int 1)]) hx hb dL_isHouseholdRight_126 hl (by decide) rfl (fun ls hl => ?_)
      refine lv_iload_n hx hb dL_isHouseholdRight_128 rfl (lv_at hl 6 rfl) ?_
      refine lv_if_eq (tgt := 187) hx hb dL_isHouseholdRight_129 (by decide) (fun c129 => ?_) (fun c129 => ?_)
      · exact absurd c129 (by decide)
      · refine lv_aload_n hx hb dL_isHouseholdRight_132 rfl (lv_at hl 3 rfl) ?_
        refine lv_iload_n hx hb dL_isHouseholdRight_133 rfl (lv_at hl 4 rfl) ?_
        refine k_iV (As := [.int (nI i)]) (rest := []) (Rs := [hiB ty h ha sz nx, txB ty t ln cn ch le nu]) (Bs' := [ppB o (a 0) (b 0) (sn 0) (h 0) r (t 0) sb hs lf, stB a S, lnB ty a S, quB ty a S, weB a S, miB ty a M, hiB ty h ha sz nx, txB ty t ln cn ch le nu]) ⟨hx, hb, hml, hown, hts⟩ w (c_X8_isFor l D ty o a b sn h t r sb hs lf S M n q hA i (by omega)) (cwV 1 hts gL_isHouseholdRight_X8_isFor rfl rfl rfl ⟨rfl, hdN_X8_isFor⟩ ⟨Nat.le_of_ble_eq_true rfl, Nat.le_of_ble_eq_true rfl⟩) [0, 1, 2, 3, 4, 5, 6, 7] (nB := 8) (by decide) rfl rfl rfl rfl 0 rfl rfl (ci := 12) rfl rfl rfl hl.1 rfl (Nat.le_of_ble_eq_true rfl) dL_isHouseholdRight_134 ⟨(Nat.zero_le _), (Nat.zero_le _)⟩ (fun H locs w => ?_)
        refine lv_iload_n hx hb dL_isHouseholdRight_137 rfl (lv_at hl 5 rfl) ?_
        refine lv_icmp_ne (tgt := 187) hx hb dL_isHouseholdRight_138 (by decide) (fun c138 => ?_) (fun c138 => ?_)
        · exact absurd rfl c138
        · refine lv_aload_n hx hb dL_isHouseholdRight_141 rfl (lv_at hl 3 rfl) ?_
          refine lv_iload_n hx hb dL_isHouseholdRight_142 rfl (lv_at hl 4 rfl) ?_
          refine lv_iconst (v := 3) hx hb dL_isHouseholdRight_143 (by decide) ?_
          refine k_iV (As := [.int (nI i), .int 3]) (rest := []) (Rs := [hiB ty h ha sz nx, txB ty t ln cn ch le nu]) (Bs' := [ppB o (a 0) (b 0) (sn 0) (h 0) r (t 0) sb hs lf, stB a S, lnB ty a S, quB ty a S, weB a S, miB ty a M, hiB ty h ha sz nx, txB ty t ln cn ch le nu]) ⟨hx, hb, hml, hown, hts⟩ w (c_ho3 l D ty o a b sn h t r sb hs lf S M n q hA i (by omega)) (cwV 2 hts gL_isHouseholdRight_X8_householdOf rfl rfl rfl ⟨rfl, hdN_X8_householdOf⟩ ⟨Nat.le_of_ble_eq_true rfl, Nat.le_of_ble_eq_true rfl⟩) [0, 1, 2, 3, 4, 5, 6, 7] (nB := 8) (by decide) rfl rfl rfl rfl 0 rfl rfl (ci := 12) rfl rfl rfl hl.1 rfl (Nat.le_of_ble_eq_true rfl) dL_isHouseholdRight_144 ⟨(Nat.zero_le _), (Nat.zero_le _)⟩ (fun H locs w => ?_)
          refine lv_iload hx hb dL_isHouseholdRight_147 (lv_at hl 1 rfl) ?_
          refine lv_icmp_ne (tgt := 187) hx hb dL_isHouseholdRight_149 (by decide) (fun c149 => ?_) (fun c149 => ?_)
          · exact absurd rfl c149
          · refine lv_aload_n hx hb dL_isHouseholdRight_152 rfl (lv_at hl 3 rfl) ?_
            refine lv_iload_n hx hb dL_isHouseholdRight_153 rfl (lv_at hl 4 rfl) ?_
            refine lv_iconst (v := 4) hx hb dL_isHouseholdRight_154 (by decide) ?_
            refine k_iV (As := [.int (nI i), .int 4]) (rest := []) (Rs := [hiB ty h ha sz nx, txB ty t ln cn ch le nu]) (Bs' := [ppB o (a 0) (b 0) (sn 0) (h 0) r (t 0) sb hs lf, stB a S, lnB ty a S, quB ty a S, weB a S, miB ty a M, hiB ty h ha sz nx, txB ty t ln cn ch le nu]) ⟨hx, hb, hml, hown, hts⟩ w (c_ho4 l D ty o a b sn h t r sb hs lf S M n q hA i (by omega)) (cwV 2 hts gL_isHouseholdRight_X8_householdOf rfl rfl rfl ⟨rfl, hdN_X8_householdOf⟩ ⟨Nat.le_of_ble_eq_true rfl, Nat.le_of_ble_eq_true rfl⟩) [0, 1, 2, 3, 4, 5, 6, 7] (nB := 8) (by decide) rfl rfl rfl rfl 0 rfl rfl (ci := 12) rfl rfl rfl hl.1 rfl (Nat.le_of_ble_eq_true rfl) dL_isHouseholdRight_155 ⟨(Nat.zero_le _), (Nat.zero_le _)⟩ (fun H locs w => ?_)
            refine lv_iload hx hb dL_isHouseholdRight_158 (lv_at hl 0 rfl) ?_
            refine lv_icmp_ne (tgt := 187) hx hb dL_isHouseholdRight_160 (by decide) (fun c160 => ?_) (fun c160 => ?_)
            · exact absurd rfl c160
            · refine lv_aload_n hx hb dL_isHouseholdRight_163 rfl (lv_at hl 3 rfl) ?_
              refine lv_iload_n hx hb dL_isHouseholdRight_164 rfl (lv_at hl 4 rfl) ?_
              refine lv_iconst (v := 2) hx hb dL_isHouseholdRight_165 (by decide) ?_
              refine k_iV (As := [.int (nI i), .int 2]) (rest := []) (Rs := [hiB ty h ha sz nx, txB ty t ln cn ch le nu]) (Bs' := [ppB o (a 0) (b 0) (sn 0) (h 0) r (t 0) sb hs lf, stB a S, lnB ty a S, quB ty a S, weB a S, miB ty a M, hiB ty h ha sz nx, txB ty t ln cn ch le nu]) ⟨hx, hb, hml, hown, hts⟩ w (c_ho2 l D ty o a b sn h t r sb hs lf S M n q hA i (by omega)) (cwV 2 hts gL_isHouseholdRight_X8_householdOf rfl rfl rfl ⟨rfl, hdN_X8_householdOf⟩ ⟨Nat.le_of_ble_eq_true rfl, Nat.le_of_ble_eq_true rfl⟩) [0, 1, 2, 3, 4, 5, 6, 7] (nB := 8) (by decide) rfl rfl rfl rfl 0 rfl rfl (ci := 12) rfl rfl rfl hl.1 rfl (Nat.le_of_ble_eq_true rfl) dL_isHouseholdRight_166 ⟨(Nat.zero_le _), (Nat.zero_le _)⟩ (fun H locs w => ?_)
              refine r_eq (y := (nI t9)) hR2 ?_
              refine lv_if_lt (tgt := 187) hx hb dL_isHouseholdRight_169 (by decide) (fun c169 => ?_) (fun c169 => ?_)
              · exact absurd c169 (nI_nn (by omega))
              · refine lv_aload_n hx hb dL_isHouseholdRight_172 rfl (lv_at hl 3 rfl) ?_
                refine lv_iload_n hx hb dL_isHouseholdRight_173 rfl (lv_at hl 4 rfl) ?_
                refine lv_iconst (v := 2) hx hb dL_isHouseholdRight_174 (by decide) ?_
                refine k_iV (As := [.int (nI i), .int 2]) (rest := []) (Rs := [hiB ty h ha sz nx, txB ty t ln cn ch le nu]) (Bs' := [ppB o (a 0) (b 0) (sn 0) (h 0) r (t 0) sb hs lf, stB a S, lnB ty a S, quB ty a S, weB a S, miB ty a M, hiB ty h ha sz nx, txB ty t ln cn ch le nu]) ⟨hx, hb, hml, hown, hts⟩ w (c_ho2 l D ty o a b sn h t r sb hs lf S M n q hA i (by omega)) (cwV 2 hts gL_isHouseholdRight_X8_householdOf rfl rfl rfl ⟨rfl, hdN_X8_householdOf⟩ ⟨Nat.le_of_ble_eq_true rfl, Nat.le_of_ble_eq_true rfl⟩) [0, 1, 2, 3, 4, 5, 6, 7] (nB := 8) (by decide) rfl rfl rfl rfl 0 rfl rfl (ci := 12) rfl rfl rfl hl.1 rfl (Nat.le_of_ble_eq_true rfl) dL_isHouseholdRight_175 ⟨(Nat.zero_le _), (Nat.zero_le _)⟩ (fun H locs w => ?_)
                refine r_eq (y := (nI t9)) hR2 ?_
                refine lv_bipush (v := 9) hx hb dL_isHouseholdRight_178 (by decide) ?_
                refine lv_icmp_gt (tgt := 187) hx hb dL_isHouseholdRight_180 (by decide) (fun c180 => ?_) (fun c180 => ?_)
                · have c180 := (nI_ltI (a := 9) (b := t9) (by omega) (by omega)).mp c180
                  exact absurd c180 (by omega)
                · have c180 := mt (nI_ltI (a := 9) (b := t9) (by omega) (by omega)).mpr c180
                  refine lv_iconst (v := 1) hx hb dL_isHouseholdRight_183 (by decide) ?_
                  refine lv_goto (tgt := 188) hx hb dL_isHouseholdRight_184 (by decide) ?_
                  refine lv_istore_n (lv' := [(3, .int 1), (6, .int (pLeft S i)), (5, .int (pTurns S i)), (4, .int (pTbl S i (S 203))), (0, .ref o), (1, .int (nI i)), (2, .int (nI (pWant S i (4 - 1))))]) hx hb dL_isHouseholdRight_188 rfl hl (by decide) rfl (fun ls hl => ?_)
                  refine lv_aload_n hx hb dL_isHouseholdRight_189 rfl (lv_at hl 4 rfl) ?_
                  refine lv_iload_n hx hb dL_isHouseholdRight_190 rfl (lv_at hl 5 rfl) ?_
                  refine lv_bipush (v := 8) hx hb dL_isHouseholdRight_191 (by decide) ?_
                  refine k_iV (As := [.int (nI i), .int 8]) (rest := []) (Rs := [hiB ty h ha sz nx, txB ty t ln cn ch le nu]) (Bs' := [ppB o (a 0) (b 0) (sn 0) (h 0) r (t 0) sb hs lf, stB a S, lnB ty a S, quB ty a S, weB a S, miB ty a M, hiB ty h ha sz nx, txB ty t ln cn ch le nu]) ⟨hx, hb, hml, hown, hts⟩ w (c_ho8 l D ty o a b sn h t r sb hs lf S M n q hA i (by omega)) (cwV 2 hts gL_isHouseholdRight_X8_householdOf rfl rfl rfl ⟨rfl, hdN_X8_householdOf⟩ ⟨Nat.le_of_ble_eq_true rfl, Nat.le_of_ble_eq_true rfl⟩) [0, 1, 2, 3, 4, 5, 6, 7] (nB := 8) (by decide) rfl rfl rfl rfl 0 rfl rfl (ci := 12) rfl rfl rfl hl.1 rfl (Nat.le_of_ble_eq_true rfl) dL_isHouseholdRight_193 ⟨(Nat.zero_le _), (Nat.zero_le _)⟩ (fun H locs w => ?_)
                  refine lv_istore (lv' := [(7, .int (pPl S (nI i) q)), (3, .int 1), (6, .int (pLeft S i)), (5, .int (pTurns S i)), (4, .int (pTbl S i (S 203))), (0, .ref o), (1, .int (nI i)), (2, .int (nI (pWant S i (4 - 1))))]) hx hb dL_isHouseholdRight_196 hl (by decide) rfl (fun ls hl => ?_)
                  refine lv_iload_n hx hb dL_isHouseholdRight_198 rfl (lv_at hl 1 rfl) ?_
                  refine lv_if_eq (tgt := 239) hx hb dL_isHouseholdRight_199 (by decide) (fun c199 => ?_) (fun c199 => ?_)
                  · exact absurd c199 (by decide)
                  · refine lv_iload hx hb dL_isHouseholdRight_202 (lv_at hl 0 rfl) ?_
                    refine lv_iconst (v := (-1)) hx hb dL_isHouseholdRight_204 (by decide) ?_
                    refine lv_icmp_eq (tgt := 235) hx hb dL_isHouseholdRight_205 (by decide) (fun c205 => ?_) (fun c205 => ?_)
                    · refine lv_iconst (v := 1) hx hb dL_isHouseholdRight_235 (by decide) ?_
                      refine lv_goto (tgt := 240) hx hb dL_isHouseholdRight_236 (by decide) ?_
                      exact e_z (ty := .boolean) hx hb hr rfl hlocks w rfl dL_isHouseholdRight_240 (Nat.le_refl _) (Nat.le_refl _)
                    · have hp := c205
                      obtain ⟨u, hu, epl, eu⟩ := (pPl_cases S (nI i) q).resolve_left c205
                      rw [epl] at hl
                      have hl1 := hA.2.2.2.2.1 u hu
                      rw [eu, cN_nI (by omega)] at hl1
                      refine lv_aload_n hx hb dL_isHouseholdRight_208 rfl (lv_at hl 5 rfl) ?_
                      refine lv_iload hx hb dL_isHouseholdRight_209 (lv_at hl 0 rfl) ?_
                      refine k_iV (As := [.int (nI u)]) (rest := []) (Rs := [hiB ty h ha sz nx, txB ty t ln cn ch le nu]) (Bs' := [ppB o (a 0) (b 0) (sn 0) (h 0) r (t 0) sb hs lf, stB a S, lnB ty a S, quB ty a S, weB a S, miB ty a M, hiB ty h ha sz nx, txB ty t ln cn ch le nu]) ⟨hx, hb, hml, hown, hts⟩ w (c_X8_at l D ty o a b sn h t r sb hs lf S M n q hA u (by omega)) (cwV 1 hts gL_isHouseholdRight_X8_at rfl rfl rfl ⟨rfl, hdN_X8_at⟩ ⟨Nat.le_of_ble_eq_true rfl, Nat.le_of_ble_eq_true rfl⟩) [0, 1, 2, 3, 4, 5, 6, 7] (nB := 8) (by decide) rfl rfl rfl rfl 0 rfl rfl (ci := 12) rfl rfl rfl hl.1 rfl (Nat.le_of_ble_eq_true rfl) dL_isHouseholdRight_211 ⟨(Nat.zero_le _), (Nat.zero_le _)⟩ (fun H locs w => ?_)
                      refine r_eq (y := (nI i)) eu ?_
                      refine lv_iload_n hx hb dL_isHouseholdRight_214 rfl (lv_at hl 6 rfl) ?_
                      refine lv_icmp_ne (tgt := 239) hx hb dL_isHouseholdRight_215 (by decide) (fun c215 => ?_) (fun c215 => ?_)
                      · exact absurd rfl c215
                      · refine lv_iload hx hb dL_isHouseholdRight_218 (lv_at hl 2 rfl) ?_
                        refine lv_if_le (tgt := 239) hx hb dL_isHouseholdRight_220 (by decide) (fun c220 => ?_) (fun c220 => ?_)
                        · exact absurd c220 (le1_n hl1)
                        · refine lv_aload_n hx hb dL_isHouseholdRight_223 rfl (lv_at hl 5 rfl) ?_
                          refine lv_iload_n hx hb dL_isHouseholdRight_224 rfl (lv_at hl 6 rfl) ?_
                          refine k_iV (As := [.int (nI i)]) (rest := []) (Rs := [hiB ty h ha sz nx, txB ty t ln cn ch le nu]) (Bs' := [ppB o (a 0) (b 0) (sn 0) (h 0) r (t 0) sb hs lf, stB a S, lnB ty a S, quB ty a S, weB a S, miB ty a M, hiB ty h ha sz nx, txB ty t ln cn ch le nu]) ⟨hx, hb, hml, hown, hts⟩ w (c_X8_turnIn l D ty o a b sn h t r sb hs lf S M n q hA i (by omega) hp) (cwV 1 hts gL_isHouseholdRight_X8_turnIn rfl rfl rfl ⟨rfl, hdN_X8_turnIn⟩ ⟨Nat.le_of_ble_eq_true rfl, Nat.le_of_ble_eq_true rfl⟩) [0, 1, 2, 3, 4, 5, 6, 7] (nB := 8) (by decide) rfl rfl rfl rfl 0 rfl rfl (ci := 12) rfl rfl rfl hl.1 rfl (Nat.le_of_ble_eq_true rfl) dL_isHouseholdRight_225 ⟨(Nat.zero_le _), (Nat.zero_le _)⟩ (fun H locs w => ?_)
                          refine r_eq (y := (nI (u + 1))) (by rw [epl]; exact nI_add u 1) ?_
                          refine lv_iload hx hb dL_isHouseholdRight_228 (lv_at hl 0 rfl) ?_
                          refine lv_iconst (v := 1) hx hb dL_isHouseholdRight_230 (by decide) ?_
                          refine lv_iadd hx hb dL_isHouseholdRight_231 ?_
                          refine r_eq (y := (nI (u + 1))) (nI_add u 1) ?_
                          refine lv_icmp_ne (tgt := 239) hx hb dL_isHouseholdRight_232 (by decide) (fun c232 => ?_) (fun c232 => ?_)
                          · exact absurd rfl c232
                          · refine lv_iconst (v := 1) hx hb dL_isHouseholdRight_235 (by decide) ?_
                            refine lv_goto (tgt := 240) hx hb dL_isHouseholdRight_236 (by decide) ?_
                            exact e_z (ty := .boolean) hx hb hr rfl hlocks w rfl dL_isHouseholdRight_240 (Nat.le_refl _) (Nat.le_refl _)
    · intro cont103
      refine lv_aload_n hx hb dL_isHouseholdRight_82 rfl (lv_at hl 1 rfl) ?_
      refine lv_bipush (v := 12) hx hb dL_isHouseholdRight_83 (by decide) ?_
      refine k_iV (As := [.int 12]) (rest := []) (Rs := []) (Bs' := [ppB o (a 0) (b 0) (sn 0) (h 0) r (t 0) sb hs lf, stB a S, lnB ty a S, quB ty a S, weB a S, miB ty a M, hiB ty h ha sz nx, txB ty t ln cn ch le nu]) ⟨hx, hb, hml, hown, hts⟩ w (c_ac12 l D ty o a b sn h t r sb hs lf S M n q hA ha sz nx ln cn ch le nu hM0) (cwV 1 hts gL_isHouseholdRight_X8_account rfl rfl rfl ⟨rfl, hdN_X8_account⟩ ⟨Nat.le_of_ble_eq_true rfl, Nat.le_of_ble_eq_true rfl⟩) [0, 1, 2, 3, 4, 5, 6, 7] (nB := 8) (by decide) rfl rfl rfl rfl 0 rfl rfl (ci := 12) rfl rfl rfl hl.1 rfl (Nat.le_of_ble_eq_true rfl) dL_isHouseholdRight_85 ⟨(Nat.zero_le _), (Nat.zero_le _)⟩ (fun H locs w => ?_)
      refine lv_iconst (v := 1) hx hb dL_isHouseholdRight_88 (by decide) ?_
      refine lv_icmp_ne (tgt := 101) hx hb dL_isHouseholdRight_89 (by decide) (fun c89 => ?_) (fun c89 => ?_)
      · refine lv_iload hx hb dL_isHouseholdRight_101 (lv_at hl 0 rfl) ?_
        refine r_eq (y := (pTurns S i)) (by rw [pTurns, if_neg c89]) ?_
        exact cont103 _ _ _ ⟨w, hl⟩
      · refine lv_iload hx hb dL_isHouseholdRight_92 (lv_at hl 0 rfl) ?_
        refine lv_iconst (v := 1) hx hb dL_isHouseholdRight_94 (by decide) ?_
        refine lv_iadd hx hb dL_isHouseholdRight_95 ?_
        refine lv_iconst (v := 2) hx hb dL_isHouseholdRight_96 (by decide) ?_
        refine lv_idiv hx hb dL_isHouseholdRight_97 (by decide) ?_
        refine r_eq (y := (pTurns S i)) (by rw [pTurns, if_pos c89]) ?_
        refine lv_goto (tgt := 103) hx hb dL_isHouseholdRight_98 (by decide) ?_
        exact cont103 _ _ _ ⟨w, hl⟩
  · have c10 := mt (nI_leI (a := 4) (b := k) (by omega) (by omega)).mpr c10
    refine lv_iload_n hx hb dL_isHouseholdRight_13 rfl (lv_at hl 3 rfl) ?_
    refine lv_if_eq (tgt := 38) hx hb dL_isHouseholdRight_14 (by decide) (fun c14 => ?_) (fun c14 => ?_)
    · exact absurd c14 (by decide)
    · refine lv_aload_n hx hb dL_isHouseholdRight_17 rfl (lv_at hl 0 rfl) ?_
      refine lv_iload_n hx hb dL_isHouseholdRight_18 rfl (lv_at hl 1 rfl) ?_
      refine lv_iload hx hb dL_isHouseholdRight_19 (lv_at hl 4 rfl) ?_
      refine k_iV (As := [.int (nI i), .int (nI k)]) (rest := []) (Rs := [hiB ty h ha sz nx, txB ty t ln cn ch le nu]) (Bs' := [ppB o (a 0) (b 0) (sn 0) (h 0) r (t 0) sb hs lf, stB a S, lnB ty a S, quB ty a S, weB a S, miB ty a M, hiB ty h ha sz nx, txB ty t ln cn ch le nu]) ⟨hx, hb, hml, hown, hts⟩ w (c_X8_turnsBy l D ty o a b sn h t r sb hs lf S M n q hA i k (by omega) (by omega)) (cwV 2 hts gL_isHouseholdRight_X8_turnsBy rfl rfl rfl ⟨rfl, hdN_X8_turnsBy⟩ ⟨Nat.le_of_ble_eq_true rfl, Nat.le_of_ble_eq_true rfl⟩) [0, 1, 2, 3, 4, 5, 6, 7] (nB := 8) (by decide) rfl rfl rfl rfl 0 rfl rfl (ci := 12) rfl rfl rfl hl.1 rfl (Nat.le_of_ble_eq_true rfl) dL_isHouseholdRight_21 ⟨(Nat.zero_le _), (Nat.zero_le _)⟩ (fun H locs w => ?_)
      refine lv_aload_n hx hb dL_isHouseholdRight_24 rfl (lv_at hl 0 rfl) ?_
      refine lv_iload_n hx hb dL_isHouseholdRight_25 rfl (lv_at hl 1 rfl) ?_
      refine lv_iload hx hb dL_isHouseholdRight_26 (lv_at hl 4 rfl) ?_
      refine k_iS (As := [.ref o, .int (nI i), .int (nI k)]) (rest := [.int (pTbl S i (nI k))]) (Rs := [hiB ty h ha sz nx, txB ty t ln cn ch le nu]) (Bs' := [ppB o (a 0) (b 0) (sn 0) (h 0) r (t 0) sb hs lf, stB a S, lnB ty a S, quB ty a S, weB a S, miB ty a M, hiB ty h ha sz nx, txB ty t ln cn ch le nu]) ⟨hx, hb, hml, hown, hts⟩ w (c_L_turns l D ty o a b sn h t r sb hs lf S M n q hA i (by omega) (nI k)) (va_cwS 3 hts gL_isHouseholdRight_L_turns rfl rfl rfl hdN_L_turns ⟨Nat.le_of_ble_eq_true rfl, Nat.le_of_ble_eq_true rfl⟩) [0, 1, 2, 3, 4, 5, 6, 7] (nB := 8) (by decide) rfl rfl rfl rfl rfl hl.1 rfl (Nat.le_of_ble_eq_true rfl) dL_isHouseholdRight_28 ⟨(Nat.zero_le _), (Nat.zero_le _)⟩ (fun H locs w => ?_)
      refine lv_icmp_ne (tgt := 38) hx hb dL_isHouseholdRight_31 (by decide) (fun c31 => ?_) (fun c31 => ?_)
      · exact absurd rfl c31
      · refine lv_iconst (v := 1) hx hb dL_isHouseholdRight_34 (by decide) ?_
        refine lv_goto (tgt := 39) hx hb dL_isHouseholdRight_35 (by decide) ?_
        refine lv_istore_n (lv' := [(3, .int 1), (0, .ref o), (1, .int (nI i)), (2, .int (nI (pWant S i (k - 1)))), (4, .int (nI k))]) hx hb dL_isHouseholdRight_39 rfl hl (by decide) rfl (fun ls hl => ?_)
        refine lv_aload_n hx hb dL_isHouseholdRight_40 rfl (lv_at hl 1 rfl) ?_
        refine lv_iload_n hx hb dL_isHouseholdRight_41 rfl (lv_at hl 2 rfl) ?_
        refine lv_iload hx hb dL_isHouseholdRight_42 (lv_at hl 4 rfl) ?_
        refine k_iS (As := [.ref o, .int (nI i), .int (nI k)]) (rest := []) (Rs := [hiB ty h ha sz nx, txB ty t ln cn ch le nu]) (Bs' := [ppB o (a 0) (b 0) (sn 0) (h 0) r (t 0) sb hs lf, stB a S, lnB ty a S, quB ty a S, weB a S, miB ty a M, hiB ty h ha sz nx, txB ty t ln cn ch le nu]) ⟨hx, hb, hml, hown, hts⟩ w (c_L_turns l D ty o a b sn h t r sb hs lf S M n q hA i (by omega) (nI k)) (va_cwS 3 hts gL_isHouseholdRight_L_turns rfl rfl rfl hdN_L_turns ⟨Nat.le_of_ble_eq_true rfl, Nat.le_of_ble_eq_true rfl⟩) [0, 1, 2, 3, 4, 5, 6, 7] (nB := 8) (by decide) rfl rfl rfl rfl rfl hl.1 rfl (Nat.le_of_ble_eq_true rfl) dL_isHouseholdRight_44 ⟨(Nat.zero_le _), (Nat.zero_le _)⟩ (fun H locs w => ?_)
        refine lv_aload_n hx hb dL_isHouseholdRight_47 rfl (lv_at hl 1 rfl) ?_
        refine lv_iload_n hx hb dL_isHouseholdRight_48 rfl (lv_at hl 2 rfl) ?_
        refine lv_iload_n hx hb dL_isHouseholdRight_49 rfl (lv_at hl 3 rfl) ?_
        refine k_iS (As := [.ref o, .int (nI i), .int (nI (pWant S i (k - 1)))]) (rest := [.int (pTbl S i (nI k))]) (Rs := [hiB ty h ha sz nx, txB ty t ln cn ch le nu]) (Bs' := [ppB o (a 0) (b 0) (sn 0) (h 0) r (t 0) sb hs lf, stB a S, lnB ty a S, quB ty a S, weB a S, miB ty a M, hiB ty h ha sz nx, txB ty t ln cn ch le nu]) ⟨hx, hb, hml, hown, hts⟩ w (c_L_turns l D ty o a b sn h t r sb hs lf S M n q hA i (by omega) (nI (pWant S i (k - 1)))) (va_cwS 3 hts gL_isHouseholdRight_L_turns rfl rfl rfl hdN_L_turns ⟨Nat.le_of_ble_eq_true rfl, Nat.le_of_ble_eq_true rfl⟩) [0, 1, 2, 3, 4, 5, 6, 7] (nB := 8) (by decide) rfl rfl rfl rfl rfl hl.1 rfl (Nat.le_of_ble_eq_true rfl) dL_isHouseholdRight_50 ⟨(Nat.zero_le _), (Nat.zero_le _)⟩ (fun H locs w => ?_)
        refine lv_icmp_le (tgt := 61) hx hb dL_isHouseholdRight_53 (by decide) (fun c53 => ?_) (fun c53 => ?_)
        · have ey := best_no (S := S) (i := i) (k := k) c53
          refine lv_iload_n hx hb dL_isHouseholdRight_61 rfl (lv_at hl 3 rfl) ?_
          refine lv_istore_n (lv' := [(2, .int (nI (pWant S i (k - 1)))), (3, .int 1), (0, .ref o), (1, .int (nI i)), (4, .int (nI k))]) hx hb dL_isHouseholdRight_62 rfl hl (by decide) rfl (fun ls hl => ?_)
          refine lv_iinc (v := (nI (k + 1))) (lv' := [(4, .int (nI (k + 1))), (2, .int (nI (pWant S i (k - 1)))), (3, .int 1), (0, .ref o), (1, .int (nI i))]) hx hb dL_isHouseholdRight_63 hl (k := 4) rfl (inc1 k) (by decide) rfl (fun ls hl => ?_)
          refine lv_goto (tgt := 7) hx hb dL_isHouseholdRight_66 (by decide) ?_
          exact ihk _ _ _ ⟨w, (by rw [← ey]; exact lv_sub hl [3, 4, 1, 2, 0] rfl)⟩ (by omega)
        · have ey := best_yes (S := S) (i := i) (k := k) c53
          refine lv_iload hx hb dL_isHouseholdRight_56 (lv_at hl 4 rfl) ?_
          refine lv_goto (tgt := 62) hx hb dL_isHouseholdRight_58 (by decide) ?_
          refine lv_istore_n (lv' := [(2, .int (nI k)), (3, .int 1), (0, .ref o), (1, .int (nI i)), (4, .int (nI k))]) hx hb dL_isHouseholdRight_62 rfl hl (by decide) rfl (fun ls hl => ?_)
          refine lv_iinc (v := (nI (k + 1))) (lv' := [(4, .int (nI (k + 1))), (2, .int (nI k)), (3, .int 1), (0, .ref o), (1, .int (nI i))]) hx hb dL_isHouseholdRight_63 hl (k := 4) rfl (inc1 k) (by decide) rfl (fun ls hl => ?_)
          refine lv_goto (tgt := 7) hx hb dL_isHouseholdRight_66 (by decide) ?_
          exact ihk _ _ _ ⟨w, (by rw [← ey]; exact lv_sub hl [3, 4, 1, 2, 0] rfl)⟩ (by omega)
