set_option maxRecDepth 100000 in
set_option maxHeartbeats 8000000 in
theorem law_loop {p : Program} {e : Env} {s : State} {m : MethodId} {below : List Frame} {meth : Method} {c : Code} (l : Launch) (hst : l.stackTraces = false) {b9 L : Nat} {xs : Nat → Int32} (hx : p.tables.exec = Jvm.exec) (hb : c.code = code) (hml : c.maxLocals = 4) (hown : s.vm.findClass RL = some m.cls) (hts : ∀ w ∈ wsL_law, w.before #[Value.ref b9] s = true) {A : Nat → Prop} (hz : kZ A s) (hs9 : kS b9 L xs A s) (D : va_G) (ty : Nat → ClassId) (o : Nat) (a b sn h t : Nat → Nat) (ha : Nat → Nat → Nat) (r sb : Nat) (hs lf ln cn : Int32) (ch le nu : Nat → Int32) (R1 R2 R3 R4 R5 R6 R7 R8 R9 R10 R11 R12 : va_W) {Q : State → Prop}
    (hE : ∀ (H : Heap) (locs : List Loc) (ls : Array Slot) (cells slots : Nat), cells ≤ 600130 → slots ≤ 7301080 → (∀ z ∈ locs, A z.base) → W p l e room_1 s m #[Value.ref b9] below meth c H locs cells slots Q (F0 m 49 ls [.int 1])) :
    ∀ (d k n : Nat) (u : LU) (H : Heap) (locs : List Loc) (ls : Array Slot) (cells slots : Nat), k + d = 30 → cells + 2 * d ≤ 600130 → slots + 10 * d ≤ 7301080 → LI (200 + 50 * k) n u → 3 ≤ n → n ≤ 8 → kW D (kTY ty) A s.heap s H locs (luW ty o a b sn h t ha r sb hs lf ln cn ch le nu u ++ [R1, R2, R3, R4, R5, R6, R7, R8, R9, R10, R11, R12]) → lv_has ls 4 [(0, .ref b9), (1, .ref o), (2, .int (nI k))] →
      W p l e room_1 s m #[Value.ref b9] below meth c H locs cells slots Q (F0 m 15 ls []) := by
  intro d
  induction d with
  | zero =>
    intro k n u H locs ls cells slots hk hc hsl hI hn3 hn8 w hl
    refine lv_iload_n hx hb dL_law_15 rfl (lv_at hl 2 rfl) ?_
    refine lv_bipush (v := 30) hx hb dL_law_16 (by decide) ?_
    refine lv_icmp_ge (tgt := 48) hx hb dL_law_18 (by decide) (fun c18 => ?_) (fun c18 => ?_)
    · refine lv_iconst (v := 1) hx hb dL_law_48 (by decide) ?_
      exact hE H locs ls cells slots (by omega) (by omega) w.2.2.2.1.2.2
    · exact absurd ((nI_leI (a := 30) (b := k) (by omega) (by omega)).mpr (by omega)) c18
  | succ d ih =>
    intro k n u H locs ls cells slots hk hc hsl hI hn3 hn8 w hl
    obtain ⟨⟨S, M⟩, HX, sz, nx, f⟩ := u
    obtain ⟨hJ, hnx⟩ := hI
    have hJ : LJ (200 + 50 * k) n (S, M) := hJ
    have hnx : nx < 8 := hnx
    refine lv_iload_n hx hb dL_law_15 rfl (lv_at hl 2 rfl) ?_
    refine lv_bipush (v := 30) hx hb dL_law_16 (by decide) ?_
    refine lv_icmp_ge (tgt := 48) hx hb dL_law_18 (by decide) (fun c18 => ?_) (fun c18 => ?_)
    · exact absurd ((nI_leI (a := 30) (b := k) (by omega) (by omega)).mp c18) (by omega)
    refine lv_aload_n hx hb dL_law_21 rfl (lv_at hl 1 rfl) ?_
    refine lv_aload_n hx hb dL_law_22 rfl (lv_at hl 0 rfl) ?_
    refine lv_bipush (v := 30) hx hb dL_law_23 (by decide) ?_
    refine lv_iconst (v := 4) hx hb dL_law_25 (by decide) ?_
    refine lv_iload_n hx hb dL_law_26 rfl (lv_at hl 2 rfl) ?_
    refine lv_imul hx hb dL_law_27 ?_
    refine r_eq (y := (nI (4 * k))) (pk_mul 4 k) ?_
    refine lv_iadd hx hb dL_law_28 ?_
    refine r_eq (y := (nI (30 + 4 * k))) (nI_add 30 (4 * k)) ?_
    refine l_cS (As := [.ref o, .ref b9, .int (nI (30 + 4 * k))]) (rest := []) (Cs := [ppB o (a 0) (b 0) (sn 0) (h 0) r (t 0) sb hs lf, rfB r (f 0) (f 1) (f 2) (f 3), stB a S, lnB ty a S, quB ty a S, weB a S, miB ty a M, hiB ty h ha sz (nI nx), stF ty (ha 0) (HX 0), stF ty (ha 1) (HX 1), stF ty (ha 2) (HX 2), stF ty (ha 3) (HX 3), stF ty (ha 4) (HX 4), stF ty (ha 5) (HX 5), stF ty (ha 6) (HX 6), stF ty (ha 7) (HX 7), txB ty t ln cn ch le nu]) (Rs := [R1, R2, R3, R4, R5, R6, R7, R8, R9, R10, R11, R12]) ⟨hx, hb, hml, hown, hts⟩ hz hs9 w (c_L_any l hst D ty b9 L xs o a b sn h t ha r sb hs lf ln cn ch le nu S M HX sz nx f (200 + 50 * k) n hJ hnx (by omega) (by omega) (30 + 4 * k) (by omega)) (va_cwS 3 hts gL_law_L_any rfl rfl rfl hdN_L_any ⟨(Nat.le_of_ble_eq_true rfl), (Nat.le_of_ble_eq_true rfl)⟩) rfl hl.1 rfl (Nat.le_of_ble_eq_true rfl) dL_law_29 ⟨(show cells + 1 ≤ 600130 by omega), (show slots + 6 ≤ 7301080 by omega)⟩ (fun r29 u H locs hI w => ?_)
    obtain ⟨⟨S, M⟩, HX, sz, nx, f⟩ := u
    obtain ⟨hJ, hnx⟩ := hI
    have hJ : LJ (200 + 50 * k + 50) n (S, M) := hJ
    have hnx : nx < 8 := hnx
    have w := w.cast (Bs' := [ppB o (a 0) (b 0) (sn 0) (h 0) r (t 0) sb hs lf, rfB r (f 0) (f 1) (f 2) (f 3), stB a S, lnB ty a S, quB ty a S, weB a S, miB ty a M, hiB ty h ha sz (nI nx), stF ty (ha 0) (HX 0), stF ty (ha 1) (HX 1), stF ty (ha 2) (HX 2), stF ty (ha 3) (HX 3), stF ty (ha 4) (HX 4), stF ty (ha 5) (HX 5), stF ty (ha 6) (HX 6), stF ty (ha 7) (HX 7), txB ty t ln cn ch le nu, R1, R2, R3, R4, R5, R6, R7, R8, R9, R10, R11, R12]) rfl
    refine lv_istore_n (lv' := [(3, .int r29), (0, .ref b9), (1, .ref o), (2, .int (nI k))]) hx hb dL_law_32 rfl hl (by decide) rfl (fun ls hl => ?_)
    refine lv_aload_n hx hb dL_law_33 rfl (lv_at hl 2 rfl) ?_
    obtain ⟨⟨q, hA⟩, hM, hQ⟩ := id hJ
    have hA : IA S n q := hA
    have hQ : QA S n := hQ
    obtain ⟨⟨cc0, x0, hMR, hrow⟩, hday⟩ := id hM
    have hM0 : M 0 = S 122 := hMR.2.2.2.1.trans hMR.2.2.1.symm
    refine k_iS (As := [.ref o]) (rest := []) (Rs := [rfB r (f 0) (f 1) (f 2) (f 3), stF ty (ha 0) (HX 0), stF ty (ha 1) (HX 1), stF ty (ha 2) (HX 2), stF ty (ha 3) (HX 3), stF ty (ha 4) (HX 4), stF ty (ha 5) (HX 5), stF ty (ha 6) (HX 6), stF ty (ha 7) (HX 7), R1, R2, R3, R4, R5, R6, R7, R8, R9, R10, R11, R12]) (Bs' := [ppB o (a 0) (b 0) (sn 0) (h 0) r (t 0) sb hs lf, rfB r (f 0) (f 1) (f 2) (f 3), stB a S, lnB ty a S, quB ty a S, weB a S, miB ty a M, hiB ty h ha sz (nI nx), stF ty (ha 0) (HX 0), stF ty (ha 1) (HX 1), stF ty (ha 2) (HX 2), stF ty (ha 3) (HX 3), stF ty (ha 4) (HX 4), stF ty (ha 5) (HX 5), stF ty (ha 6) (HX 6), stF ty (ha 7) (HX 7), txB ty t ln cn ch le nu, R1, R2, R3, R4, R5, R6, R7, R8, R9, R10, R11, R12]) ⟨hx, hb, hml, hown, hts⟩ w (c_L_areSumsRight l D ty o a b sn h t r sb hs lf S M n q hA ha sz (nI nx) ln cn ch le nu hM0 hQ) (va_cwS 1 hts gL_law_L_areSumsRight rfl rfl rfl hdN_L_areSumsRight ⟨(Nat.le_of_ble_eq_true rfl), (Nat.le_of_ble_eq_true rfl)⟩) [0, 2, 3, 4, 5, 6, 7, 16, 1, 8, 9, 10, 11, 12, 13, 14, 15, 17, 18, 19, 20, 21, 22, 23, 24, 25, 26, 27, 28] (nB := 29) (by decide) rfl rfl rfl rfl rfl hl.1 rfl (Nat.le_of_ble_eq_true rfl) dL_law_34 ⟨(show cells + 1 + 1 ≤ 600130 by omega), (show slots + 6 + 4 ≤ 7301080 by omega)⟩ (fun H locs w => ?_)
    refine lv_if_ne (tgt := 42) hx hb dL_law_37 (by decide) (fun c37 => ?_) (fun c37 => ?_)
    · refine lv_iinc (v := nI (k + 1)) (lv' := [(2, .int (nI (k + 1))), (3, .int r29), (0, .ref b9), (1, .ref o)]) hx hb dL_law_42 hl (k := 3) rfl (inc1 k) (by decide) rfl (fun ls hl => ?_)
      refine lv_goto (tgt := 15) hx hb dL_law_45 (by decide) ?_
      exact ih (k + 1) n ((S, M), HX, sz, nx, f) H locs ls _ _ (by omega) (by omega) (by omega) ⟨LJ_mono hJ (by omega), hnx⟩ hn3 hn8 w (lv_sub hl [2, 3, 0] rfl)
    · exact absurd c37 (by decide)
