/-! ===== the law's loop ===== -/
theorem lp_gt {L j : Nat} (hL : L ≤ 2048) (hj : j ≤ 4096) : nI L - 4 < nI j ↔ L < j + 4 := by
  rw [Int32.lt_iff_toInt_lt, show (4 : Int32) = nI 4 from rfl, pk_sub_toInt (by omega) (by omega), nI_toInt (by omega)]
  omega
set_option maxRecDepth 100000 in
set_option maxHeartbeats 8000000 in
theorem law_disp {p : Program} {e : Env} {s : State} {m : MethodId} {below : List Frame} {meth : Method} {c : Code} (l : Launch) (hst : l.stackTraces = false) (J : Nat → Nat) (D : va_G) (ty : Nat → ClassId) (g gm : Nat → Nat → Nat) (qo qd : Nat) {b L : Nat} {xs : Nat → Int32} (CX : LCtx J p s m meth c b L xs) {B j cells slots : Nat} {H : Heap} {locs : List Loc} {ls : Array Slot} {Q : State → Prop} (hB : B + 4000 < 10 ^ 7) (hj : j + 3 < L) (hcl : cells + 1 ≤ room_1.cells) (hsl : slots + 6 ≤ room_1.slots)
    (hI : LInv D ty (fun q => s.heap.size ≤ q) s g gm qo qd B H locs) (hl : lv_has ls 9 [(0, .ref b), (1, .ref (g 0 0)), (2, .ref (gm 0 0)), (3, .ref qo), (4, .ref qd), (5, .int (nI j))])
    (hN : ∀ (H1 : Heap) (locs1 : List Loc) (ls1 : Array Slot), LInv D ty (fun q => s.heap.size ≤ q) s g gm qo qd (B + 1500) H1 locs1 → lv_has ls1 9 [(0, .ref b), (1, .ref (g 0 0)), (2, .ref (gm 0 0)), (3, .ref qo), (4, .ref qd), (5, .int (nI j))] → W p l e room_1 s m #[Value.ref b] below meth c H1 locs1 (cells + 1) (slots + 6) Q (F0 m 2062 ls1 [])) :
    W p l e room_1 s m #[Value.ref b] below meth c H locs cells slots Q (F0 m 37 ls []) := by
  obtain ⟨hx, hb, hml, hown, hts, hnc, hz, hj0, hX, hbl, hL2⟩ := id CX
  have hbA : ¬ (fun q => s.heap.size ≤ q) b := Nat.not_le.mpr hbl
  obtain ⟨Bs9, w9⟩ := LInv.w hI
  refine lv_aload_n hx hb dL_law_37 rfl (lv_at hl 0 rfl) ?_
  refine lv_iload hx hb dL_law_38 (lv_at hl 5 rfl) ?_
  refine r_sld hx hb w9 hX hbl hbA j (by omega) (by omega) rfl dL_law_40 ?_
  refine lv_bipush (v := 63) hx hb dL_law_41 (by decide) ?_
  refine lv_iand hx hb dL_law_43 ?_
  by_cases d_0 : xs j &&& 63 = 0
  · refine r_eq (y := 0) d_0 ?_
    refine lv_tableIn (tgt := 204) hx hb dL_law_44 (by decide) (by decide) rfl (by decide) ?_
    exact law_0 l hst J D ty g gm qo qd CX hB hj hcl hsl hI hl hN
  by_cases d_1 : xs j &&& 63 = 1
  · refine r_eq (y := 1) d_1 ?_
    refine lv_tableIn (tgt := 284) hx hb dL_law_44 (by decide) (by decide) rfl (by decide) ?_
    exact law_1 l hst J D ty g gm qo qd CX hB hj hcl hsl hI hl hN
  by_cases d_2 : xs j &&& 63 = 2
  · refine r_eq (y := 2) d_2 ?_
    refine lv_tableIn (tgt := 340) hx hb dL_law_44 (by decide) (by decide) rfl (by decide) ?_
    exact law_2 l hst J D ty g gm qo qd CX hB hj hcl hsl hI hl hN
  by_cases d_3 : xs j &&& 63 = 3
  · refine r_eq (y := 3) d_3 ?_
    refine lv_tableIn (tgt := 396) hx hb dL_law_44 (by decide) (by decide) rfl (by decide) ?_
    exact law_3 l hst J D ty g gm qo qd CX hB hj hcl hsl hI hl hN
  by_cases d_4 : xs j &&& 63 = 4
  · refine r_eq (y := 4) d_4 ?_
    refine lv_tableIn (tgt := 452) hx hb dL_law_44 (by decide) (by decide) rfl (by decide) ?_
    exact law_4 l hst J D ty g gm qo qd CX hB hj hcl hsl hI hl hN
  by_cases d_5 : xs j &&& 63 = 5
  · refine r_eq (y := 5) d_5 ?_
    refine lv_tableIn (tgt := 496) hx hb dL_law_44 (by decide) (by decide) rfl (by decide) ?_
    exact law_5 l hst J D ty g gm qo qd CX hB hj hcl hsl hI hl hN
  by_cases d_6 : xs j &&& 63 = 6
  · refine r_eq (y := 6) d_6 ?_
    refine lv_tableIn (tgt := 552) hx hb dL_law_44 (by decide) (by decide) rfl (by decide) ?_
    exact law_6 l hst J D ty g gm qo qd CX hB hj hcl hsl hI hl hN
  by_cases d_7 : xs j &&& 63 = 7
  · refine r_eq (y := 7) d_7 ?_
    refine lv_tableIn (tgt := 608) hx hb dL_law_44 (by decide) (by decide) rfl (by decide) ?_
    exact law_7 l hst J D ty g gm qo qd CX hB hj hcl hsl hI hl hN
  by_cases d_8 : xs j &&& 63 = 8
  · refine r_eq (y := 8) d_8 ?_
    refine lv_tableIn (tgt := 664) hx hb dL_law_44 (by decide) (by decide) rfl (by decide) ?_
    exact law_8 l hst J D ty g gm qo qd CX hB hj hcl hsl hI hl hN
  by_cases d_9 : xs j &&& 63 = 9
  · refine r_eq (y := 9) d_9 ?_
    refine lv_tableIn (tgt := 708) hx hb dL_law_44 (by decide) (by decide) rfl (by decide) ?_
    exact law_9 l hst J D ty g gm qo qd CX hB hj hcl hsl hI hl hN
  by_cases d_10 : xs j &&& 63 = 10
  · refine r_eq (y := 10) d_10 ?_
    refine lv_tableIn (tgt := 776) hx hb dL_law_44 (by decide) (by decide) rfl (by decide) ?_
    exact law_10 l hst J D ty g gm qo qd CX hB hj hcl hsl hI hl hN
  by_cases d_11 : xs j &&& 63 = 11
  · refine r_eq (y := 11) d_11 ?_
    refine lv_tableIn (tgt := 832) hx hb dL_law_44 (by decide) (by decide) rfl (by decide) ?_
    exact law_11 l hst J D ty g gm qo qd CX hB hj hcl hsl hI hl hN
  by_cases d_12 : xs j &&& 63 = 12
  · refine r_eq (y := 12) d_12 ?_
    refine lv_tableIn (tgt := 888) hx hb dL_law_44 (by decide) (by decide) rfl (by decide) ?_
    exact law_12 l hst J D ty g gm qo qd CX hB hj hcl hsl hI hl hN
  by_cases d_13 : xs j &&& 63 = 13
  · refine r_eq (y := 13) d_13 ?_
    refine lv_tableIn (tgt := 956) hx hb dL_law_44 (by decide) (by decide) rfl (by decide) ?_
    exact law_13 l hst J D ty g gm qo qd CX hB hj hcl hsl hI hl hN
  by_cases d_14 : xs j &&& 63 = 14
  · refine r_eq (y := 14) d_14 ?_
    refine lv_tableIn (tgt := 1024) hx hb dL_law_44 (by decide) (by decide) rfl (by decide) ?_
    exact law_14 l hst J D ty g gm qo qd CX hB hj hcl hsl hI hl hN
  by_cases d_15 : xs j &&& 63 = 15
  · refine r_eq (y := 15) d_15 ?_
    refine lv_tableIn (tgt := 1092) hx hb dL_law_44 (by decide) (by decide) rfl (by decide) ?_
    exact law_15 l hst J D ty g gm qo qd CX hB hj hcl hsl hI hl hN
  by_cases d_16 : xs j &&& 63 = 16
  · refine r_eq (y := 16) d_16 ?_
    refine lv_tableIn (tgt := 1148) hx hb dL_law_44 (by decide) (by decide) rfl (by decide) ?_
    exact law_16 l hst J D ty g gm qo qd CX hB hj hcl hsl hI hl hN
  by_cases d_17 : xs j &&& 63 = 17
  · refine r_eq (y := 17) d_17 ?_
    refine lv_tableIn (tgt := 1204) hx hb dL_law_44 (by decide) (by decide) rfl (by decide) ?_
    exact law_17 l hst J D ty g gm qo qd CX hB hj hcl hsl hI hl hN
  by_cases d_18 : xs j &&& 63 = 18
  · refine r_eq (y := 18) d_18 ?_
    refine lv_tableIn (tgt := 1260) hx hb dL_law_44 (by decide) (by decide) rfl (by decide) ?_
    exact law_18 l hst J D ty g gm qo qd CX hB hj hcl hsl hI hl hN
  by_cases d_19 : xs j &&& 63 = 19
  · refine r_eq (y := 19) d_19 ?_
    refine lv_tableIn (tgt := 1273) hx hb dL_law_44 (by decide) (by decide) rfl (by decide) ?_
    exact law_19 l hst J D ty g gm qo qd CX hB hj hcl hsl hI hl hN
  by_cases d_20 : xs j &&& 63 = 20
  · refine r_eq (y := 20) d_20 ?_
    refine lv_tableIn (tgt := 1329) hx hb dL_law_44 (by decide) (by decide) rfl (by decide) ?_
    exact law_20 l hst J D ty g gm qo qd CX hB hj hcl hsl hI hl hN
  by_cases d_21 : xs j &&& 63 = 21
  · refine r_eq (y := 21) d_21 ?_
    refine lv_tableIn (tgt := 1397) hx hb dL_law_44 (by decide) (by decide) rfl (by decide) ?_
    exact law_21 l hst J D ty g gm qo qd CX hB hj hcl hsl hI hl hN
  by_cases d_22 : xs j &&& 63 = 22
  · refine r_eq (y := 22) d_22 ?_
    refine lv_tableIn (tgt := 1453) hx hb dL_law_44 (by decide) (by decide) rfl (by decide) ?_
    exact law_22 l hst J D ty g gm qo qd CX hB hj hcl hsl hI hl hN
  by_cases d_23 : xs j &&& 63 = 23
  · refine r_eq (y := 23) d_23 ?_
    refine lv_tableIn (tgt := 1466) hx hb dL_law_44 (by decide) (by decide) rfl (by decide) ?_
    exact law_23 l hst J D ty g gm qo qd CX hB hj hcl hsl hI hl hN
  by_cases d_24 : xs j &&& 63 = 24
  · refine r_eq (y := 24) d_24 ?_
    refine lv_tableIn (tgt := 1479) hx hb dL_law_44 (by decide) (by decide) rfl (by decide) ?_
    exact law_24 l hst J D ty g gm qo qd CX hB hj hcl hsl hI hl hN
  by_cases d_25 : xs j &&& 63 = 25
  · refine r_eq (y := 25) d_25 ?_
    refine lv_tableIn (tgt := 1537) hx hb dL_law_44 (by decide) (by decide) rfl (by decide) ?_
    exact law_25 l hst J D ty g gm qo qd CX hB hj hcl hsl hI hl hN
  by_cases d_26 : xs j &&& 63 = 26
  · refine r_eq (y := 26) d_26 ?_
    refine lv_tableIn (tgt := 1581) hx hb dL_law_44 (by decide) (by decide) rfl (by decide) ?_
    exact law_26 l hst J D ty g gm qo qd CX hB hj hcl hsl hI hl hN
  by_cases d_27 : xs j &&& 63 = 27
  · refine r_eq (y := 27) d_27 ?_
    refine lv_tableIn (tgt := 1594) hx hb dL_law_44 (by decide) (by decide) rfl (by decide) ?_
    exact law_27 l hst J D ty g gm qo qd CX hB hj hcl hsl hI hl hN
  by_cases d_28 : xs j &&& 63 = 28
  · refine r_eq (y := 28) d_28 ?_
    refine lv_tableIn (tgt := 1650) hx hb dL_law_44 (by decide) (by decide) rfl (by decide) ?_
    exact law_28 l hst J D ty g gm qo qd CX hB hj hcl hsl hI hl hN
  by_cases d_29 : xs j &&& 63 = 29
  · refine r_eq (y := 29) d_29 ?_
    refine lv_tableIn (tgt := 1706) hx hb dL_law_44 (by decide) (by decide) rfl (by decide) ?_
    exact law_29 l hst J D ty g gm qo qd CX hB hj hcl hsl hI hl hN
  by_cases d_30 : xs j &&& 63 = 30
  · refine r_eq (y := 30) d_30 ?_
    refine lv_tableIn (tgt := 1762) hx hb dL_law_44 (by decide) (by decide) rfl (by decide) ?_
    exact law_30 l hst J D ty g gm qo qd CX hB hj hcl hsl hI hl hN
  by_cases d_31 : xs j &&& 63 = 31
  · refine r_eq (y := 31) d_31 ?_
    refine lv_tableIn (tgt := 1828) hx hb dL_law_44 (by decide) (by decide) rfl (by decide) ?_
    exact law_31 l hst J D ty g gm qo qd CX hB hj hcl hsl hI hl hN
  by_cases d_32 : xs j &&& 63 = 32
  · refine r_eq (y := 32) d_32 ?_
    refine lv_tableIn (tgt := 1905) hx hb dL_law_44 (by decide) (by decide) rfl (by decide) ?_
    exact law_32 l hst J D ty g gm qo qd CX hB hj hcl hsl hI hl hN
  by_cases d_33 : xs j &&& 63 = 33
  · refine r_eq (y := 33) d_33 ?_
    refine lv_tableIn (tgt := 1961) hx hb dL_law_44 (by decide) (by decide) rfl (by decide) ?_
    exact law_33 l hst J D ty g gm qo qd CX hB hj hcl hsl hI hl hN
  by_cases d_34 : xs j &&& 63 = 34
  · refine r_eq (y := 34) d_34 ?_
    refine lv_tableIn (tgt := 2005) hx hb dL_law_44 (by decide) (by decide) rfl (by decide) ?_
    exact law_34 l hst J D ty g gm qo qd CX hB hj hcl hsl hI hl hN
  by_cases d_35 : xs j &&& 63 = 35
  · refine r_eq (y := 35) d_35 ?_
    refine lv_tableIn (tgt := 2018) hx hb dL_law_44 (by decide) (by decide) rfl (by decide) ?_
    exact law_35 l hst J D ty g gm qo qd CX hB hj hcl hsl hI hl hN
  refine lv_tableOut (tgt := 2062) hx hb dL_law_44 (sw_out 0 35 (fun v h1 h2 e => by
    have h3 : v = 0 ∨ v = 1 ∨ v = 2 ∨ v = 3 ∨ v = 4 ∨ v = 5 ∨ v = 6 ∨ v = 7 ∨ v = 8 ∨ v = 9 ∨ v = 10 ∨ v = 11 ∨ v = 12 ∨ v = 13 ∨ v = 14 ∨ v = 15 ∨ v = 16 ∨ v = 17 ∨ v = 18 ∨ v = 19 ∨ v = 20 ∨ v = 21 ∨ v = 22 ∨ v = 23 ∨ v = 24 ∨ v = 25 ∨ v = 26 ∨ v = 27 ∨ v = 28 ∨ v = 29 ∨ v = 30 ∨ v = 31 ∨ v = 32 ∨ v = 33 ∨ v = 34 ∨ v = 35 := by omega
    rcases h3 with rfl | rfl | rfl | rfl | rfl | rfl | rfl | rfl | rfl | rfl | rfl | rfl | rfl | rfl | rfl | rfl | rfl | rfl | rfl | rfl | rfl | rfl | rfl | rfl | rfl | rfl | rfl | rfl | rfl | rfl | rfl | rfl | rfl | rfl | rfl | rfl
    · exact d_0 (Int32.toInt_inj.mp e)
    · exact d_1 (Int32.toInt_inj.mp e)
    · exact d_2 (Int32.toInt_inj.mp e)
    · exact d_3 (Int32.toInt_inj.mp e)
    · exact d_4 (Int32.toInt_inj.mp e)
    · exact d_5 (Int32.toInt_inj.mp e)
    · exact d_6 (Int32.toInt_inj.mp e)
    · exact d_7 (Int32.toInt_inj.mp e)
    · exact d_8 (Int32.toInt_inj.mp e)
    · exact d_9 (Int32.toInt_inj.mp e)
    · exact d_10 (Int32.toInt_inj.mp e)
    · exact d_11 (Int32.toInt_inj.mp e)
    · exact d_12 (Int32.toInt_inj.mp e)
    · exact d_13 (Int32.toInt_inj.mp e)
    · exact d_14 (Int32.toInt_inj.mp e)
    · exact d_15 (Int32.toInt_inj.mp e)
    · exact d_16 (Int32.toInt_inj.mp e)
    · exact d_17 (Int32.toInt_inj.mp e)
    · exact d_18 (Int32.toInt_inj.mp e)
    · exact d_19 (Int32.toInt_inj.mp e)
    · exact d_20 (Int32.toInt_inj.mp e)
    · exact d_21 (Int32.toInt_inj.mp e)
    · exact d_22 (Int32.toInt_inj.mp e)
    · exact d_23 (Int32.toInt_inj.mp e)
    · exact d_24 (Int32.toInt_inj.mp e)
    · exact d_25 (Int32.toInt_inj.mp e)
    · exact d_26 (Int32.toInt_inj.mp e)
    · exact d_27 (Int32.toInt_inj.mp e)
    · exact d_28 (Int32.toInt_inj.mp e)
    · exact d_29 (Int32.toInt_inj.mp e)
    · exact d_30 (Int32.toInt_inj.mp e)
    · exact d_31 (Int32.toInt_inj.mp e)
    · exact d_32 (Int32.toInt_inj.mp e)
    · exact d_33 (Int32.toInt_inj.mp e)
    · exact d_34 (Int32.toInt_inj.mp e)
    · exact d_35 (Int32.toInt_inj.mp e)
    )) (by decide) ?_
  exact W.widen (k := cells + 1) (n := slots + 6) (Nat.le_succ _) (by omega) (hN _ _ _ (LInv.mono hI (by omega)) hl)
/-- from the loop's head, k turns behind: d turns at most are left -/
theorem law_loop {p : Program} {e : Env} {s : State} {m : MethodId} {below : List Frame} {meth : Method} {c : Code} (l : Launch) (hst : l.stackTraces = false) (J : Nat → Nat) (D : va_G) (ty : Nat → ClassId) (g gm : Nat → Nat → Nat) (qo qd : Nat) {b L : Nat} {xs : Nat → Int32} (CX : LCtx J p s m meth c b L xs) {c0 s0 : Nat} {Q : State → Prop} (hc0 : c0 + 520 ≤ room_1.cells) (hs0 : s0 + 3120 ≤ room_1.slots)
    (hE : ∀ (H : Heap) (locs : List Loc) (ls : Array Slot) (cells slots : Nat), cells ≤ room_1.cells → slots ≤ room_1.slots → (∀ z ∈ locs, s.heap.size ≤ z.base) → W p l e room_1 s m #[Value.ref b] below meth c H locs cells slots Q (F0 m 2069 ls [.int 1])) :
    ∀ (d k : Nat) (H : Heap) (locs : List Loc) (ls : Array Slot), k + d = 513 → LInv D ty (fun q => s.heap.size ≤ q) s g gm qo qd (1500 * k) H locs → lv_has ls 9 [(0, .ref b), (1, .ref (g 0 0)), (2, .ref (gm 0 0)), (3, .ref qo), (4, .ref qd), (5, .int (nI (4 * k)))] → W p l e room_1 s m #[Value.ref b] below meth c H locs (c0 + k) (s0 + 6 * k) Q (F0 m 28 ls []) := by
  intro d
  induction d with
  | zero =>
    intro k H locs ls hk hI hl
    obtain ⟨hx, hb, hml, hown, hts, hnc, hz, hj0, hX, hbl, hL2⟩ := id CX
    have hbA : ¬ (fun q => s.heap.size ≤ q) b := Nat.not_le.mpr hbl
    obtain ⟨Bs9, w9⟩ := LInv.w hI
    refine lv_iload hx hb dL_law_28 (lv_at hl 5 rfl) ?_
    refine lv_aload_n hx hb dL_law_30 rfl (lv_at hl 0 rfl) ?_
    refine va_slen hx hb hX hbl hbA w9.2.2.2.1 dL_law_31 ?_
    refine lv_iconst (v := 4) hx hb dL_law_32 (by decide) ?_
    refine lv_isub hx hb dL_law_33 ?_
    refine lv_icmp_gt (tgt := 2068) hx hb dL_law_34 (by decide) (fun _ => ?_) (fun cc => absurd ((lp_gt hL2 (by omega)).mpr (by omega)) cc)
    refine lv_iconst (v := 1) hx hb dL_law_2068 (by decide) ?_
    exact hE _ _ _ _ _ (by omega) (by omega) w9.2.2.2.1.2.2
  | succ d ih =>
    intro k H locs ls hk hI hl
    obtain ⟨hx, hb, hml, hown, hts, hnc, hz, hj0, hX, hbl, hL2⟩ := id CX
    have hbA : ¬ (fun q => s.heap.size ≤ q) b := Nat.not_le.mpr hbl
    obtain ⟨Bs9, w9⟩ := LInv.w hI
    refine lv_iload hx hb dL_law_28 (lv_at hl 5 rfl) ?_
    refine lv_aload_n hx hb dL_law_30 rfl (lv_at hl 0 rfl) ?_
    refine va_slen hx hb hX hbl hbA w9.2.2.2.1 dL_law_31 ?_
    refine lv_iconst (v := 4) hx hb dL_law_32 (by decide) ?_
    refine lv_isub hx hb dL_law_33 ?_
    refine lv_icmp_gt (tgt := 2068) hx hb dL_law_34 (by decide) (fun _ => ?_) (fun cc => ?_)
    · refine lv_iconst (v := 1) hx hb dL_law_2068 (by decide) ?_
      exact hE _ _ _ _ _ (by omega) (by omega) w9.2.2.2.1.2.2
    · have hj : ¬ L < 4 * k + 4 := fun q => cc ((lp_gt hL2 (by omega)).mpr q)
      refine law_disp l hst J D ty g gm qo qd CX (by omega) (by omega) (by omega) (by omega) hI hl (fun H1 locs1 ls1 hI1 hl1 => ?_)
      refine lv_iinc (v := nI (4 * (k + 1))) (lv' := [(5, .int (nI (4 * (k + 1)))), (0, .ref b), (1, .ref (g 0 0)), (2, .ref (gm 0 0)), (3, .ref qo), (4, .ref qd)]) hx hb dL_law_2062 hl1 (k := 5) rfl (nI_add (4 * k) 4) (by decide) rfl (fun ls hl => ?_)
      refine lv_goto (tgt := 28) hx hb dL_law_2065 (by decide) ?_
      have h9 := ih (k + 1) H1 locs1 ls (by omega) (by rw [show 1500 * (k + 1) = 1500 * k + 1500 by omega]; exact hI1) (lv_sub hl [1, 2, 3, 4, 5, 0] rfl)
      rw [show s0 + 6 * (k + 1) = s0 + 6 * k + 6 by omega] at h9
      exact h9
