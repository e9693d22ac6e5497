theorem hdN_L_areSumsRight : yL_areSumsRight.cls ≠ "java/lang/invoke/MethodHandle" ∧ yL_areSumsRight.cls ≠ "java/lang/invoke/VarHandle" ∧ (parseMethodDescriptor yL_areSumsRight.desc).map (fun d => d.parameters.length) = some 1 := by decide +kernel
set_option maxRecDepth 100000 in
set_option maxHeartbeats 4000000 in
theorem c_L_areSumsRight (l : Launch) (D : va_G) (ty : Nat → ClassId) (o : Nat) (a b sn h t : Nat → Nat) (r sb : Nat) (hs lf : Int32) (S M : pS) (n q : Nat) (hA : IA S n q) (ha : Nat → Nat → Nat) (sz nx ln cn : Int32) (ch le nu : Nat → Int32) (hM0 : M 0 = S 122) (hQ : QA S n)  : Mi l yL_areSumsRight wsL_areSumsRight (kR 6 137 1 4) D (kTY ty) [.ref o] [ppB o (a 0) (b 0) (sn 0) (h 0) r (t 0) sb hs lf, stB a S, lnB ty a S, quB ty a S, weB a S, miB ty a M, hiB ty h ha sz nx, txB ty t ln cn ch le nu] [ppB o (a 0) (b 0) (sn 0) (h 0) r (t 0) sb hs lf, stB a S, lnB ty a S, quB ty a S, weB a S, miB ty a M, hiB ty h ha sz nx, txB ty t ln cn ch le nu] 1 1 4 := by
  refine m_i (cc := cL_areSumsRight) (maxL := 9) (ret := (some .boolean)) (by decide +kernel) rfl (Nat.le_of_ble_eq_true rfl) ?_
  intro p e s m below meth c A ls hx hb hml hr hlocks hown hts w hl
  have hown : s.vm.findClass RL = some m.cls := hown
  have hl : lv_has ls 9 [(0, .ref o)] := hl
  have hI := hA.1
  obtain ⟨h0, hn, h1, hq, he, hd, hdr, hwr⟩ := id hI
  obtain ⟨v4, hv4, hv49⟩ := hQ.2.2.2.2.2.2
  obtain ⟨x5, hx5, hx50⟩ := hA.2.2.2.2.2
  have hN1 := hA.2.1.1
  have hN2 := hA.2.1.2
  refine lv_iconst (v := 0) hx hb dL_areSumsRight_0 (by decide) ?_
  refine lv_istore_n (lv' := [(1, .int 0), (0, .ref o)]) hx hb dL_areSumsRight_1 rfl hl (by decide) rfl (fun ls hl => ?_)
  refine lv_iconst (v := 0) hx hb dL_areSumsRight_2 (by decide) ?_
  refine lv_istore_n (lv' := [(2, .int 0), (1, .int 0), (0, .ref o)]) hx hb dL_areSumsRight_3 rfl hl (by decide) rfl (fun ls hl => ?_)
  refine lv_iconst (v := 0) hx hb dL_areSumsRight_4 (by decide) ?_
  refine lv_istore_n (lv' := [(3, .int 0), (2, .int 0), (1, .int 0), (0, .ref o)]) hx hb dL_areSumsRight_5 rfl hl (by decide) rfl (fun ls hl => ?_)
  refine lv_iconst (v := 0) hx hb dL_areSumsRight_6 (by decide) ?_
  refine lv_istore (lv' := [(4, .int 0), (3, .int 0), (2, .int 0), (1, .int 0), (0, .ref o)]) hx hb dL_areSumsRight_7 hl (by decide) rfl (fun ls hl => ?_)
  refine lv_iconst (v := 4) hx hb dL_areSumsRight_9 (by decide) ?_
  refine r_newa (atype := .int) (ty := .int) (N' := 4) (a0 := (4, .inl (fun _ => 0))) hx hb (hts _ (List.mem_of_getElem? (i := 1) rfl)) rfl w 0 rfl (fun _ _ h1 h2 => Option.some.inj (h1.symm.trans h2)) (fun _ => rfl) (by decide) (by decide) (Nat.le_of_ble_eq_true rfl) (Nat.le_of_ble_eq_true rfl) (Nat.le_of_ble_eq_true rfl) dL_areSumsRight_10 (fun q10 H w => ?_)
  refine lv_astore (lv' := [(5, .ref q10), (4, .int 0), (3, .int 0), (2, .int 0), (1, .int 0), (0, .ref o)]) hx hb dL_areSumsRight_12 hl (by decide) rfl (fun ls hl => ?_)
  refine lv_iconst (v := 0) hx hb dL_areSumsRight_14 (by decide) ?_
  refine lv_istore (lv' := [(6, .int 0), (5, .ref q10), (4, .int 0), (3, .int 0), (2, .int 0), (1, .int 0), (0, .ref o)]) hx hb dL_areSumsRight_15 hl (by decide) rfl (fun ls hl => ?_)
  refine k_loop (fun k H locs ls => kW D (kTY ty) A s.heap s H locs [ppB o (a 0) (b 0) (sn 0) (h 0) r (t 0) sb hs lf, stB a S, lnB ty a S, quB ty a S, weB a S, miB ty a M, hiB ty h ha sz nx, txB ty t ln cn ch le nu, [(q10, .inl (ty 0, 4, .inl (mA S k)))]] ∧ lv_has ls 9 [(0, .ref o), (1, .int (rs (fQ S (fun _ => 1) q) k)), (2, .int (rs (fun i => S (1 + 6 * i + 5)) k)), (3, .int (rs (fun w => rs (fun l => S (58 + 8 * w + l)) n) k)), (4, .int (rs (fQ S (pLeft S) q) k)), (5, .ref q10), (6, .int (nI k))]) n 0 (by omega) ⟨(w.cast (by rw [mA_0]; rfl)), lv_sub hl [6, 5, 4, 3, 2, 1, 0] rfl⟩ ?_
  intro k hk0 hk ihk H locs ls hI
  obtain ⟨w, hl⟩ := hI
  refine lv_iload hx hb dL_areSumsRight_17 (lv_at hl 6 rfl) ?_
  refine lv_aload_n hx hb dL_areSumsRight_19 rfl (lv_at hl 0 rfl) ?_
  refine lv_iconst (v := 1) hx hb dL_areSumsRight_20 (by decide) ?_
  refine k_iV (As := [.int 1]) (rest := [.int (nI k)]) (Rs := [[(q10, .inl (ty 0, 4, .inl (mA S k)))]]) (Bs' := [ppB o (a 0) (b 0) (sn 0) (h 0) r (t 0) sb hs lf, stB a S, lnB ty a S, quB ty a S, weB a S, miB ty a M, hiB ty h ha sz nx, txB ty t ln cn ch le nu, [(q10, .inl (ty 0, 4, .inl (mA S k)))]]) ⟨hx, hb, hml, hown, hts⟩ w (c_ac1 l D ty o a b sn h t r sb hs lf S M n q hA ha sz nx ln cn ch le nu hM0) (cwV 1 hts gL_areSumsRight_X8_account rfl rfl rfl ⟨rfl, hdN_X8_account⟩ ⟨Nat.le_of_ble_eq_true rfl, Nat.le_of_ble_eq_true rfl⟩) [0, 1, 2, 3, 4, 5, 6, 7, 8] (nB := 9) (by decide) rfl rfl rfl rfl 0 rfl rfl (ci := 12) rfl rfl rfl hl.1 rfl (Nat.le_of_ble_eq_true rfl) dL_areSumsRight_21 ⟨(Nat.le_of_ble_eq_true rfl), (Nat.le_of_ble_eq_true rfl)⟩ (fun H locs w => ?_)
  refine lv_icmp_ge (tgt := 230) hx hb dL_areSumsRight_24 (by decide) (fun c24 => ?_) (fun c24 => ?_)
  · have c24 := (nI_leI (a := n) (b := k) (by omega) (by omega)).mp c24
    obtain rfl : n = k := by omega
    refine lv_iload_n hx hb dL_areSumsRight_230 rfl (lv_at hl 1 rfl) ?_
    refine lv_aload_n hx hb dL_areSumsRight_231 rfl (lv_at hl 0 rfl) ?_
    refine lv_iconst (v := 2) hx hb dL_areSumsRight_232 (by decide) ?_
    refine k_iV (As := [.int 2]) (rest := [.int (rs (fQ S (fun _ => 1) q) n)]) (Rs := [[(q10, .inl (ty 0, 4, .inl (mA S n)))]]) (Bs' := [ppB o (a 0) (b 0) (sn 0) (h 0) r (t 0) sb hs lf, stB a S, lnB ty a S, quB ty a S, weB a S, miB ty a M, hiB ty h ha sz nx, txB ty t ln cn ch le nu, [(q10, .inl (ty 0, 4, .inl (mA S n)))]]) ⟨hx, hb, hml, hown, hts⟩ w (c_ac2 l D ty o a b sn h t r sb hs lf S M n q hA ha sz nx ln cn ch le nu hM0) (cwV 1 hts gL_areSumsRight_X8_account rfl rfl rfl ⟨rfl, hdN_X8_account⟩ ⟨Nat.le_of_ble_eq_true rfl, Nat.le_of_ble_eq_true rfl⟩) [0, 1, 2, 3, 4, 5, 6, 7, 8] (nB := 9) (by decide) rfl rfl rfl rfl 0 rfl rfl (ci := 12) rfl rfl rfl hl.1 rfl (Nat.le_of_ble_eq_true rfl) dL_areSumsRight_233 ⟨(Nat.le_of_ble_eq_true rfl), (Nat.le_of_ble_eq_true rfl)⟩ (fun H locs w => ?_)
    refine lv_icmp_ne (tgt := 306) hx hb dL_areSumsRight_236 (by decide) (fun c236 => ?_) (fun c236 => ?_)
    · exact absurd (sum_wait hI) c236
    · refine lv_iload_n hx hb dL_areSumsRight_239 rfl (lv_at hl 2 rfl) ?_
      refine lv_aload_n hx hb dL_areSumsRight_240 rfl (lv_at hl 0 rfl) ?_
      refine lv_iconst (v := 4) hx hb dL_areSumsRight_241 (by decide) ?_
      refine k_iV (As := [.int 4]) (rest := [.int (rs (fun i => S (1 + 6 * i + 5)) n)]) (Rs := [[(q10, .inl (ty 0, 4, .inl (mA S n)))]]) (Bs' := [ppB o (a 0) (b 0) (sn 0) (h 0) r (t 0) sb hs lf, stB a S, lnB ty a S, quB ty a S, weB a S, miB ty a M, hiB ty h ha sz nx, txB ty t ln cn ch le nu, [(q10, .inl (ty 0, 4, .inl (mA S n)))]]) ⟨hx, hb, hml, hown, hts⟩ w (c_ac4 l D ty o a b sn h t r sb hs lf S M n q hA ha sz nx ln cn ch le nu hM0) (cwV 1 hts gL_areSumsRight_X8_account rfl rfl rfl ⟨rfl, hdN_X8_account⟩ ⟨Nat.le_of_ble_eq_true rfl, Nat.le_of_ble_eq_true rfl⟩) [0, 1, 2, 3, 4, 5, 6, 7, 8] (nB := 9) (by decide) rfl rfl rfl rfl 0 rfl rfl (ci := 12) rfl rfl rfl hl.1 rfl (Nat.le_of_ble_eq_true rfl) dL_areSumsRight_242 ⟨(Nat.le_of_ble_eq_true rfl), (Nat.le_of_ble_eq_true rfl)⟩ (fun H locs w => ?_)
      refine lv_icmp_ne (tgt := 306) hx hb dL_areSumsRight_245 (by decide) (fun c245 => ?_) (fun c245 => ?_)
      · exact absurd (sum_water hn hQ) c245
      · refine lv_iload_n hx hb dL_areSumsRight_248 rfl (lv_at hl 3 rfl) ?_
        refine lv_aload_n hx hb dL_areSumsRight_249 rfl (lv_at hl 0 rfl) ?_
        refine lv_bipush (v := 7) hx hb dL_areSumsRight_250 (by decide) ?_
        refine k_iV (As := [.int 7]) (rest := [.int (rs (fun w => rs (fun l => S (58 + 8 * w + l)) n) n)]) (Rs := [[(q10, .inl (ty 0, 4, .inl (mA S n)))]]) (Bs' := [ppB o (a 0) (b 0) (sn 0) (h 0) r (t 0) sb hs lf, stB a S, lnB ty a S, quB ty a S, weB a S, miB ty a M, hiB ty h ha sz nx, txB ty t ln cn ch le nu, [(q10, .inl (ty 0, 4, .inl (mA S n)))]]) ⟨hx, hb, hml, hown, hts⟩ w (c_ac7 l D ty o a b sn h t r sb hs lf S M n q hA ha sz nx ln cn ch le nu hM0) (cwV 1 hts gL_areSumsRight_X8_account rfl rfl rfl ⟨rfl, hdN_X8_account⟩ ⟨Nat.le_of_ble_eq_true rfl, Nat.le_of_ble_eq_true rfl⟩) [0, 1, 2, 3, 4, 5, 6, 7, 8] (nB := 9) (by decide) rfl rfl rfl rfl 0 rfl rfl (ci := 12) rfl rfl rfl hl.1 rfl (Nat.le_of_ble_eq_true rfl) dL_areSumsRight_252 ⟨(Nat.le_of_ble_eq_true rfl), (Nat.le_of_ble_eq_true rfl)⟩ (fun H locs w => ?_)
        refine lv_icmp_ne (tgt := 306) hx hb dL_areSumsRight_255 (by decide) (fun c255 => ?_) (fun c255 => ?_)
        · exact absurd (sum_quar hn hQ) c255
        · refine lv_iload hx hb dL_areSumsRight_258 (lv_at hl 4 rfl) ?_
          refine lv_aload_n hx hb dL_areSumsRight_260 rfl (lv_at hl 0 rfl) ?_
          refine k_iV (As := []) (rest := [.int (rs (fQ S (pLeft S) q) n)]) (Rs := [hiB ty h ha sz nx, txB ty t ln cn ch le nu, [(q10, .inl (ty 0, 4, .inl (mA S n)))]]) (Bs' := [ppB o (a 0) (b 0) (sn 0) (h 0) r (t 0) sb hs lf, stB a S, lnB ty a S, quB ty a S, weB a S, miB ty a M, hiB ty h ha sz nx, txB ty t ln cn ch le nu, [(q10, .inl (ty 0, 4, .inl (mA S n)))]]) ⟨hx, hb, hml, hown, hts⟩ w (c_X8_possible l D ty o a b sn h t r sb hs lf S M n q hA ) (cwV 0 hts gL_areSumsRight_X8_possible rfl rfl rfl ⟨rfl, hdN_X8_possible⟩ ⟨Nat.le_of_ble_eq_true rfl, Nat.le_of_ble_eq_true rfl⟩) [0, 1, 2, 3, 4, 5, 6, 7, 8] (nB := 9) (by decide) rfl rfl rfl rfl 0 rfl rfl (ci := 12) rfl rfl rfl hl.1 rfl (Nat.le_of_ble_eq_true rfl) dL_areSumsRight_261 ⟨(Nat.le_of_ble_eq_true rfl), (Nat.le_of_ble_eq_true rfl)⟩ (fun H locs w => ?_)
          refine lv_icmp_ne (tgt := 306) hx hb dL_areSumsRight_264 (by decide) (fun c264 => ?_) (fun c264 => ?_)
          · exact absurd (sum_poss hI) c264
          · refine lv_aload_n hx hb dL_areSumsRight_267 rfl (lv_at hl 0 rfl) ?_
            refine k_iV (As := []) (rest := []) (Rs := [hiB ty h ha sz nx, txB ty t ln cn ch le nu, [(q10, .inl (ty 0, 4, .inl (mA S n)))]]) (Bs' := [ppB o (a 0) (b 0) (sn 0) (h 0) r (t 0) sb hs lf, stB a S, lnB ty a S, quB ty a S, weB a S, miB ty a M, hiB ty h ha sz nx, txB ty t ln cn ch le nu, [(q10, .inl (ty 0, 4, .inl (mA S n)))]]) ⟨hx, hb, hml, hown, hts⟩ w (c_X8_water l D ty o a b sn h t r sb hs lf S M n q hA ) (cwV 0 hts gL_areSumsRight_X8_water rfl rfl rfl ⟨rfl, hdN_X8_water⟩ ⟨Nat.le_of_ble_eq_true rfl, Nat.le_of_ble_eq_true rfl⟩) [0, 1, 2, 3, 4, 5, 6, 7, 8] (nB := 9) (by decide) rfl rfl rfl rfl 0 rfl rfl (ci := 12) rfl rfl rfl hl.1 rfl (Nat.le_of_ble_eq_true rfl) dL_areSumsRight_268 ⟨(Nat.le_of_ble_eq_true rfl), (Nat.le_of_ble_eq_true rfl)⟩ (fun H locs w => ?_)
            refine lv_aload_n hx hb dL_areSumsRight_271 rfl (lv_at hl 0 rfl) ?_
            refine k_iV (As := []) (rest := [.int (S 204 + S 210 + S 211)]) (Rs := [hiB ty h ha sz nx, txB ty t ln cn ch le nu, [(q10, .inl (ty 0, 4, .inl (mA S n)))]]) (Bs' := [ppB o (a 0) (b 0) (sn 0) (h 0) r (t 0) sb hs lf, stB a S, lnB ty a S, quB ty a S, weB a S, miB ty a M, hiB ty h ha sz nx, txB ty t ln cn ch le nu, [(q10, .inl (ty 0, 4, .inl (mA S n)))]]) ⟨hx, hb, hml, hown, hts⟩ w (c_X8_waterAgain l D ty o a b sn h t r sb hs lf S M n q hA ) (cwV 0 hts gL_areSumsRight_X8_waterAgain rfl rfl rfl ⟨rfl, hdN_X8_waterAgain⟩ ⟨Nat.le_of_ble_eq_true rfl, Nat.le_of_ble_eq_true rfl⟩) [0, 1, 2, 3, 4, 5, 6, 7, 8] (nB := 9) (by decide) rfl rfl rfl rfl 0 rfl rfl (ci := 12) rfl rfl rfl hl.1 rfl (Nat.le_of_ble_eq_true rfl) dL_areSumsRight_272 ⟨(Nat.le_of_ble_eq_true rfl), (Nat.le_of_ble_eq_true rfl)⟩ (fun H locs w => ?_)
            refine lv_icmp_ne (tgt := 306) hx hb dL_areSumsRight_275 (by decide) (fun c275 => ?_) (fun c275 => ?_)
            · exact absurd hQ.2.2.2.2.2.1 c275
            · refine lv_aload_n hx hb dL_areSumsRight_278 rfl (lv_at hl 0 rfl) ?_
              refine k_iV (As := []) (rest := []) (Rs := [hiB ty h ha sz nx, txB ty t ln cn ch le nu, [(q10, .inl (ty 0, 4, .inl (mA S n)))]]) (Bs' := [ppB o (a 0) (b 0) (sn 0) (h 0) r (t 0) sb hs lf, stB a S, lnB ty a S, quB ty a S, weB a S, miB ty a M, hiB ty h ha sz nx, txB ty t ln cn ch le nu, [(q10, .inl (ty 0, 4, .inl (mA S n)))]]) ⟨hx, hb, hml, hown, hts⟩ w (c_X8_water l D ty o a b sn h t r sb hs lf S M n q hA ) (cwV 0 hts gL_areSumsRight_X8_water rfl rfl rfl ⟨rfl, hdN_X8_water⟩ ⟨Nat.le_of_ble_eq_true rfl, Nat.le_of_ble_eq_true rfl⟩) [0, 1, 2, 3, 4, 5, 6, 7, 8] (nB := 9) (by decide) rfl rfl rfl rfl 0 rfl rfl (ci := 12) rfl rfl rfl hl.1 rfl (Nat.le_of_ble_eq_true rfl) dL_areSumsRight_279 ⟨(Nat.le_of_ble_eq_true rfl), (Nat.le_of_ble_eq_true rfl)⟩ (fun H locs w => ?_)
              refine lv_aload_n hx hb dL_areSumsRight_282 rfl (lv_at hl 0 rfl) ?_
              refine lv_iconst (v := 3) hx hb dL_areSumsRight_283 (by decide) ?_
              refine k_iV (As := [.int 3]) (rest := [.int (S 204 + S 210 + S 211)]) (Rs := [[(q10, .inl (ty 0, 4, .inl (mA S n)))]]) (Bs' := [ppB o (a 0) (b 0) (sn 0) (h 0) r (t 0) sb hs lf, stB a S, lnB ty a S, quB ty a S, weB a S, miB ty a M, hiB ty h ha sz nx, txB ty t ln cn ch le nu, [(q10, .inl (ty 0, 4, .inl (mA S n)))]]) ⟨hx, hb, hml, hown, hts⟩ w (c_ac3 l D ty o a b sn h t r sb hs lf S M n q hA ha sz nx ln cn ch le nu hM0) (cwV 1 hts gL_areSumsRight_X8_account rfl rfl rfl ⟨rfl, hdN_X8_account⟩ ⟨Nat.le_of_ble_eq_true rfl, Nat.le_of_ble_eq_true rfl⟩) [0, 1, 2, 3, 4, 5, 6, 7, 8] (nB := 9) (by decide) rfl rfl rfl rfl 0 rfl rfl (ci := 12) rfl rfl rfl hl.1 rfl (Nat.le_of_ble_eq_true rfl) dL_areSumsRight_284 ⟨(Nat.le_of_ble_eq_true rfl), (Nat.le_of_ble_eq_true rfl)⟩ (fun H locs w => ?_)
              refine lv_aload_n hx hb dL_areSumsRight_287 rfl (lv_at hl 0 rfl) ?_
              refine lv_iconst (v := 4) hx hb dL_areSumsRight_288 (by decide) ?_
              refine k_iV (As := [.int 4]) (rest := [.int (S 204), .int (S 204 + S 210 + S 211)]) (Rs := [[(q10, .inl (ty 0, 4, .inl (mA S n)))]]) (Bs' := [ppB o (a 0) (b 0) (sn 0) (h 0) r (t 0) sb hs lf, stB a S, lnB ty a S, quB ty a S, weB a S, miB ty a M, hiB ty h ha sz nx, txB ty t ln cn ch le nu, [(q10, .inl (ty 0, 4, .inl (mA S n)))]]) ⟨hx, hb, hml, hown, hts⟩ w (c_ac4 l D ty o a b sn h t r sb hs lf S M n q hA ha sz nx ln cn ch le nu hM0) (cwV 1 hts gL_areSumsRight_X8_account rfl rfl rfl ⟨rfl, hdN_X8_account⟩ ⟨Nat.le_of_ble_eq_true rfl, Nat.le_of_ble_eq_true rfl⟩) [0, 1, 2, 3, 4, 5, 6, 7, 8] (nB := 9) (by decide) rfl rfl rfl rfl 0 rfl rfl (ci := 12) rfl rfl rfl hl.1 rfl (Nat.le_of_ble_eq_true rfl) dL_areSumsRight_289 ⟨(Nat.le_of_ble_eq_true rfl), (Nat.le_of_ble_eq_true rfl)⟩ (fun H locs w => ?_)
              refine lv_iadd hx hb dL_areSumsRight_292 ?_
              refine lv_aload_n hx hb dL_areSumsRight_293 rfl (lv_at hl 0 rfl) ?_
              refine lv_iconst (v := 5) hx hb dL_areSumsRight_294 (by decide) ?_
              refine k_iV (As := [.int 5]) (rest := [.int ((S 204) + (S 210)), .int (S 204 + S 210 + S 211)]) (Rs := [[(q10, .inl (ty 0, 4, .inl (mA S n)))]]) (Bs' := [ppB o (a 0) (b 0) (sn 0) (h 0) r (t 0) sb hs lf, stB a S, lnB ty a S, quB ty a S, weB a S, miB ty a M, hiB ty h ha sz nx, txB ty t ln cn ch le nu, [(q10, .inl (ty 0, 4, .inl (mA S n)))]]) ⟨hx, hb, hml, hown, hts⟩ w (c_ac5 l D ty o a b sn h t r sb hs lf S M n q hA ha sz nx ln cn ch le nu hM0) (cwV 1 hts gL_areSumsRight_X8_account rfl rfl rfl ⟨rfl, hdN_X8_account⟩ ⟨Nat.le_of_ble_eq_true rfl, Nat.le_of_ble_eq_true rfl⟩) [0, 1, 2, 3, 4, 5, 6, 7, 8] (nB := 9) (by decide) rfl rfl rfl rfl 0 rfl rfl (ci := 12) rfl rfl rfl hl.1 rfl (Nat.le_of_ble_eq_true rfl) dL_areSumsRight_295 ⟨(Nat.le_of_ble_eq_true rfl), (Nat.le_of_ble_eq_true rfl)⟩ (fun H locs w => ?_)
              refine lv_iadd hx hb dL_areSumsRight_298 ?_
              refine lv_icmp_ne (tgt := 306) hx hb dL_areSumsRight_299 (by decide) (fun c299 => ?_) (fun c299 => ?_)
              · exact absurd rfl c299
              · refine lv_iconst (v := 1) hx hb dL_areSumsRight_302 (by decide) ?_
                refine lv_goto (tgt := 307) hx hb dL_areSumsRight_303 (by decide) ?_
                refine lv_istore (lv' := [(6, .int 1), (0, .ref o), (1, .int (rs (fQ S (fun _ => 1) q) n)), (2, .int (rs (fun i => S (1 + 6 * i + 5)) n)), (3, .int (rs (fun w => rs (fun l => S (58 + 8 * w + l)) n) n)), (4, .int (rs (fQ S (pLeft S) q) n)), (5, .ref q10)]) hx hb dL_areSumsRight_307 hl (by decide) rfl (fun ls hl => ?_)
                refine lv_iconst (v := 0) hx hb dL_areSumsRight_309 (by decide) ?_
                refine lv_istore (lv' := [(7, .int 0), (6, .int 1), (0, .ref o), (1, .int (rs (fQ S (fun _ => 1) q) n)), (2, .int (rs (fun i => S (1 + 6 * i + 5)) n)), (3, .int (rs (fun w => rs (fun l => S (58 + 8 * w + l)) n) n)), (4, .int (rs (fQ S (pLeft S) q) n)), (5, .ref q10)]) hx hb dL_areSumsRight_310 hl (by decide) rfl (fun ls hl => ?_)
                refine k_loop (fun k3 H locs ls => kW D (kTY ty) A s.heap s H locs [ppB o (a 0) (b 0) (sn 0) (h 0) r (t 0) sb hs lf, stB a S, lnB ty a S, quB ty a S, weB a S, miB ty a M, hiB ty h ha sz nx, txB ty t ln cn ch le nu, [(q10, .inl (ty 0, 4, .inl (mA S n)))]] ∧ lv_has ls 9 [(0, .ref o), (5, .ref q10), (6, .int 1), (7, .int (nI k3))]) 4 0 (by omega) ⟨w, lv_sub hl [2, 7, 1, 0] rfl⟩ ?_
                intro k3 hk30 hk3 ihk3 H locs ls hI
                obtain ⟨w, hl⟩ := hI
                refine lv_iload hx hb dL_areSumsRight_312 (lv_at hl 3 rfl) ?_
                refine lv_iconst (v := 4) hx hb dL_areSumsRight_314 (by decide) ?_
                refine lv_icmp_ge (tgt := 350) hx hb dL_areSumsRight_315 (by decide) (fun c315 => ?_) (fun c315 => ?_)
                · have c315 := (nI_leI (a := 4) (b := k3) (by omega) (by omega)).mp c315
                  obtain rfl : 4 = k3 := by omega
                  refine lv_iload hx hb dL_areSumsRight_350 (lv_at hl 2 rfl) ?_
                  refine lv_if_eq (tgt := 409) hx hb dL_areSumsRight_352 (by decide) (fun c352 => ?_) (fun c352 => ?_)
                  · exact absurd c352 (by decide)
                  · refine lv_aload_n hx hb dL_areSumsRight_355 rfl (lv_at hl 0 rfl) ?_
                    refine lv_iconst (v := 3) hx hb dL_areSumsRight_356 (by decide) ?_
                    refine k_iV (As := [.int 3]) (rest := []) (Rs := [[(q10, .inl (ty 0, 4, .inl (mA S n)))]]) (Bs' := [ppB o (a 0) (b 0) (sn 0) (h 0) r (t 0) sb hs lf, stB a S, lnB ty a S, quB ty a S, weB a S, miB ty a M, hiB ty h ha sz nx, txB ty t ln cn ch le nu, [(q10, .inl (ty 0, 4, .inl (mA S n)))]]) ⟨hx, hb, hml, hown, hts⟩ w (c_ac3 l D ty o a b sn h t r sb hs lf S M n q hA ha sz nx ln cn ch le nu hM0) (cwV 1 hts gL_areSumsRight_X8_account rfl rfl rfl ⟨rfl, hdN_X8_account⟩ ⟨Nat.le_of_ble_eq_true rfl, Nat.le_of_ble_eq_true rfl⟩) [0, 1, 2, 3, 4, 5, 6, 7, 8] (nB := 9) (by decide) rfl rfl rfl rfl 0 rfl rfl (ci := 12) rfl rfl rfl hl.1 rfl (Nat.le_of_ble_eq_true rfl) dL_areSumsRight_357 ⟨(Nat.le_of_ble_eq_true rfl), (Nat.le_of_ble_eq_true rfl)⟩ (fun H locs w => ?_)
                    refine r_eq (y := (nI v4)) hv4 ?_
                    refine lv_if_lt (tgt := 409) hx hb dL_areSumsRight_360 (by decide) (fun c360 => ?_) (fun c360 => ?_)
                    · exact absurd c360 (nI_nn (by omega))
                    · refine lv_aload_n hx hb dL_areSumsRight_363 rfl (lv_at hl 0 rfl) ?_
                      refine lv_iconst (v := 3) hx hb dL_areSumsRight_364 (by decide) ?_
                      refine k_iV (As := [.int 3]) (rest := []) (Rs := [[(q10, .inl (ty 0, 4, .inl (mA S n)))]]) (Bs' := [ppB o (a 0) (b 0) (sn 0) (h 0) r (t 0) sb hs lf, stB a S, lnB ty a S, quB ty a S, weB a S, miB ty a M, hiB ty h ha sz nx, txB ty t ln cn ch le nu, [(q10, .inl (ty 0, 4, .inl (mA S n)))]]) ⟨hx, hb, hml, hown, hts⟩ w (c_ac3 l D ty o a b sn h t r sb hs lf S M n q hA ha sz nx ln cn ch le nu hM0) (cwV 1 hts gL_areSumsRight_X8_account rfl rfl rfl ⟨rfl, hdN_X8_account⟩ ⟨Nat.le_of_ble_eq_true rfl, Nat.le_of_ble_eq_true rfl⟩) [0, 1, 2, 3, 4, 5, 6, 7, 8] (nB := 9) (by decide) rfl rfl rfl rfl 0 rfl rfl (ci := 12) rfl rfl rfl hl.1 rfl (Nat.le_of_ble_eq_true rfl) dL_areSumsRight_365 ⟨(Nat.le_of_ble_eq_true rfl), (Nat.le_of_ble_eq_true rfl)⟩ (fun H locs w => ?_)
                      refine r_eq (y := (nI v4)) hv4 ?_
                      refine lv_sipush (v := 999) hx hb dL_areSumsRight_368 (by decide) ?_
                      refine lv_icmp_gt (tgt := 409) hx hb dL_areSumsRight_371 (by decide) (fun c371 => ?_) (fun c371 => ?_)
                      · have c371 := (nI_ltI (a := 999) (b := v4) (by omega) (by omega)).mp c371
                        exact absurd c371 (by omega)
                      · have c371 := mt (nI_ltI (a := 999) (b := v4) (by omega) (by omega)).mpr c371
                        refine lv_aload_n hx hb dL_areSumsRight_374 rfl (lv_at hl 0 rfl) ?_
                        refine lv_bipush (v := 8) hx hb dL_areSumsRight_375 (by decide) ?_
                        refine k_iV (As := [.int 8]) (rest := []) (Rs := [[(q10, .inl (ty 0, 4, .inl (mA S n)))]]) (Bs' := [ppB o (a 0) (b 0) (sn 0) (h 0) r (t 0) sb hs lf, stB a S, lnB ty a S, quB ty a S, weB a S, miB ty a M, hiB ty h ha sz nx, txB ty t ln cn ch le nu, [(q10, .inl (ty 0, 4, .inl (mA S n)))]]) ⟨hx, hb, hml, hown, hts⟩ w (c_ac8 l D ty o a b sn h t r sb hs lf S M n q hA ha sz nx ln cn ch le nu hM0) (cwV 1 hts gL_areSumsRight_X8_account rfl rfl rfl ⟨rfl, hdN_X8_account⟩ ⟨Nat.le_of_ble_eq_true rfl, Nat.le_of_ble_eq_true rfl⟩) [0, 1, 2, 3, 4, 5, 6, 7, 8] (nB := 9) (by decide) rfl rfl rfl rfl 0 rfl rfl (ci := 12) rfl rfl rfl hl.1 rfl (Nat.le_of_ble_eq_true rfl) dL_areSumsRight_377 ⟨(Nat.le_of_ble_eq_true rfl), (Nat.le_of_ble_eq_true rfl)⟩ (fun H locs w => ?_)
                        refine r_eq (y := (nI x5)) hx5 ?_
                        refine lv_if_lt (tgt := 409) hx hb dL_areSumsRight_380 (by decide) (fun c380 => ?_) (fun c380 => ?_)
                        · exact absurd c380 (nI_nn (by omega))
                        · refine lv_aload_n hx hb dL_areSumsRight_383 rfl (lv_at hl 0 rfl) ?_
                          refine lv_bipush (v := 8) hx hb dL_areSumsRight_384 (by decide) ?_
                          refine k_iV (As := [.int 8]) (rest := []) (Rs := [[(q10, .inl (ty 0, 4, .inl (mA S n)))]]) (Bs' := [ppB o (a 0) (b 0) (sn 0) (h 0) r (t 0) sb hs lf, stB a S, lnB ty a S, quB ty a S, weB a S, miB ty a M, hiB ty h ha sz nx, txB ty t ln cn ch le nu, [(q10, .inl (ty 0, 4, .inl (mA S n)))]]) ⟨hx, hb, hml, hown, hts⟩ w (c_ac8 l D ty o a b sn h t r sb hs lf S M n q hA ha sz nx ln cn ch le nu hM0) (cwV 1 hts gL_areSumsRight_X8_account rfl rfl rfl ⟨rfl, hdN_X8_account⟩ ⟨Nat.le_of_ble_eq_true rfl, Nat.le_of_ble_eq_true rfl⟩) [0, 1, 2, 3, 4, 5, 6, 7, 8] (nB := 9) (by decide) rfl rfl rfl rfl 0 rfl rfl (ci := 12) rfl rfl rfl hl.1 rfl (Nat.le_of_ble_eq_true rfl) dL_areSumsRight_386 ⟨(Nat.le_of_ble_eq_true rfl), (Nat.le_of_ble_eq_true rfl)⟩ (fun H locs w => ?_)
                          refine r_eq (y := (nI x5)) hx5 ?_
                          refine lv_bipush (v := 50) hx hb dL_areSumsRight_389 (by decide) ?_
                          refine lv_icmp_gt (tgt := 409) hx hb dL_areSumsRight_391 (by decide) (fun c391 => ?_) (fun c391 => ?_)
                          · have c391 := (nI_ltI (a := 50) (b := x5) (by omega) (by omega)).mp c391
                            exact absurd c391 (by omega)
                          · have c391 := mt (nI_ltI (a := 50) (b := x5) (by omega) (by omega)).mpr c391
                            refine lv_aload_n hx hb dL_areSumsRight_394 rfl (lv_at hl 0 rfl) ?_
                            refine lv_bipush (v := 13) hx hb dL_areSumsRight_395 (by decide) ?_
                            refine k_iV (As := [.int 13]) (rest := []) (Rs := [[(q10, .inl (ty 0, 4, .inl (mA S n)))]]) (Bs' := [ppB o (a 0) (b 0) (sn 0) (h 0) r (t 0) sb hs lf, stB a S, lnB ty a S, quB ty a S, weB a S, miB ty a M, hiB ty h ha sz nx, txB ty t ln cn ch le nu, [(q10, .inl (ty 0, 4, .inl (mA S n)))]]) ⟨hx, hb, hml, hown, hts⟩ w (c_ac13 l D ty o a b sn h t r sb hs lf S M n q hA ha sz nx ln cn ch le nu hM0) (cwV 1 hts gL_areSumsRight_X8_account rfl rfl rfl ⟨rfl, hdN_X8_account⟩ ⟨Nat.le_of_ble_eq_true rfl, Nat.le_of_ble_eq_true rfl⟩) [0, 1, 2, 3, 4, 5, 6, 7, 8] (nB := 9) (by decide) rfl rfl rfl rfl 0 rfl rfl (ci := 12) rfl rfl rfl hl.1 rfl (Nat.le_of_ble_eq_true rfl) dL_areSumsRight_397 ⟨(Nat.le_of_ble_eq_true rfl), (Nat.le_of_ble_eq_true rfl)⟩ (fun H locs w => ?_)
                            refine r_eq (y := (nI (cN (S 122)))) hN1 ?_
                            refine lv_bipush (v := 20) hx hb dL_areSumsRight_400 (by decide) ?_
                            refine lv_icmp_gt (tgt := 409) hx hb dL_areSumsRight_402 (by decide) (fun c402 => ?_) (fun c402 => ?_)
                            · have c402 := (nI_ltI (a := 20) (b := (cN (S 122))) (by omega) (by omega)).mp c402
                              exact absurd c402 (by omega)
                            · have c402 := mt (nI_ltI (a := 20) (b := (cN (S 122))) (by omega) (by omega)).mpr c402
                              refine lv_iconst (v := 1) hx hb dL_areSumsRight_405 (by decide) ?_
                              refine lv_goto (tgt := 410) hx hb dL_areSumsRight_406 (by decide) ?_
                              have w := kW.pop (Bs := [ppB o (a 0) (b 0) (sn 0) (h 0) r (t 0) sb hs lf, stB a S, lnB ty a S, quB ty a S, weB a S, miB ty a M, hiB ty h ha sz nx, txB ty t ln cn ch le nu]) w
                              exact e_z (ty := .boolean) hx hb hr rfl hlocks w rfl dL_areSumsRight_410 (Nat.le_of_ble_eq_true rfl) (Nat.le_of_ble_eq_true rfl)
                · have c315 := mt (nI_leI (a := 4) (b := k3) (by omega) (by omega)).mpr c315
                  refine lv_iload hx hb dL_areSumsRight_318 (lv_at hl 2 rfl) ?_
                  refine lv_if_eq (tgt := 341) hx hb dL_areSumsRight_320 (by decide) (fun c320 => ?_) (fun c320 => ?_)
                  · exact absurd c320 (by decide)
                  · refine lv_aload_n hx hb dL_areSumsRight_323 rfl (lv_at hl 0 rfl) ?_
                    refine lv_iload hx hb dL_areSumsRight_324 (lv_at hl 3 rfl) ?_
                    refine k_iV (As := [.int (nI k3)]) (rest := []) (Rs := [hiB ty h ha sz nx, txB ty t ln cn ch le nu, [(q10, .inl (ty 0, 4, .inl (mA S n)))]]) (Bs' := [ppB o (a 0) (b 0) (sn 0) (h 0) r (t 0) sb hs lf, stB a S, lnB ty a S, quB ty a S, weB a S, miB ty a M, hiB ty h ha sz nx, txB ty t ln cn ch le nu, [(q10, .inl (ty 0, 4, .inl (mA S n)))]]) ⟨hx, hb, hml, hown, hts⟩ w (c_X8_membersFor l D ty o a b sn h t r sb hs lf S M n q hA k3 (by omega)) (cwV 1 hts gL_areSumsRight_X8_membersFor rfl rfl rfl ⟨rfl, hdN_X8_membersFor⟩ ⟨Nat.le_of_ble_eq_true rfl, Nat.le_of_ble_eq_true rfl⟩) [0, 1, 2, 3, 4, 5, 6, 7, 8] (nB := 9) (by decide) rfl rfl rfl rfl 0 rfl rfl (ci := 12) rfl rfl rfl hl.1 rfl (Nat.le_of_ble_eq_true rfl) dL_areSumsRight_326 ⟨(Nat.le_of_ble_eq_true rfl), (Nat.le_of_ble_eq_true rfl)⟩ (fun H locs w => ?_)
                    refine lv_aload hx hb dL_areSumsRight_329 (lv_at hl 1 rfl) ?_
                    refine lv_iload hx hb dL_areSumsRight_331 (lv_at hl 3 rfl) ?_
                    refine r_iald (v := ((mA S n) k3)) hx hb w 8 0 rfl rfl 0 rfl k3 (by omega) (Nat.le_of_ble_eq_true rfl) rfl rfl dL_areSumsRight_333 ?_
                    refine lv_icmp_ne (tgt := 341) hx hb dL_areSumsRight_334 (by decide) (fun c334 => ?_) (fun c334 => ?_)
                    · exact absurd (mA_at (by omega)).symm c334
                    · refine lv_iconst (v := 1) hx hb dL_areSumsRight_337 (by decide) ?_
                      refine lv_goto (tgt := 342) hx hb dL_areSumsRight_338 (by decide) ?_
                      refine lv_istore (lv' := [(6, .int 1), (0, .ref o), (5, .ref q10), (7, .int (nI k3))]) hx hb dL_areSumsRight_342 hl (by decide) rfl (fun ls hl => ?_)
                      refine lv_iinc (v := (nI (k3 + 1))) (lv' := [(7, .int (nI (k3 + 1))), (6, .int 1), (0, .ref o), (5, .ref q10)]) hx hb dL_areSumsRight_344 hl (k := 3) rfl (inc1 k3) (by decide) rfl (fun ls hl => ?_)
                      refine lv_goto (tgt := 312) hx hb dL_areSumsRight_347 (by decide) ?_
                      exact ihk3 _ _ _ ⟨w, lv_sub hl [2, 3, 1, 0] rfl⟩ (by omega)
  · have c24 := mt (nI_leI (a := n) (b := k) (by omega) (by omega)).mpr c24
    refine lv_aload_n hx hb dL_areSumsRight_27 rfl (lv_at hl 0 rfl) ?_
    refine lv_iload hx hb dL_areSumsRight_28 (lv_at hl 6 rfl) ?_
    refine k_iS (As := [.ref o, .int (nI k)]) (rest := []) (Rs := [[(q10, .inl (ty 0, 4, .inl (mA S k)))]]) (Bs' := [ppB o (a 0) (b 0) (sn 0) (h 0) r (t 0) sb hs lf, stB a S, lnB ty a S, quB ty a S, weB a S, miB ty a M, hiB ty h ha sz nx, txB ty t ln cn ch le nu, [(q10, .inl (ty 0, 4, .inl (mA S k)))]]) ⟨hx, hb, hml, hown, hts⟩ w (c_L_isHouseholdRight l D ty o a b sn h t r sb hs lf S M n q hA ha sz nx ln cn ch le nu hM0 k (by omega)) (va_cwS 2 hts gL_areSumsRight_L_isHouseholdRight rfl rfl rfl hdN_L_isHouseholdRight ⟨Nat.le_of_ble_eq_true rfl, Nat.le_of_ble_eq_true rfl⟩) [0, 1, 2, 3, 4, 5, 6, 7, 8] (nB := 9) (by decide) rfl rfl rfl rfl rfl hl.1 rfl (Nat.le_of_ble_eq_true rfl) dL_areSumsRight_30 ⟨(Nat.le_of_ble_eq_true rfl), (Nat.le_of_ble_eq_true rfl)⟩ (fun H locs w => ?_)
    refine lv_if_ne (tgt := 38) hx hb dL_areSumsRight_33 (by decide) (fun c33 => ?_) (fun c33 => ?_)
    · refine lv_iload_n hx hb dL_areSumsRight_38 rfl (lv_at hl 1 rfl) ?_
      refine k_cut (fun H locs ls => kW D (kTY ty) A s.heap s H locs [ppB o (a 0) (b 0) (sn 0) (h 0) r (t 0) sb hs lf, stB a S, lnB ty a S, quB ty a S, weB a S, miB ty a M, hiB ty h ha sz nx, txB ty t ln cn ch le nu, [(q10, .inl (ty 0, 4, .inl (mA S k)))]] ∧ lv_has ls 9 [(0, .ref o), (1, .int (rs (fQ S (fun _ => 1) q) k)), (2, .int (rs (fun i => S (1 + 6 * i + 5)) k)), (3, .int (rs (fun w => rs (fun l => S (58 + 8 * w + l)) n) k)), (4, .int (rs (fQ S (pLeft S) q) k)), (5, .ref q10), (6, .int (nI k))]) (pc' := 55) (st' := [.int (if 0 ≤ pPl S (nI k) q then (1 : Int32) else 0), .int (rs (fQ S (fun _ => 1) q) k)]) ?_ ?_
      · intro H locs ls hI
        obtain ⟨w, hl⟩ := hI
        refine lv_iadd hx hb dL_areSumsRight_55 ?_
        refine r_eq (y := (rs (fQ S (fun _ => 1) q) (k + 1))) rfl ?_
        refine lv_istore_n (lv' := [(1, .int (rs (fQ S (fun _ => 1) q) (k + 1))), (0, .ref o), (2, .int (rs (fun i => S (1 + 6 * i + 5)) k)), (3, .int (rs (fun w => rs (fun l => S (58 + 8 * w + l)) n) k)), (4, .int (rs (fQ S (pLeft S) q) k)), (5, .ref q10), (6, .int (nI k))]) hx hb dL_areSumsRight_56 rfl hl (by decide) rfl (fun ls hl => ?_)
        refine lv_iload hx hb dL_areSumsRight_57 (lv_at hl 4 rfl) ?_
        refine k_cut (fun H locs ls => kW D (kTY ty) A s.heap s H locs [ppB o (a 0) (b 0) (sn 0) (h 0) r (t 0) sb hs lf, stB a S, lnB ty a S, quB ty a S, weB a S, miB ty a M, hiB ty h ha sz nx, txB ty t ln cn ch le nu, [(q10, .inl (ty 0, 4, .inl (mA S k)))]] ∧ lv_has ls 9 [(1, .int (rs (fQ S (fun _ => 1) q) (k + 1))), (0, .ref o), (2, .int (rs (fun i => S (1 + 6 * i + 5)) k)), (3, .int (rs (fun w => rs (fun l => S (58 + 8 * w + l)) n) k)), (4, .int (rs (fQ S (pLeft S) q) k)), (5, .ref q10), (6, .int (nI k))]) (pc' := 81) (st' := [.int (if 0 ≤ pPl S (nI k) q then pLeft S k else 0), .int (rs (fQ S (pLeft S) q) k)]) ?_ ?_
        · intro H locs ls hI
          obtain ⟨w, hl⟩ := hI
          refine lv_iadd hx hb dL_areSumsRight_81 ?_
          refine r_eq (y := (rs (fQ S (pLeft S) q) (k + 1))) rfl ?_
          refine lv_istore (lv' := [(4, .int (rs (fQ S (pLeft S) q) (k + 1))), (1, .int (rs (fQ S (fun _ => 1) q) (k + 1))), (0, .ref o), (2, .int (rs (fun i => S (1 + 6 * i + 5)) k)), (3, .int (rs (fun w => rs (fun l => S (58 + 8 * w + l)) n) k)), (5, .ref q10), (6, .int (nI k))]) hx hb dL_areSumsRight_82 hl (by decide) rfl (fun ls hl => ?_)
          refine lv_iload_n hx hb dL_areSumsRight_84 rfl (lv_at hl 3 rfl) ?_
          refine lv_aload_n hx hb dL_areSumsRight_85 rfl (lv_at hl 2 rfl) ?_
          refine lv_iload hx hb dL_areSumsRight_86 (lv_at hl 6 rfl) ?_
          refine lv_bipush (v := 7) hx hb dL_areSumsRight_88 (by decide) ?_
          refine k_iV (As := [.int (nI k), .int 7]) (rest := [.int (rs (fun i => S (1 + 6 * i + 5)) k)]) (Rs := [hiB ty h ha sz nx, txB ty t ln cn ch le nu, [(q10, .inl (ty 0, 4, .inl (mA S k)))]]) (Bs' := [ppB o (a 0) (b 0) (sn 0) (h 0) r (t 0) sb hs lf, stB a S, lnB ty a S, quB ty a S, weB a S, miB ty a M, hiB ty h ha sz nx, txB ty t ln cn ch le nu, [(q10, .inl (ty 0, 4, .inl (mA S k)))]]) ⟨hx, hb, hml, hown, hts⟩ w (c_ho7 l D ty o a b sn h t r sb hs lf S M n q hA k (by omega)) (cwV 2 hts gL_areSumsRight_X8_householdOf rfl rfl rfl ⟨rfl, hdN_X8_householdOf⟩ ⟨Nat.le_of_ble_eq_true rfl, Nat.le_of_ble_eq_true rfl⟩) [0, 1, 2, 3, 4, 5, 6, 7, 8] (nB := 9) (by decide) rfl rfl rfl rfl 0 rfl rfl (ci := 12) rfl rfl rfl hl.1 rfl (Nat.le_of_ble_eq_true rfl) dL_areSumsRight_90 ⟨(Nat.le_of_ble_eq_true rfl), (Nat.le_of_ble_eq_true rfl)⟩ (fun H locs w => ?_)
          refine lv_iadd hx hb dL_areSumsRight_93 ?_
          refine r_eq (y := (rs (fun i => S (1 + 6 * i + 5)) (k + 1))) rfl ?_
          refine lv_istore_n (lv' := [(2, .int (rs (fun i => S (1 + 6 * i + 5)) (k + 1))), (4, .int (rs (fQ S (pLeft S) q) (k + 1))), (1, .int (rs (fQ S (fun _ => 1) q) (k + 1))), (0, .ref o), (3, .int (rs (fun w => rs (fun l => S (58 + 8 * w + l)) n) k)), (5, .ref q10), (6, .int (nI k))]) hx hb dL_areSumsRight_94 rfl hl (by decide) rfl (fun ls hl => ?_)
          refine lv_aload hx hb dL_areSumsRight_95 (lv_at hl 5 rfl) ?_
          refine lv_aload_n hx hb dL_areSumsRight_97 rfl (lv_at hl 3 rfl) ?_
          refine lv_iload hx hb dL_areSumsRight_98 (lv_at hl 6 rfl) ?_
          refine k_iV (As := [.int (nI k)]) (rest := [.ref q10]) (Rs := [hiB ty h ha sz nx, txB ty t ln cn ch le nu, [(q10, .inl (ty 0, 4, .inl (mA S k)))]]) (Bs' := [ppB o (a 0) (b 0) (sn 0) (h 0) r (t 0) sb hs lf, stB a S, lnB ty a S, quB ty a S, weB a S, miB ty a M, hiB ty h ha sz nx, txB ty t ln cn ch le nu, [(q10, .inl (ty 0, 4, .inl (mA S k)))]]) ⟨hx, hb, hml, hown, hts⟩ w (c_X8_isFor l D ty o a b sn h t r sb hs lf S M n q hA k (by omega)) (cwV 1 hts gL_areSumsRight_X8_isFor rfl rfl rfl ⟨rfl, hdN_X8_isFor⟩ ⟨Nat.le_of_ble_eq_true rfl, Nat.le_of_ble_eq_true rfl⟩) [0, 1, 2, 3, 4, 5, 6, 7, 8] (nB := 9) (by decide) rfl rfl rfl rfl 0 rfl rfl (ci := 12) rfl rfl rfl hl.1 rfl (Nat.le_of_ble_eq_true rfl) dL_areSumsRight_100 ⟨(Nat.le_of_ble_eq_true rfl), (Nat.le_of_ble_eq_true rfl)⟩ (fun H locs w => ?_)
          have hpw := pWant_le S k 3
          refine lv_dup2_11 hx hb dL_areSumsRight_103 rfl rfl ?_
          refine r_iald (v := ((mA S k) (pWant S k 3))) hx hb w 8 0 rfl rfl 0 rfl (pWant S k 3) (by omega) (Nat.le_of_ble_eq_true rfl) rfl rfl dL_areSumsRight_104 ?_
          refine lv_aload_n hx hb dL_areSumsRight_105 rfl (lv_at hl 3 rfl) ?_
          refine lv_iload hx hb dL_areSumsRight_106 (lv_at hl 6 rfl) ?_
          refine lv_iconst (v := 0) hx hb dL_areSumsRight_108 (by decide) ?_
          refine k_iV (As := [.int (nI k), .int 0]) (rest := [.int ((mA S k) (pWant S k 3)), .int (nI (pWant S k 3)), .ref q10]) (Rs := [hiB ty h ha sz nx, txB ty t ln cn ch le nu, [(q10, .inl (ty 0, 4, .inl (mA S k)))]]) (Bs' := [ppB o (a 0) (b 0) (sn 0) (h 0) r (t 0) sb hs lf, stB a S, lnB ty a S, quB ty a S, weB a S, miB ty a M, hiB ty h ha sz nx, txB ty t ln cn ch le nu, [(q10, .inl (ty 0, 4, .inl (mA S k)))]]) ⟨hx, hb, hml, hown, hts⟩ w (c_ho0 l D ty o a b sn h t r sb hs lf S M n q hA k (by omega)) (cwV 2 hts gL_areSumsRight_X8_householdOf rfl rfl rfl ⟨rfl, hdN_X8_householdOf⟩ ⟨Nat.le_of_ble_eq_true rfl, Nat.le_of_ble_eq_true rfl⟩) [0, 1, 2, 3, 4, 5, 6, 7, 8] (nB := 9) (by decide) rfl rfl rfl rfl 0 rfl rfl (ci := 12) rfl rfl rfl hl.1 rfl (Nat.le_of_ble_eq_true rfl) dL_areSumsRight_109 ⟨(Nat.le_of_ble_eq_true rfl), (Nat.le_of_ble_eq_true rfl)⟩ (fun H locs w => ?_)
          refine lv_iadd hx hb dL_areSumsRight_112 ?_
          refine r_iast hx hb w 8 0 rfl rfl 0 rfl (pWant S k 3) (by omega) (Nat.le_of_ble_eq_true rfl) rfl [(q10, .inl (ty 0, 4, .inl (mA S (k + 1))))] (by rw [← mA_s (S := S) (k := k) rfl]; rfl) [ppB o (a 0) (b 0) (sn 0) (h 0) r (t 0) sb hs lf, stB a S, lnB ty a S, quB ty a S, weB a S, miB ty a M, hiB ty h ha sz nx, txB ty t ln cn ch le nu, [(q10, .inl (ty 0, 4, .inl (mA S (k + 1))))]] rfl dL_areSumsRight_113 (fun H locs w => ?_)
          refine lv_iconst (v := 0) hx hb dL_areSumsRight_114 (by decide) ?_
          refine lv_istore (lv' := [(7, .int 0), (2, .int (rs (fun i => S (1 + 6 * i + 5)) (k + 1))), (4, .int (rs (fQ S (pLeft S) q) (k + 1))), (1, .int (rs (fQ S (fun _ => 1) q) (k + 1))), (0, .ref o), (3, .int (rs (fun w => rs (fun l => S (58 + 8 * w + l)) n) k)), (5, .ref q10), (6, .int (nI k))]) hx hb dL_areSumsRight_115 hl (by decide) rfl (fun ls hl => ?_)
          rw [qr_0 S n k] at hl
          refine k_loop (fun j2 H locs ls => kW D (kTY ty) A s.heap s H locs [ppB o (a 0) (b 0) (sn 0) (h 0) r (t 0) sb hs lf, stB a S, lnB ty a S, quB ty a S, weB a S, miB ty a M, hiB ty h ha sz nx, txB ty t ln cn ch le nu, [(q10, .inl (ty 0, 4, .inl (mA S (k + 1))))]] ∧ lv_has ls 9 [(0, .ref o), (1, .int (rs (fQ S (fun _ => 1) q) (k + 1))), (2, .int (rs (fun i => S (1 + 6 * i + 5)) (k + 1))), (3, .int (rs (fun w => rs (fun l => S (58 + 8 * w + l)) n) k + rs (fun l => S (58 + 8 * k + l)) j2)), (4, .int (rs (fQ S (pLeft S) q) (k + 1))), (5, .ref q10), (6, .int (nI k)), (7, .int (nI j2))]) n 0 (by omega) ⟨w, lv_sub hl [4, 3, 1, 5, 2, 6, 7, 0] rfl⟩ ?_
          intro j2 hj20 hj2 ihj2 H locs ls hI
          obtain ⟨w, hl⟩ := hI
          refine lv_iload hx hb dL_areSumsRight_117 (lv_at hl 7 rfl) ?_
          refine lv_aload_n hx hb dL_areSumsRight_119 rfl (lv_at hl 0 rfl) ?_
          refine lv_iconst (v := 1) hx hb dL_areSumsRight_120 (by decide) ?_
          refine k_iV (As := [.int 1]) (rest := [.int (nI j2)]) (Rs := [[(q10, .inl (ty 0, 4, .inl (mA S (k + 1))))]]) (Bs' := [ppB o (a 0) (b 0) (sn 0) (h 0) r (t 0) sb hs lf, stB a S, lnB ty a S, quB ty a S, weB a S, miB ty a M, hiB ty h ha sz nx, txB ty t ln cn ch le nu, [(q10, .inl (ty 0, 4, .inl (mA S (k + 1))))]]) ⟨hx, hb, hml, hown, hts⟩ w (c_ac1 l D ty o a b sn h t r sb hs lf S M n q hA ha sz nx ln cn ch le nu hM0) (cwV 1 hts gL_areSumsRight_X8_account rfl rfl rfl ⟨rfl, hdN_X8_account⟩ ⟨Nat.le_of_ble_eq_true rfl, Nat.le_of_ble_eq_true rfl⟩) [0, 1, 2, 3, 4, 5, 6, 7, 8] (nB := 9) (by decide) rfl rfl rfl rfl 0 rfl rfl (ci := 12) rfl rfl rfl hl.1 rfl (Nat.le_of_ble_eq_true rfl) dL_areSumsRight_121 ⟨(Nat.le_of_ble_eq_true rfl), (Nat.le_of_ble_eq_true rfl)⟩ (fun H locs w => ?_)
          refine lv_icmp_ge (tgt := 224) hx hb dL_areSumsRight_124 (by decide) (fun c124 => ?_) (fun c124 => ?_)
          · have c124 := (nI_leI (a := n) (b := j2) (by omega) (by omega)).mp c124
            obtain rfl : n = j2 := by omega
            refine lv_iinc (v := (nI (k + 1))) (lv' := [(6, .int (nI (k + 1))), (0, .ref o), (1, .int (rs (fQ S (fun _ => 1) q) (k + 1))), (2, .int (rs (fun i => S (1 + 6 * i + 5)) (k + 1))), (3, .int (rs (fun w => rs (fun l => S (58 + 8 * w + l)) n) k + rs (fun l => S (58 + 8 * k + l)) n)), (4, .int (rs (fQ S (pLeft S) q) (k + 1))), (5, .ref q10), (7, .int (nI n))]) hx hb dL_areSumsRight_224 hl (k := 6) rfl (inc1 k) (by decide) rfl (fun ls hl => ?_)
            refine lv_goto (tgt := 17) hx hb dL_areSumsRight_227 (by decide) ?_
            exact ihk _ _ _ ⟨w, lv_sub hl [1, 2, 3, 4, 5, 6, 0] rfl⟩ (by omega)
          · have c124 := mt (nI_leI (a := n) (b := j2) (by omega) (by omega)).mpr c124
            refine lv_iload_n hx hb dL_areSumsRight_127 rfl (lv_at hl 3 rfl) ?_
            refine lv_aload_n hx hb dL_areSumsRight_128 rfl (lv_at hl 0 rfl) ?_
            refine lv_iload hx hb dL_areSumsRight_129 (lv_at hl 6 rfl) ?_
            refine lv_iload hx hb dL_areSumsRight_131 (lv_at hl 7 rfl) ?_
            refine k_iV (As := [.int (nI k), .int (nI j2)]) (rest := [.int (rs (fun w => rs (fun l => S (58 + 8 * w + l)) n) k + rs (fun l => S (58 + 8 * k + l)) j2)]) (Rs := [hiB ty h ha sz nx, txB ty t ln cn ch le nu, [(q10, .inl (ty 0, 4, .inl (mA S (k + 1))))]]) (Bs' := [ppB o (a 0) (b 0) (sn 0) (h 0) r (t 0) sb hs lf, stB a S, lnB ty a S, quB ty a S, weB a S, miB ty a M, hiB ty h ha sz nx, txB ty t ln cn ch le nu, [(q10, .inl (ty 0, 4, .inl (mA S (k + 1))))]]) ⟨hx, hb, hml, hown, hts⟩ w (c_X8_quarrels l D ty o a b sn h t r sb hs lf S M n q hA k j2 (by omega) (by omega)) (cwV 2 hts gL_areSumsRight_X8_quarrels rfl rfl rfl ⟨rfl, hdN_X8_quarrels⟩ ⟨Nat.le_of_ble_eq_true rfl, Nat.le_of_ble_eq_true rfl⟩) [0, 1, 2, 3, 4, 5, 6, 7, 8] (nB := 9) (by decide) rfl rfl rfl rfl 0 rfl rfl (ci := 12) rfl rfl rfl hl.1 rfl (Nat.le_of_ble_eq_true rfl) dL_areSumsRight_133 ⟨(Nat.le_of_ble_eq_true rfl), (Nat.le_of_ble_eq_true rfl)⟩ (fun H locs w => ?_)
            refine lv_iadd hx hb dL_areSumsRight_136 ?_
            refine r_eq (y := (rs (fun w => rs (fun l => S (58 + 8 * w + l)) n) k + rs (fun l => S (58 + 8 * k + l)) (j2 + 1))) (Int32.add_assoc _ _ _) ?_
            refine lv_istore_n (lv' := [(3, .int (rs (fun w => rs (fun l => S (58 + 8 * w + l)) n) k + rs (fun l => S (58 + 8 * k + l)) (j2 + 1))), (0, .ref o), (1, .int (rs (fQ S (fun _ => 1) q) (k + 1))), (2, .int (rs (fun i => S (1 + 6 * i + 5)) (k + 1))), (4, .int (rs (fQ S (pLeft S) q) (k + 1))), (5, .ref q10), (6, .int (nI k)), (7, .int (nI j2))]) hx hb dL_areSumsRight_137 rfl hl (by decide) rfl (fun ls hl => ?_)
            refine k_cut (fun H locs ls => kW D (kTY ty) A s.heap s H locs [ppB o (a 0) (b 0) (sn 0) (h 0) r (t 0) sb hs lf, stB a S, lnB ty a S, quB ty a S, weB a S, miB ty a M, hiB ty h ha sz nx, txB ty t ln cn ch le nu, [(q10, .inl (ty 0, 4, .inl (mA S (k + 1))))]] ∧ lv_has ls 9 [(3, .int (rs (fun w => rs (fun l => S (58 + 8 * w + l)) n) k + rs (fun l => S (58 + 8 * k + l)) (j2 + 1))), (0, .ref o), (1, .int (rs (fQ S (fun _ => 1) q) (k + 1))), (2, .int (rs (fun i => S (1 + 6 * i + 5)) (k + 1))), (4, .int (rs (fQ S (pLeft S) q) (k + 1))), (5, .ref q10), (6, .int (nI k)), (7, .int (nI j2))]) (pc' := 172) (st' := [.int (bI (pNear S k j2))]) ?_ ?_
            · intro H locs ls hI
              obtain ⟨w, hl⟩ := hI
              refine lv_istore (lv' := [(8, .int (bI (pNear S k j2))), (3, .int (rs (fun w => rs (fun l => S (58 + 8 * w + l)) n) k + rs (fun l => S (58 + 8 * k + l)) (j2 + 1))), (0, .ref o), (1, .int (rs (fQ S (fun _ => 1) q) (k + 1))), (2, .int (rs (fun i => S (1 + 6 * i + 5)) (k + 1))), (4, .int (rs (fQ S (pLeft S) q) (k + 1))), (5, .ref q10), (6, .int (nI k)), (7, .int (nI j2))]) hx hb dL_areSumsRight_172 hl (by decide) rfl (fun ls hl => ?_)
              refine lv_aload_n hx hb dL_areSumsRight_174 rfl (lv_at hl 2 rfl) ?_
              refine lv_iload hx hb dL_areSumsRight_175 (lv_at hl 7 rfl) ?_
              refine k_iV (As := [.int (nI k)]) (rest := []) (Rs := [hiB ty h ha sz nx, txB ty t ln cn ch le nu, [(q10, .inl (ty 0, 4, .inl (mA S (k + 1))))]]) (Bs' := [ppB o (a 0) (b 0) (sn 0) (h 0) r (t 0) sb hs lf, stB a S, lnB ty a S, quB ty a S, weB a S, miB ty a M, hiB ty h ha sz nx, txB ty t ln cn ch le nu, [(q10, .inl (ty 0, 4, .inl (mA S (k + 1))))]]) ⟨hx, hb, hml, hown, hts⟩ w (c_X8_neighbours l D ty o a b sn h t r sb hs lf S M n q hA k (by omega)) (cwV 1 hts gL_areSumsRight_X8_neighbours rfl rfl rfl ⟨rfl, hdN_X8_neighbours⟩ ⟨Nat.le_of_ble_eq_true rfl, Nat.le_of_ble_eq_true rfl⟩) [0, 1, 2, 3, 4, 5, 6, 7, 8] (nB := 9) (by decide) rfl rfl rfl rfl 0 rfl rfl (ci := 12) rfl rfl rfl hl.1 rfl (Nat.le_of_ble_eq_true rfl) dL_areSumsRight_177 ⟨(Nat.le_of_ble_eq_true rfl), (Nat.le_of_ble_eq_true rfl)⟩ (fun H locs w => ?_)
              refine lv_iload hx hb dL_areSumsRight_180 (lv_at hl 8 rfl) ?_
              refine lv_ishr hx hb dL_areSumsRight_182 ?_
              refine lv_iconst (v := 1) hx hb dL_areSumsRight_183 (by decide) ?_
              refine lv_iand hx hb dL_areSumsRight_184 ?_
              refine r_eq (y := (bI (pNear S k j2))) (nb_bit hn (by omega)) ?_
              refine k_cut (fun H locs ls => kW D (kTY ty) A s.heap s H locs [ppB o (a 0) (b 0) (sn 0) (h 0) r (t 0) sb hs lf, stB a S, lnB ty a S, quB ty a S, weB a S, miB ty a M, hiB ty h ha sz nx, txB ty t ln cn ch le nu, [(q10, .inl (ty 0, 4, .inl (mA S (k + 1))))]] ∧ lv_has ls 9 [(8, .int (bI (pNear S k j2))), (3, .int (rs (fun w => rs (fun l => S (58 + 8 * w + l)) n) k + rs (fun l => S (58 + 8 * k + l)) (j2 + 1))), (0, .ref o), (1, .int (rs (fQ S (fun _ => 1) q) (k + 1))), (2, .int (rs (fun i => S (1 + 6 * i + 5)) (k + 1))), (4, .int (rs (fQ S (pLeft S) q) (k + 1))), (5, .ref q10), (6, .int (nI k)), (7, .int (nI j2))]) (pc' := 195) (st' := [.int (bI (pNear S k j2)), .int (bI (pNear S k j2))]) ?_ ?_
              · intro H locs ls hI
                obtain ⟨w, hl⟩ := hI
                refine lv_icmp_ne (tgt := 216) hx hb dL_areSumsRight_195 (by decide) (fun c195 => ?_) (fun c195 => ?_)
                · exact absurd rfl c195
                · refine lv_iload hx hb dL_areSumsRight_198 (lv_at hl 8 rfl) ?_
                  refine lv_iload hx hb dL_areSumsRight_200 (lv_at hl 7 rfl) ?_
                  refine lv_icmp_ne (tgt := 218) hx hb dL_areSumsRight_202 (by decide) (fun c202 => ?_) (fun c202 => ?_)
                  · have c202 := mt (nI_eq (a := j2) (b := k) (by omega) (by omega)).mpr c202
                    refine lv_iinc (v := (nI (j2 + 1))) (lv' := [(7, .int (nI (j2 + 1))), (8, .int (bI (pNear S k j2))), (3, .int (rs (fun w => rs (fun l => S (58 + 8 * w + l)) n) k + rs (fun l => S (58 + 8 * k + l)) (j2 + 1))), (0, .ref o), (1, .int (rs (fQ S (fun _ => 1) q) (k + 1))), (2, .int (rs (fun i => S (1 + 6 * i + 5)) (k + 1))), (4, .int (rs (fQ S (pLeft S) q) (k + 1))), (5, .ref q10), (6, .int (nI k))]) hx hb dL_areSumsRight_218 hl (k := 8) rfl (inc1 j2) (by decide) rfl (fun ls hl => ?_)
                    refine lv_goto (tgt := 117) hx hb dL_areSumsRight_221 (by decide) ?_
                    exact ihj2 _ _ _ ⟨w, lv_sub hl [3, 4, 5, 2, 6, 7, 8, 0] rfl⟩ (by omega)
                  · have c202 := (nI_eq (a := j2) (b := k) (by omega) (by omega)).mp c202
                    refine lv_aload_n hx hb dL_areSumsRight_205 rfl (lv_at hl 2 rfl) ?_
                    refine lv_iload hx hb dL_areSumsRight_206 (lv_at hl 7 rfl) ?_
                    refine lv_iload hx hb dL_areSumsRight_208 (lv_at hl 8 rfl) ?_
                    refine k_iV (As := [.int (nI k), .int (nI j2)]) (rest := []) (Rs := [hiB ty h ha sz nx, txB ty t ln cn ch le nu, [(q10, .inl (ty 0, 4, .inl (mA S (k + 1))))]]) (Bs' := [ppB o (a 0) (b 0) (sn 0) (h 0) r (t 0) sb hs lf, stB a S, lnB ty a S, quB ty a S, weB a S, miB ty a M, hiB ty h ha sz nx, txB ty t ln cn ch le nu, [(q10, .inl (ty 0, 4, .inl (mA S (k + 1))))]]) ⟨hx, hb, hml, hown, hts⟩ w (c_X8_quarrels l D ty o a b sn h t r sb hs lf S M n q hA k j2 (by omega) (by omega)) (cwV 2 hts gL_areSumsRight_X8_quarrels rfl rfl rfl ⟨rfl, hdN_X8_quarrels⟩ ⟨Nat.le_of_ble_eq_true rfl, Nat.le_of_ble_eq_true rfl⟩) [0, 1, 2, 3, 4, 5, 6, 7, 8] (nB := 9) (by decide) rfl rfl rfl rfl 0 rfl rfl (ci := 12) rfl rfl rfl hl.1 rfl (Nat.le_of_ble_eq_true rfl) dL_areSumsRight_210 ⟨(Nat.le_of_ble_eq_true rfl), (Nat.le_of_ble_eq_true rfl)⟩ (fun H locs w => ?_)
                    refine lv_if_eq (tgt := 218) hx hb dL_areSumsRight_213 (by decide) (fun c213 => ?_) (fun c213 => ?_)
                    · refine lv_iinc (v := (nI (j2 + 1))) (lv' := [(7, .int (nI (j2 + 1))), (8, .int (bI (pNear S k j2))), (3, .int (rs (fun w => rs (fun l => S (58 + 8 * w + l)) n) k + rs (fun l => S (58 + 8 * k + l)) (j2 + 1))), (0, .ref o), (1, .int (rs (fQ S (fun _ => 1) q) (k + 1))), (2, .int (rs (fun i => S (1 + 6 * i + 5)) (k + 1))), (4, .int (rs (fQ S (pLeft S) q) (k + 1))), (5, .ref q10), (6, .int (nI k))]) hx hb dL_areSumsRight_218 hl (k := 8) rfl (inc1 j2) (by decide) rfl (fun ls hl => ?_)
                      refine lv_goto (tgt := 117) hx hb dL_areSumsRight_221 (by decide) ?_
                      exact ihj2 _ _ _ ⟨w, lv_sub hl [3, 4, 5, 2, 6, 7, 8, 0] rfl⟩ (by omega)
                    · exact absurd (by rw [c202]; exact diag_0 hQ (by omega)) c213
              · intro cont195
                refine lv_iload hx hb dL_areSumsRight_185 (lv_at hl 0 rfl) ?_
                refine lv_if_eq (tgt := 194) hx hb dL_areSumsRight_187 (by decide) (fun c187 => ?_) (fun c187 => ?_)
                · have c187 := bI_0.mp c187
                  refine lv_iconst (v := 0) hx hb dL_areSumsRight_194 (by decide) ?_
                  refine r_eq (y := (bI (pNear S k j2))) (by rw [c187]; rfl) ?_
                  exact cont195 _ _ _ ⟨w, hl⟩
                · have c187 := bI_1.mp c187
                  refine lv_iconst (v := 1) hx hb dL_areSumsRight_190 (by decide) ?_
                  refine lv_goto (tgt := 195) hx hb dL_areSumsRight_191 (by decide) ?_
                  refine r_eq (y := (bI (pNear S k j2))) (by rw [c187]; rfl) ?_
                  exact cont195 _ _ _ ⟨w, hl⟩
            · intro cont172
              refine lv_iload hx hb dL_areSumsRight_138 (lv_at hl 7 rfl) ?_
              refine lv_iload hx hb dL_areSumsRight_140 (lv_at hl 6 rfl) ?_
              refine lv_icmp_eq (tgt := 171) hx hb dL_areSumsRight_142 (by decide) (fun c142 => ?_) (fun c142 => ?_)
              · have c142 := (nI_eq (a := j2) (b := k) (by omega) (by omega)).mp c142
                refine lv_iconst (v := 0) hx hb dL_areSumsRight_171 (by decide) ?_
                refine r_eq (y := (bI (pNear S k j2))) (nr_eq c142) ?_
                exact cont172 _ _ _ ⟨w, hl⟩
              · have c142 := mt (nI_eq (a := j2) (b := k) (by omega) (by omega)).mpr c142
                refine lv_aload_n hx hb dL_areSumsRight_145 rfl (lv_at hl 1 rfl) ?_
                refine lv_iload hx hb dL_areSumsRight_146 (lv_at hl 6 rfl) ?_
                refine lv_iconst (v := 1) hx hb dL_areSumsRight_148 (by decide) ?_
                refine k_iV (As := [.int (nI k), .int 1]) (rest := []) (Rs := [hiB ty h ha sz nx, txB ty t ln cn ch le nu, [(q10, .inl (ty 0, 4, .inl (mA S (k + 1))))]]) (Bs' := [ppB o (a 0) (b 0) (sn 0) (h 0) r (t 0) sb hs lf, stB a S, lnB ty a S, quB ty a S, weB a S, miB ty a M, hiB ty h ha sz nx, txB ty t ln cn ch le nu, [(q10, .inl (ty 0, 4, .inl (mA S (k + 1))))]]) ⟨hx, hb, hml, hown, hts⟩ w (c_ho1 l D ty o a b sn h t r sb hs lf S M n q hA k (by omega)) (cwV 2 hts gL_areSumsRight_X8_householdOf rfl rfl rfl ⟨rfl, hdN_X8_householdOf⟩ ⟨Nat.le_of_ble_eq_true rfl, Nat.le_of_ble_eq_true rfl⟩) [0, 1, 2, 3, 4, 5, 6, 7, 8] (nB := 9) (by decide) rfl rfl rfl rfl 0 rfl rfl (ci := 12) rfl rfl rfl hl.1 rfl (Nat.le_of_ble_eq_true rfl) dL_areSumsRight_149 ⟨(Nat.le_of_ble_eq_true rfl), (Nat.le_of_ble_eq_true rfl)⟩ (fun H locs w => ?_)
                refine lv_aload_n hx hb dL_areSumsRight_152 rfl (lv_at hl 1 rfl) ?_
                refine lv_iload hx hb dL_areSumsRight_153 (lv_at hl 7 rfl) ?_
                refine lv_iconst (v := 1) hx hb dL_areSumsRight_155 (by decide) ?_
                refine k_iV (As := [.int (nI j2), .int 1]) (rest := [.int (S (1 + 6 * k + 1))]) (Rs := [hiB ty h ha sz nx, txB ty t ln cn ch le nu, [(q10, .inl (ty 0, 4, .inl (mA S (k + 1))))]]) (Bs' := [ppB o (a 0) (b 0) (sn 0) (h 0) r (t 0) sb hs lf, stB a S, lnB ty a S, quB ty a S, weB a S, miB ty a M, hiB ty h ha sz nx, txB ty t ln cn ch le nu, [(q10, .inl (ty 0, 4, .inl (mA S (k + 1))))]]) ⟨hx, hb, hml, hown, hts⟩ w (c_ho1 l D ty o a b sn h t r sb hs lf S M n q hA j2 (by omega)) (cwV 2 hts gL_areSumsRight_X8_householdOf rfl rfl rfl ⟨rfl, hdN_X8_householdOf⟩ ⟨Nat.le_of_ble_eq_true rfl, Nat.le_of_ble_eq_true rfl⟩) [0, 1, 2, 3, 4, 5, 6, 7, 8] (nB := 9) (by decide) rfl rfl rfl rfl 0 rfl rfl (ci := 12) rfl rfl rfl hl.1 rfl (Nat.le_of_ble_eq_true rfl) dL_areSumsRight_156 ⟨(Nat.le_of_ble_eq_true rfl), (Nat.le_of_ble_eq_true rfl)⟩ (fun H locs w => ?_)
                refine lv_isub hx hb dL_areSumsRight_159 ?_
                refine va_mabs hx hb (hml.trans hl.1.symm) hown (hts _ (List.mem_of_getElem? (i := 2) rfl)) (hts _ (List.mem_of_getElem? (i := 3) rfl)) (hts _ (List.mem_of_getElem? (i := 4) rfl)) (hts _ (List.mem_of_getElem? (i := 5) rfl)) (Nat.le_of_ble_eq_true rfl) (Nat.le_of_ble_eq_true rfl) (Nat.le_of_ble_eq_true rfl) (Nat.le_of_ble_eq_true rfl) dL_areSumsRight_160 ?_
                refine r_eq (y := (jabs ((S (1 + 6 * k + 1)) - (S (1 + 6 * j2 + 1))))) rfl ?_
                refine r_eq (y := (pFar S k j2)) rfl ?_
                refine lv_iconst (v := 2) hx hb dL_areSumsRight_163 (by decide) ?_
                refine lv_icmp_gt (tgt := 171) hx hb dL_areSumsRight_164 (by decide) (fun c164 => ?_) (fun c164 => ?_)
                · refine lv_iconst (v := 0) hx hb dL_areSumsRight_171 (by decide) ?_
                  refine r_eq (y := (bI (pNear S k j2))) (nr_far c164) ?_
                  exact cont172 _ _ _ ⟨w, hl⟩
                · refine lv_iconst (v := 1) hx hb dL_areSumsRight_167 (by decide) ?_
                  refine lv_goto (tgt := 172) hx hb dL_areSumsRight_168 (by decide) ?_
                  refine r_eq (y := (bI (pNear S k j2))) (nr_yes c142 c164) ?_
                  exact cont172 _ _ _ ⟨w, hl⟩
        · intro cont81
          refine lv_aload_n hx hb dL_areSumsRight_59 rfl (lv_at hl 1 rfl) ?_
          refine lv_iload hx hb dL_areSumsRight_60 (lv_at hl 6 rfl) ?_
          refine lv_bipush (v := 8) hx hb dL_areSumsRight_62 (by decide) ?_
          refine k_iV (As := [.int (nI k), .int 8]) (rest := [.int (rs (fQ S (pLeft S) q) k)]) (Rs := [hiB ty h ha sz nx, txB ty t ln cn ch le nu, [(q10, .inl (ty 0, 4, .inl (mA S k)))]]) (Bs' := [ppB o (a 0) (b 0) (sn 0) (h 0) r (t 0) sb hs lf, stB a S, lnB ty a S, quB ty a S, weB a S, miB ty a M, hiB ty h ha sz nx, txB ty t ln cn ch le nu, [(q10, .inl (ty 0, 4, .inl (mA S k)))]]) ⟨hx, hb, hml, hown, hts⟩ w (c_ho8 l D ty o a b sn h t r sb hs lf S M n q hA k (by omega)) (cwV 2 hts gL_areSumsRight_X8_householdOf rfl rfl rfl ⟨rfl, hdN_X8_householdOf⟩ ⟨Nat.le_of_ble_eq_true rfl, Nat.le_of_ble_eq_true rfl⟩) [0, 1, 2, 3, 4, 5, 6, 7, 8] (nB := 9) (by decide) rfl rfl rfl rfl 0 rfl rfl (ci := 12) rfl rfl rfl hl.1 rfl (Nat.le_of_ble_eq_true rfl) dL_areSumsRight_64 ⟨(Nat.le_of_ble_eq_true rfl), (Nat.le_of_ble_eq_true rfl)⟩ (fun H locs w => ?_)
          refine lv_if_lt (tgt := 80) hx hb dL_areSumsRight_67 (by decide) (fun c67 => ?_) (fun c67 => ?_)
          · refine lv_iconst (v := 0) hx hb dL_areSumsRight_80 (by decide) ?_
            refine r_eq (y := (if 0 ≤ pPl S (nI k) q then pLeft S k else 0)) (if_neg (Int32.not_le.mpr c67)).symm ?_
            exact cont81 _ _ _ ⟨w, hl⟩
          · refine lv_aload_n hx hb dL_areSumsRight_70 rfl (lv_at hl 1 rfl) ?_
            refine lv_iload hx hb dL_areSumsRight_71 (lv_at hl 6 rfl) ?_
            refine lv_iconst (v := 4) hx hb dL_areSumsRight_73 (by decide) ?_
            refine k_iV (As := [.int (nI k), .int 4]) (rest := [.int (rs (fQ S (pLeft S) q) k)]) (Rs := [hiB ty h ha sz nx, txB ty t ln cn ch le nu, [(q10, .inl (ty 0, 4, .inl (mA S k)))]]) (Bs' := [ppB o (a 0) (b 0) (sn 0) (h 0) r (t 0) sb hs lf, stB a S, lnB ty a S, quB ty a S, weB a S, miB ty a M, hiB ty h ha sz nx, txB ty t ln cn ch le nu, [(q10, .inl (ty 0, 4, .inl (mA S k)))]]) ⟨hx, hb, hml, hown, hts⟩ w (c_ho4 l D ty o a b sn h t r sb hs lf S M n q hA k (by omega)) (cwV 2 hts gL_areSumsRight_X8_householdOf rfl rfl rfl ⟨rfl, hdN_X8_householdOf⟩ ⟨Nat.le_of_ble_eq_true rfl, Nat.le_of_ble_eq_true rfl⟩) [0, 1, 2, 3, 4, 5, 6, 7, 8] (nB := 9) (by decide) rfl rfl rfl rfl 0 rfl rfl (ci := 12) rfl rfl rfl hl.1 rfl (Nat.le_of_ble_eq_true rfl) dL_areSumsRight_74 ⟨(Nat.le_of_ble_eq_true rfl), (Nat.le_of_ble_eq_true rfl)⟩ (fun H locs w => ?_)
            refine lv_goto (tgt := 81) hx hb dL_areSumsRight_77 (by decide) ?_
            refine r_eq (y := (if 0 ≤ pPl S (nI k) q then pLeft S k else 0)) (if_pos (Int32.not_lt.mp c67)).symm ?_
            exact cont81 _ _ _ ⟨w, hl⟩
      · intro cont55
        refine lv_aload_n hx hb dL_areSumsRight_39 rfl (lv_at hl 0 rfl) ?_
        refine lv_iload hx hb dL_areSumsRight_40 (lv_at hl 6 rfl) ?_
        refine lv_bipush (v := 8) hx hb dL_areSumsRight_42 (by decide) ?_
        refine k_iV (As := [.int (nI k), .int 8]) (rest := [.int (rs (fQ S (fun _ => 1) q) k)]) (Rs := [hiB ty h ha sz nx, txB ty t ln cn ch le nu, [(q10, .inl (ty 0, 4, .inl (mA S k)))]]) (Bs' := [ppB o (a 0) (b 0) (sn 0) (h 0) r (t 0) sb hs lf, stB a S, lnB ty a S, quB ty a S, weB a S, miB ty a M, hiB ty h ha sz nx, txB ty t ln cn ch le nu, [(q10, .inl (ty 0, 4, .inl (mA S k)))]]) ⟨hx, hb, hml, hown, hts⟩ w (c_ho8 l D ty o a b sn h t r sb hs lf S M n q hA k (by omega)) (cwV 2 hts gL_areSumsRight_X8_householdOf rfl rfl rfl ⟨rfl, hdN_X8_householdOf⟩ ⟨Nat.le_of_ble_eq_true rfl, Nat.le_of_ble_eq_true rfl⟩) [0, 1, 2, 3, 4, 5, 6, 7, 8] (nB := 9) (by decide) rfl rfl rfl rfl 0 rfl rfl (ci := 12) rfl rfl rfl hl.1 rfl (Nat.le_of_ble_eq_true rfl) dL_areSumsRight_44 ⟨(Nat.le_of_ble_eq_true rfl), (Nat.le_of_ble_eq_true rfl)⟩ (fun H locs w => ?_)
        refine lv_if_lt (tgt := 54) hx hb dL_areSumsRight_47 (by decide) (fun c47 => ?_) (fun c47 => ?_)
        · refine lv_iconst (v := 0) hx hb dL_areSumsRight_54 (by decide) ?_
          refine r_eq (y := (if 0 ≤ pPl S (nI k) q then (1 : Int32) else 0)) (if_neg (Int32.not_le.mpr c47)).symm ?_
          exact cont55 _ _ _ ⟨w, hl⟩
        · refine lv_iconst (v := 1) hx hb dL_areSumsRight_50 (by decide) ?_
          refine lv_goto (tgt := 55) hx hb dL_areSumsRight_51 (by decide) ?_
          refine r_eq (y := (if 0 ≤ pPl S (nI k) q then (1 : Int32) else 0)) (if_pos (Int32.not_lt.mp c47)).symm ?_
          exact cont55 _ _ _ ⟨w, hl⟩
    · exact absurd c33 (by decide)
