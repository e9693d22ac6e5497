set_option maxRecDepth 20000 in
theorem gi_cons {big : List Cond} {c : Cond} {b : List Cond} (h1 : c ∈ big) (h2 : goodWord c = true) (hb : GoodIn big b) : GoodIn big (c :: b) := fun w h => (List.mem_cons.mp h).elim (fun e => by rw [e]; exact ⟨h1, good_of_word h2⟩) (hb w)
set_option maxRecDepth 20000 in
theorem ggL_law_L_areSumsRight : GoodIn wsL_law wsL_areSumsRight := gi_cons (lw_chs_in _ (List.mem_of_getElem? (i := 15) rfl) _ (List.mem_of_getElem? (i := 21) rfl)) (by decide +kernel) (goodIn_app (goodIn_app (goodIn_app (goodIn_c lw_chs_in _ [(2, 6), (15, 22), (10, 12), (6, 7), (10, 13), (8, 16), (8, 17), (8, 18), (0, 2), (8, 19), (8, 20), (8, 21), (0, 12), (0, 18), (1, 2), (15, 23), (16, 0), (4, 20), (16, 1), (16, 2), (9, 16), (9, 17), (16, 3), (16, 4), (16, 5), (16, 6), (16, 7), (16, 8), (9, 5), (1, 13), (9, 6), (9, 7), (6, 18), (16, 9), (5, 15), (5, 16), (9, 22), (9, 23), (10, 0), (2, 7), (2, 9), (16, 10), (16, 11), (16, 12), (16, 13), (16, 14), (16, 15), (16, 16), (9, 19), (0, 11), (9, 20), (9, 21), (1, 14), (6, 13), (1, 22), (9, 12), (9, 13), (9, 14), (9, 15), (9, 18), (9, 8), (1, 17), (9, 9), (9, 10), (7, 3), (2, 18), (16, 17), (16, 18), (16, 19), (16, 20), (14, 0), (14, 1), (14, 2), (14, 3), (16, 21), (16, 22), (16, 23), (17, 0), (11, 10), (11, 11), (11, 12), (17, 1), (17, 2), (17, 3), (17, 4), (17, 5), (17, 6), (17, 7), (17, 8), (17, 9), (17, 10), (17, 11), (17, 12), (17, 13), (17, 14), (17, 15), (17, 16), (17, 17), (10, 7), (10, 8), (10, 9), (10, 10), (2, 8), (10, 11), (17, 18), (17, 19), (17, 20), (17, 21), (12, 10), (12, 11), (12, 12), (1, 18), (9, 11), (17, 22), (17, 23), (18, 0), (18, 1), (18, 2), (18, 3), (18, 4), (18, 5), (18, 6), (18, 7), (18, 8), (18, 9), (13, 20), (13, 21), (13, 22), (13, 23), (19, 0), (19, 1), (19, 2), (19, 3), (19, 4), (19, 5), (19, 6), (19, 7), (19, 8), (20, 0), (20, 1), (20, 2), (20, 3), (20, 4), (20, 5), (20, 6), (25, 0), (25, 1), (25, 2), (25, 3), (25, 4), (25, 5), (25, 6), (25, 7), (25, 8), (26, 0), (26, 1), (27, 0), (27, 1), (27, 2), (27, 3), (27, 4), (27, 5), (27, 6), (27, 7), (28, 0), (28, 1), (28, 2), (28, 3), (28, 4), (28, 5), (21, 0), (21, 1), (21, 2), (23, 0), (23, 1), (23, 2), (23, 3), (23, 4)] (by decide +kernel) (by decide +kernel)) (goodIn_sub (fun _ h => List.mem_append_left _ (List.mem_append_left _ (List.mem_append_right _ h))) (by decide +kernel))) (goodIn_sub (fun _ h => List.mem_append_left _ (List.mem_append_right _ h)) (by decide +kernel))) (goodIn_sub (fun _ h => List.mem_append_right _ h) (by decide +kernel)))
set_option maxRecDepth 20000 in
theorem gL_law_L_areSumsRight : GoodIn wsL_law (va_wsS RL 129 yL_areSumsRight wsL_areSumsRight) := goodIn_app (goodIn_of _ (by decide +kernel)) ggL_law_L_areSumsRight
theorem dL_law_0 : decode cL_law 0 = .ok (.new 20, 3) := by decide +kernel
theorem dL_law_3 : decode cL_law 3 = .ok (.dup, 1) := by decide +kernel
theorem dL_law_4 : decode cL_law 4 = .ok (.invokespecial 120, 3) := by decide +kernel
theorem dL_law_7 : decode cL_law 7 = .ok (.astore_n 1, 1) := by decide +kernel
theorem dL_law_8 : decode cL_law 8 = .ok (.aload_n 1, 1) := by decide +kernel
theorem dL_law_9 : decode cL_law 9 = .ok (.aload_n 0, 1) := by decide +kernel
theorem dL_law_10 : decode cL_law 10 = .ok (.invokestatic 121, 3) := by decide +kernel
theorem dL_law_13 : decode cL_law 13 = .ok (.iconst 0, 1) := by decide +kernel
theorem dL_law_14 : decode cL_law 14 = .ok (.istore_n 2, 1) := by decide +kernel
theorem dL_law_15 : decode cL_law 15 = .ok (.iload_n 2, 1) := by decide +kernel
theorem dL_law_16 : decode cL_law 16 = .ok (.bipush 30, 2) := by decide +kernel
theorem dL_law_18 : decode cL_law 18 = .ok (.if_icmp .ge 30, 3) := by decide +kernel
theorem dL_law_21 : decode cL_law 21 = .ok (.aload_n 1, 1) := by decide +kernel
theorem dL_law_22 : decode cL_law 22 = .ok (.aload_n 0, 1) := by decide +kernel
theorem dL_law_23 : decode cL_law 23 = .ok (.bipush 30, 2) := by decide +kernel
theorem dL_law_25 : decode cL_law 25 = .ok (.iconst 4, 1) := by decide +kernel
theorem dL_law_26 : decode cL_law 26 = .ok (.iload_n 2, 1) := by decide +kernel
theorem dL_law_27 : decode cL_law 27 = .ok (.imul, 1) := by decide +kernel
theorem dL_law_28 : decode cL_law 28 = .ok (.iadd, 1) := by decide +kernel
theorem dL_law_29 : decode cL_law 29 = .ok (.invokestatic 125, 3) := by decide +kernel
theorem dL_law_32 : decode cL_law 32 = .ok (.istore_n 3, 1) := by decide +kernel
theorem dL_law_33 : decode cL_law 33 = .ok (.aload_n 1, 1) := by decide +kernel
theorem dL_law_34 : decode cL_law 34 = .ok (.invokestatic 129, 3) := by decide +kernel
theorem dL_law_37 : decode cL_law 37 = .ok (.ifCond .ne 5, 3) := by decide +kernel
theorem dL_law_40 : decode cL_law 40 = .ok (.iconst 0, 1) := by decide +kernel
theorem dL_law_41 : decode cL_law 41 = .ok (.ireturn, 1) := by decide +kernel
theorem dL_law_42 : decode cL_law 42 = .ok (.iinc 2 1, 3) := by decide +kernel
theorem dL_law_45 : decode cL_law 45 = .ok (.goto (-30), 3) := by decide +kernel
theorem dL_law_48 : decode cL_law 48 = .ok (.iconst 1, 1) := by decide +kernel
theorem dL_law_49 : decode cL_law 49 = .ok (.ireturn, 1) := by decide +kernel
