set_option maxRecDepth 20000 in
theorem ggX8_vote_X6_letVote : GoodIn wsX8_vote wsX6_letVote := goodIn_ca (goodIn_r _ [88, 10, 37, 33, 35, 36, 89, 40, 90, 91, 92, 93, 94, 95, 43, 45, 96, 97, 98, 99, 100, 101, 102, 103, 47, 104, 105, 106, 7, 107, 108, 109, 28, 110, 111, 112, 113, 114, 34, 115, 57, 116, 117, 60, 61, 118, 119, 120, 121, 122, 76, 123, 124, 81, 80, 83, 84, 85, 79, 125, 27, 29, 135, 136, 137, 138, 139, 140, 141, 158, 159, 142, 143, 144, 145, 146, 147, 148, 149, 150, 160, 161, 162, 163, 164, 165, 166, 167, 168, 169, 170, 171, 172, 173] (by decide +kernel) (by decide +kernel)) (goodIn_sub (fun _ h => List.mem_cons_of_mem _ (List.mem_append_right _ h)) (by decide +kernel))
set_option maxRecDepth 20000 in
theorem gX8_vote_X6_letVote_n111 : GoodIn wsX8_vote (wsX6_letVote) := ggX8_vote_X6_letVote
theorem dX8_vote_0 : decode cX8_vote 0 = .ok (.aload_n 0, 1) := by decide +kernel
theorem dX8_vote_1 : decode cX8_vote 1 = .ok (.getfield 10, 3) := by decide +kernel
theorem dX8_vote_4 : decode cX8_vote 4 = .ok (.aload_n 0, 1) := by decide +kernel
theorem dX8_vote_5 : decode cX8_vote 5 = .ok (.getfield 32, 3) := by decide +kernel
theorem dX8_vote_8 : decode cX8_vote 8 = .ok (.invokevirtual 105, 3) := by decide +kernel
theorem dX8_vote_11 : decode cX8_vote 11 = .ok (.ifCond .eq 13, 3) := by decide +kernel
theorem dX8_vote_14 : decode cX8_vote 14 = .ok (.new 58, 3) := by decide +kernel
theorem dX8_vote_17 : decode cX8_vote 17 = .ok (.dup, 1) := by decide +kernel
theorem dX8_vote_18 : decode cX8_vote 18 = .ok (.ldc 109, 2) := by decide +kernel
theorem dX8_vote_20 : decode cX8_vote 20 = .ok (.invokespecial 62, 3) := by decide +kernel
theorem dX8_vote_23 : decode cX8_vote 23 = .ok (.athrow, 1) := by decide +kernel
theorem dX8_vote_24 : decode cX8_vote 24 = .ok (.aload_n 0, 1) := by decide +kernel
theorem dX8_vote_25 : decode cX8_vote 25 = .ok (.getfield 25, 3) := by decide +kernel
theorem dX8_vote_28 : decode cX8_vote 28 = .ok (.aload_n 0, 1) := by decide +kernel
theorem dX8_vote_29 : decode cX8_vote 29 = .ok (.getfield 10, 3) := by decide +kernel
theorem dX8_vote_32 : decode cX8_vote 32 = .ok (.invokevirtual 65, 3) := by decide +kernel
theorem dX8_vote_35 : decode cX8_vote 35 = .ok (.aload_n 0, 1) := by decide +kernel
theorem dX8_vote_36 : decode cX8_vote 36 = .ok (.getfield 10, 3) := by decide +kernel
theorem dX8_vote_39 : decode cX8_vote 39 = .ok (.invokevirtual 111, 3) := by decide +kernel
theorem dX8_vote_42 : decode cX8_vote 42 = .ok (.ireturn, 1) := by decide +kernel
set_option maxRecDepth 20000 in
theorem ggX8_rain_X6_refusesRain : GoodIn wsX8_rain wsX6_refusesRain := goodIn_r _ [9, 10, 11, 12, 13, 14, 15, 16, 17, 18, 19, 20, 108, 109, 110, 111] (by decide +kernel) (by decide +kernel)
set_option maxRecDepth 20000 in
theorem gX8_rain_X6_refusesRain_n115 : GoodIn wsX8_rain (wsX6_refusesRain) := ggX8_rain_X6_refusesRain
set_option maxRecDepth 20000 in
theorem ggX8_rain_X1_keep : GoodIn wsX8_rain wsX1_keep := goodIn_ca (goodIn_r _ [24, 25, 26, 27, 28, 29, 30, 31, 32, 7, 33, 34, 35, 36, 37, 38, 39, 40, 41, 42, 43, 44, 45, 46, 47, 48, 49, 50, 51, 52, 53, 54, 55, 56, 57, 58, 59, 60, 61, 62, 63, 64, 65, 66, 67, 68, 69, 70, 71, 72, 73, 74, 75, 76, 77, 78, 79, 80, 81, 82, 83, 84, 85, 86, 87, 88, 112, 113, 114, 101, 102, 103, 104, 105, 106, 107, 115, 116, 117, 118, 119, 120, 121, 122, 123, 124, 125, 126, 127, 128, 129, 130, 131, 132, 133, 134, 135, 136, 137, 138, 139] (by decide +kernel) (by decide +kernel)) (goodIn_sub (fun _ h => List.mem_cons_of_mem _ (List.mem_append_right _ h)) (by decide +kernel))
set_option maxRecDepth 20000 in
theorem gX8_rain_X1_keep_n65 : GoodIn wsX8_rain (wsX1_keep) := ggX8_rain_X1_keep
set_option maxRecDepth 20000 in
theorem ggX8_rain_X7_changeRain : GoodIn wsX8_rain wsX7_changeRain := goodIn_r _ [91, 74, 126, 127, 128, 129, 130, 131, 132, 133] (by decide +kernel) (by decide +kernel)
set_option maxRecDepth 20000 in
theorem gX8_rain_X7_changeRain_n124 : GoodIn wsX8_rain (wsX7_changeRain) := ggX8_rain_X7_changeRain
theorem dX8_rain_0 : decode cX8_rain 0 = .ok (.aload_n 0, 1) := by decide +kernel
theorem dX8_rain_1 : decode cX8_rain 1 = .ok (.getfield 10, 3) := by decide +kernel
theorem dX8_rain_4 : decode cX8_rain 4 = .ok (.iload_n 1, 1) := by decide +kernel
theorem dX8_rain_5 : decode cX8_rain 5 = .ok (.aload_n 0, 1) := by decide +kernel
theorem dX8_rain_6 : decode cX8_rain 6 = .ok (.getfield 32, 3) := by decide +kernel
theorem dX8_rain_9 : decode cX8_rain 9 = .ok (.invokevirtual 115, 3) := by decide +kernel
theorem dX8_rain_12 : decode cX8_rain 12 = .ok (.ifCond .eq 13, 3) := by decide +kernel
theorem dX8_rain_15 : decode cX8_rain 15 = .ok (.new 58, 3) := by decide +kernel
theorem dX8_rain_18 : decode cX8_rain 18 = .ok (.dup, 1) := by decide +kernel
theorem dX8_rain_19 : decode cX8_rain 19 = .ok (.ldc 118, 2) := by decide +kernel
theorem dX8_rain_21 : decode cX8_rain 21 = .ok (.invokespecial 62, 3) := by decide +kernel
theorem dX8_rain_24 : decode cX8_rain 24 = .ok (.athrow, 1) := by decide +kernel
theorem dX8_rain_25 : decode cX8_rain 25 = .ok (.aload_n 0, 1) := by decide +kernel
theorem dX8_rain_26 : decode cX8_rain 26 = .ok (.getfield 25, 3) := by decide +kernel
theorem dX8_rain_29 : decode cX8_rain 29 = .ok (.aload_n 0, 1) := by decide +kernel
theorem dX8_rain_30 : decode cX8_rain 30 = .ok (.getfield 10, 3) := by decide +kernel
theorem dX8_rain_33 : decode cX8_rain 33 = .ok (.invokevirtual 65, 3) := by decide +kernel
theorem dX8_rain_36 : decode cX8_rain 36 = .ok (.aload_n 0, 1) := by decide +kernel
theorem dX8_rain_37 : decode cX8_rain 37 = .ok (.getfield 10, 3) := by decide +kernel
theorem dX8_rain_40 : decode cX8_rain 40 = .ok (.getfield 120, 3) := by decide +kernel
theorem dX8_rain_43 : decode cX8_rain 43 = .ok (.iload_n 1, 1) := by decide +kernel
theorem dX8_rain_44 : decode cX8_rain 44 = .ok (.invokevirtual 124, 3) := by decide +kernel
theorem dX8_rain_47 : decode cX8_rain 47 = .ok (.ireturn, 1) := by decide +kernel
set_option maxRecDepth 20000 in
theorem ggX8_night_X6_refusesNights : GoodIn wsX8_night wsX6_refusesNights := goodIn_r _ [9, 10, 11, 12, 13, 14, 15, 16, 17, 18, 19, 20, 107, 108, 109, 110] (by decide +kernel) (by decide +kernel)
set_option maxRecDepth 20000 in
theorem gX8_night_X6_refusesNights_n129 : GoodIn wsX8_night (wsX6_refusesNights) := ggX8_night_X6_refusesNights
set_option maxRecDepth 20000 in
theorem ggX8_night_X1_keep : GoodIn wsX8_night wsX1_keep := goodIn_ca (goodIn_r _ [24, 25, 26, 27, 28, 29, 30, 31, 32, 7, 33, 34, 35, 36, 37, 38, 39, 40, 41, 42, 43, 44, 45, 46, 47, 48, 49, 50, 51, 52, 53, 54, 55, 56, 57, 58, 59, 60, 61, 62, 63, 64, 65, 66, 67, 68, 69, 70, 71, 72, 73, 74, 75, 76, 77, 78, 79, 80, 81, 82, 83, 84, 85, 86, 87, 88, 111, 112, 113, 114, 115, 116, 117, 118, 119, 120, 121, 122, 123, 124, 125, 126, 127, 128, 129, 130, 131, 132, 133, 134, 135, 136, 137, 138, 139, 140, 141, 142, 143, 144, 145] (by decide +kernel) (by decide +kernel)) (goodIn_sub (fun _ h => List.mem_cons_of_mem _ (List.mem_append_right _ h)) (by decide +kernel))
set_option maxRecDepth 20000 in
theorem gX8_night_X1_keep_n65 : GoodIn wsX8_night (wsX1_keep) := ggX8_night_X1_keep
set_option maxRecDepth 20000 in
theorem ggX8_night_X6_letNightsPass : GoodIn wsX8_night wsX6_letNightsPass := goodIn_ca (goodIn_r _ [91, 36, 35, 37, 39, 92, 43, 93, 94, 46, 51, 52, 95, 67, 96, 97, 74, 73, 70, 72, 77, 114, 115, 116, 117, 118, 119, 120, 130, 131, 132, 133, 134, 135, 136, 137, 138, 139, 121, 122, 123, 124, 125, 126, 127, 128, 129] (by decide +kernel) (by decide +kernel)) (goodIn_sub (fun _ h => List.mem_cons_of_mem _ (List.mem_append_right _ h)) (by decide +kernel))
set_option maxRecDepth 20000 in
theorem gX8_night_X6_letNightsPass_n134 : GoodIn wsX8_night (wsX6_letNightsPass) := ggX8_night_X6_letNightsPass
theorem dX8_night_0 : decode cX8_night 0 = .ok (.aload_n 0, 1) := by decide +kernel
theorem dX8_night_1 : decode cX8_night 1 = .ok (.getfield 10, 3) := by decide +kernel
theorem dX8_night_4 : decode cX8_night 4 = .ok (.iload_n 1, 1) := by decide +kernel
theorem dX8_night_5 : decode cX8_night 5 = .ok (.aload_n 0, 1) := by decide +kernel
theorem dX8_night_6 : decode cX8_night 6 = .ok (.getfield 32, 3) := by decide +kernel
theorem dX8_night_9 : decode cX8_night 9 = .ok (.invokevirtual 129, 3) := by decide +kernel
theorem dX8_night_12 : decode cX8_night 12 = .ok (.ifCond .eq 13, 3) := by decide +kernel
theorem dX8_night_15 : decode cX8_night 15 = .ok (.new 58, 3) := by decide +kernel
theorem dX8_night_18 : decode cX8_night 18 = .ok (.dup, 1) := by decide +kernel
theorem dX8_night_19 : decode cX8_night 19 = .ok (.ldc 132, 2) := by decide +kernel
theorem dX8_night_21 : decode cX8_night 21 = .ok (.invokespecial 62, 3) := by decide +kernel
theorem dX8_night_24 : decode cX8_night 24 = .ok (.athrow, 1) := by decide +kernel
theorem dX8_night_25 : decode cX8_night 25 = .ok (.aload_n 0, 1) := by decide +kernel
theorem dX8_night_26 : decode cX8_night 26 = .ok (.getfield 25, 3) := by decide +kernel
theorem dX8_night_29 : decode cX8_night 29 = .ok (.aload_n 0, 1) := by decide +kernel
theorem dX8_night_30 : decode cX8_night 30 = .ok (.getfield 10, 3) := by decide +kernel
theorem dX8_night_33 : decode cX8_night 33 = .ok (.invokevirtual 65, 3) := by decide +kernel
theorem dX8_night_36 : decode cX8_night 36 = .ok (.aload_n 0, 1) := by decide +kernel
theorem dX8_night_37 : decode cX8_night 37 = .ok (.getfield 10, 3) := by decide +kernel
theorem dX8_night_40 : decode cX8_night 40 = .ok (.iload_n 1, 1) := by decide +kernel
theorem dX8_night_41 : decode cX8_night 41 = .ok (.invokevirtual 134, 3) := by decide +kernel
theorem dX8_night_44 : decode cX8_night 44 = .ok (.ireturn, 1) := by decide +kernel
set_option maxRecDepth 20000 in
theorem ggX8_collect_X6_refusesCoins : GoodIn wsX8_collect wsX6_refusesCoins := goodIn_r _ [9, 10, 11, 12, 13, 14, 15, 16, 17, 18, 19, 20, 21, 98, 99, 100, 101, 102, 103, 104, 105, 106, 107, 108] (by decide +kernel) (by decide +kernel)
set_option maxRecDepth 20000 in
theorem gX8_collect_X6_refusesCoins_n137 : GoodIn wsX8_collect (wsX6_refusesCoins) := ggX8_collect_X6_refusesCoins
set_option maxRecDepth 20000 in
theorem ggX8_collect_X1_keep : GoodIn wsX8_collect wsX1_keep := goodIn_ca (goodIn_r _ [25, 26, 27, 28, 29, 30, 31, 32, 33, 7, 34, 35, 36, 37, 38, 39, 40, 41, 10, 42, 43, 44, 45, 46, 47, 48, 49, 50, 51, 52, 53, 54, 55, 56, 57, 58, 59, 60, 61, 62, 63, 64, 65, 66, 67, 68, 69, 70, 71, 72, 73, 74, 75, 76, 77, 78, 79, 80, 81, 82, 83, 84, 85, 86, 87, 88, 109, 110, 111, 98, 99, 100, 101, 102, 103, 104, 112, 113, 114, 115, 116, 117, 118, 119, 120, 121, 122, 123, 124, 125, 126, 127, 128, 129, 130, 131, 132, 133, 134, 135, 136] (by decide +kernel) (by decide +kernel)) (goodIn_sub (fun _ h => List.mem_cons_of_mem _ (List.mem_append_right _ h)) (by decide +kernel))
set_option maxRecDepth 20000 in
theorem gX8_collect_X1_keep_n65 : GoodIn wsX8_collect (wsX1_keep) := ggX8_collect_X1_keep
theorem dX8_collect_0 : decode cX8_collect 0 = .ok (.aload_n 0, 1) := by decide +kernel
theorem dX8_collect_1 : decode cX8_collect 1 = .ok (.getfield 10, 3) := by decide +kernel
theorem dX8_collect_4 : decode cX8_collect 4 = .ok (.iload_n 1, 1) := by decide +kernel
theorem dX8_collect_5 : decode cX8_collect 5 = .ok (.aload_n 0, 1) := by decide +kernel
theorem dX8_collect_6 : decode cX8_collect 6 = .ok (.getfield 32, 3) := by decide +kernel
theorem dX8_collect_9 : decode cX8_collect 9 = .ok (.invokevirtual 137, 3) := by decide +kernel
theorem dX8_collect_12 : decode cX8_collect 12 = .ok (.ifCond .eq 13, 3) := by decide +kernel
theorem dX8_collect_15 : decode cX8_collect 15 = .ok (.new 58, 3) := by decide +kernel
theorem dX8_collect_18 : decode cX8_collect 18 = .ok (.dup, 1) := by decide +kernel
theorem dX8_collect_19 : decode cX8_collect 19 = .ok (.ldc 140, 2) := by decide +kernel
theorem dX8_collect_21 : decode cX8_collect 21 = .ok (.invokespecial 62, 3) := by decide +kernel
theorem dX8_collect_24 : decode cX8_collect 24 = .ok (.athrow, 1) := by decide +kernel
theorem dX8_collect_25 : decode cX8_collect 25 = .ok (.aload_n 0, 1) := by decide +kernel
theorem dX8_collect_26 : decode cX8_collect 26 = .ok (.getfield 25, 3) := by decide +kernel
theorem dX8_collect_29 : decode cX8_collect 29 = .ok (.aload_n 0, 1) := by decide +kernel
theorem dX8_collect_30 : decode cX8_collect 30 = .ok (.getfield 10, 3) := by decide +kernel
theorem dX8_collect_33 : decode cX8_collect 33 = .ok (.invokevirtual 65, 3) := by decide +kernel
theorem dX8_collect_36 : decode cX8_collect 36 = .ok (.aload_n 0, 1) := by decide +kernel
theorem dX8_collect_37 : decode cX8_collect 37 = .ok (.getfield 10, 3) := by decide +kernel
theorem dX8_collect_40 : decode cX8_collect 40 = .ok (.dup, 1) := by decide +kernel
theorem dX8_collect_41 : decode cX8_collect 41 = .ok (.getfield 142, 3) := by decide +kernel
theorem dX8_collect_44 : decode cX8_collect 44 = .ok (.iload_n 1, 1) := by decide +kernel
theorem dX8_collect_45 : decode cX8_collect 45 = .ok (.iadd, 1) := by decide +kernel
theorem dX8_collect_46 : decode cX8_collect 46 = .ok (.putfield 142, 3) := by decide +kernel
theorem dX8_collect_49 : decode cX8_collect 49 = .ok (.aload_n 0, 1) := by decide +kernel
theorem dX8_collect_50 : decode cX8_collect 50 = .ok (.getfield 10, 3) := by decide +kernel
theorem dX8_collect_53 : decode cX8_collect 53 = .ok (.getfield 142, 3) := by decide +kernel
theorem dX8_collect_56 : decode cX8_collect 56 = .ok (.ireturn, 1) := by decide +kernel
set_option maxRecDepth 20000 in
theorem ggX8_leather_X6_refusesLeather : GoodIn wsX8_leather wsX6_refusesLeather := goodIn_r _ [9, 10, 11, 12, 13, 14, 15, 16, 17, 18, 105, 106, 107, 108, 109, 110, 111, 112, 113, 114, 115] (by decide +kernel) (by decide +kernel)
set_option maxRecDepth 20000 in
theorem gX8_leather_X6_refusesLeather_n145 : GoodIn wsX8_leather (wsX6_refusesLeather) := ggX8_leather_X6_refusesLeather
set_option maxRecDepth 20000 in
theorem ggX8_leather_X1_keep : GoodIn wsX8_leather wsX1_keep := goodIn_ca (goodIn_r _ [22, 23, 24, 25, 26, 27, 28, 29, 30, 7, 31, 32, 33, 34, 35, 36, 37, 38, 10, 39, 40, 41, 42, 43, 44, 45, 46, 47, 48, 49, 50, 51, 52, 53, 54, 55, 56, 57, 58, 59, 60, 61, 62, 63, 64, 65, 66, 67, 68, 69, 70, 71, 72, 73, 74, 75, 76, 77, 78, 79, 80, 81, 82, 83, 84, 85, 116, 117, 118, 105, 106, 107, 108, 109, 110, 111, 119, 120, 121, 122, 123, 124, 125, 126, 127, 128, 129, 130, 131, 132, 133, 134, 135, 136, 137, 138, 139, 140, 141, 142, 143] (by decide +kernel) (by decide +kernel)) (goodIn_sub (fun _ h => List.mem_cons_of_mem _ (List.mem_append_right _ h)) (by decide +kernel))
set_option maxRecDepth 20000 in
theorem gX8_leather_X1_keep_n65 : GoodIn wsX8_leather (wsX1_keep) := ggX8_leather_X1_keep
set_option maxRecDepth 20000 in
theorem ggX8_leather_X6_changeLeather : GoodIn wsX8_leather wsX6_changeLeather := goodIn_ca (goodIn_r _ [88, 10, 36, 37, 35, 89, 76, 90, 91, 81, 80, 83, 84, 85, 79, 92, 27, 28, 29, 93, 64, 94, 95, 72, 105, 106, 107, 108, 109, 110, 111, 138, 139, 140, 141, 142, 143, 130, 131, 132, 133, 134, 135, 136, 137] (by decide +kernel) (by decide +kernel)) (goodIn_sub (fun _ h => List.mem_cons_of_mem _ (List.mem_append_right _ h)) (by decide +kernel))
set_option maxRecDepth 20000 in
theorem gX8_leather_X6_changeLeather_n150 : GoodIn wsX8_leather (wsX6_changeLeather) := ggX8_leather_X6_changeLeather
theorem dX8_leather_0 : decode cX8_leather 0 = .ok (.aload_n 0, 1) := by decide +kernel
theorem dX8_leather_1 : decode cX8_leather 1 = .ok (.getfield 10, 3) := by decide +kernel
theorem dX8_leather_4 : decode cX8_leather 4 = .ok (.aload_n 0, 1) := by decide +kernel
theorem dX8_leather_5 : decode cX8_leather 5 = .ok (.getfield 32, 3) := by decide +kernel
theorem dX8_leather_8 : decode cX8_leather 8 = .ok (.invokevirtual 145, 3) := by decide +kernel
theorem dX8_leather_11 : decode cX8_leather 11 = .ok (.ifCond .eq 13, 3) := by decide +kernel
theorem dX8_leather_14 : decode cX8_leather 14 = .ok (.new 58, 3) := by decide +kernel
theorem dX8_leather_17 : decode cX8_leather 17 = .ok (.dup, 1) := by decide +kernel
theorem dX8_leather_18 : decode cX8_leather 18 = .ok (.ldc 148, 2) := by decide +kernel
theorem dX8_leather_20 : decode cX8_leather 20 = .ok (.invokespecial 62, 3) := by decide +kernel
theorem dX8_leather_23 : decode cX8_leather 23 = .ok (.athrow, 1) := by decide +kernel
theorem dX8_leather_24 : decode cX8_leather 24 = .ok (.aload_n 0, 1) := by decide +kernel
theorem dX8_leather_25 : decode cX8_leather 25 = .ok (.getfield 25, 3) := by decide +kernel
theorem dX8_leather_28 : decode cX8_leather 28 = .ok (.aload_n 0, 1) := by decide +kernel
theorem dX8_leather_29 : decode cX8_leather 29 = .ok (.getfield 10, 3) := by decide +kernel
theorem dX8_leather_32 : decode cX8_leather 32 = .ok (.invokevirtual 65, 3) := by decide +kernel
theorem dX8_leather_35 : decode cX8_leather 35 = .ok (.aload_n 0, 1) := by decide +kernel
theorem dX8_leather_36 : decode cX8_leather 36 = .ok (.getfield 10, 3) := by decide +kernel
theorem dX8_leather_39 : decode cX8_leather 39 = .ok (.invokevirtual 150, 3) := by decide +kernel
theorem dX8_leather_42 : decode cX8_leather 42 = .ok (.ireturn, 1) := by decide +kernel
set_option maxRecDepth 20000 in
theorem ggX8_householdOf_X2_has : GoodIn wsX8_householdOf wsX2_has := goodIn_r _ [9, 10, 53, 54, 55, 56, 57, 58, 59, 60, 61] (by decide +kernel) (by decide +kernel)
set_option maxRecDepth 20000 in
theorem gX8_householdOf_X2_has_n153 : GoodIn wsX8_householdOf (wsX2_has) := ggX8_householdOf_X2_has
set_option maxRecDepth 20000 in
theorem ggX8_householdOf_X6_turnsOf : GoodIn wsX8_householdOf wsX6_turnsOf := goodIn_ca (goodIn_r _ [14, 15, 16, 17, 18, 7, 19, 20, 21, 22, 46, 47, 48, 49, 50, 51, 52, 62, 63, 64, 65, 66, 67, 68, 69, 53, 54, 55, 56, 57, 58, 59, 60, 61] (by decide +kernel) (by decide +kernel)) (goodIn_sub (fun _ h => List.mem_cons_of_mem _ (List.mem_append_left _ (List.mem_append_right _ h))) (by decide +kernel))
set_option maxRecDepth 20000 in
theorem gX8_householdOf_X6_turnsOf_n172 : GoodIn wsX8_householdOf (wsX6_turnsOf) := ggX8_householdOf_X6_turnsOf
set_option maxRecDepth 20000 in
theorem ggX8_householdOf_X6_turnsLeft : GoodIn wsX8_householdOf wsX6_turnsLeft := goodIn_ca (goodIn_r _ [25, 15, 26, 27, 28, 29, 30, 11, 13, 12, 14, 16, 17, 18, 7, 19, 20, 21, 22, 46, 47, 48, 49, 50, 51, 52, 53, 54, 55, 56, 57, 58, 59, 60, 61, 62, 63, 64, 65, 66, 67, 68, 69] (by decide +kernel) (by decide +kernel)) (goodIn_sub (fun _ h => List.mem_cons_of_mem _ (List.mem_append_left _ (List.mem_append_right _ h))) (by decide +kernel))
set_option maxRecDepth 20000 in
theorem gX8_householdOf_X6_turnsLeft_n175 : GoodIn wsX8_householdOf (wsX6_turnsLeft) := ggX8_householdOf_X6_turnsLeft
set_option maxRecDepth 20000 in
theorem ggX8_householdOf_X4_placeOf : GoodIn wsX8_householdOf wsX4_placeOf := goodIn_ca (goodIn_r _ [34, 35, 36, 70, 71] (by decide +kernel) (by decide +kernel)) (goodIn_sub (fun _ h => List.mem_cons_of_mem _ (List.mem_append_left _ (List.mem_append_right _ h))) (by decide +kernel))
set_option maxRecDepth 20000 in
theorem gX8_householdOf_X4_placeOf_n191 : GoodIn wsX8_householdOf (wsX4_placeOf) := ggX8_householdOf_X4_placeOf
theorem dX8_householdOf_0 : decode cX8_householdOf 0 = .ok (.aload_n 0, 1) := by decide +kernel
theorem dX8_householdOf_1 : decode cX8_householdOf 1 = .ok (.getfield 10, 3) := by decide +kernel
theorem dX8_householdOf_4 : decode cX8_householdOf 4 = .ok (.getfield 69, 3) := by decide +kernel
theorem dX8_householdOf_7 : decode cX8_householdOf 7 = .ok (.iload_n 1, 1) := by decide +kernel
theorem dX8_householdOf_8 : decode cX8_householdOf 8 = .ok (.invokevirtual 153, 3) := by decide +kernel
theorem dX8_householdOf_11 : decode cX8_householdOf 11 = .ok (.ifCond .ne 13, 3) := by decide +kernel
theorem dX8_householdOf_14 : decode cX8_householdOf 14 = .ok (.new 157, 3) := by decide +kernel
theorem dX8_householdOf_17 : decode cX8_householdOf 17 = .ok (.dup, 1) := by decide +kernel
theorem dX8_householdOf_18 : decode cX8_householdOf 18 = .ok (.ldc 159, 2) := by decide +kernel
theorem dX8_householdOf_20 : decode cX8_householdOf 20 = .ok (.invokespecial 161, 3) := by decide +kernel
theorem dX8_householdOf_23 : decode cX8_householdOf 23 = .ok (.athrow, 1) := by decide +kernel
theorem dX8_householdOf_24 : decode cX8_householdOf 24 = .ok (.iload_n 2, 1) := by decide +kernel
theorem dX8_householdOf_25 : decode cX8_householdOf 25 = .ok (.tableswitch 159 0 8 #[51, 64, 77, 90, 99, 108, 121, 134, 147], 51) := by decide +kernel
theorem dX8_householdOf_76 : decode cX8_householdOf 76 = .ok (.aload_n 0, 1) := by decide +kernel
theorem dX8_householdOf_77 : decode cX8_householdOf 77 = .ok (.getfield 10, 3) := by decide +kernel
theorem dX8_householdOf_80 : decode cX8_householdOf 80 = .ok (.getfield 69, 3) := by decide +kernel
theorem dX8_householdOf_83 : decode cX8_householdOf 83 = .ok (.getfield 162, 3) := by decide +kernel
theorem dX8_householdOf_86 : decode cX8_householdOf 86 = .ok (.iload_n 1, 1) := by decide +kernel
theorem dX8_householdOf_87 : decode cX8_householdOf 87 = .ok (.iaload, 1) := by decide +kernel
theorem dX8_householdOf_88 : decode cX8_householdOf 88 = .ok (.ireturn, 1) := by decide +kernel
theorem dX8_householdOf_89 : decode cX8_householdOf 89 = .ok (.aload_n 0, 1) := by decide +kernel
theorem dX8_householdOf_90 : decode cX8_householdOf 90 = .ok (.getfield 10, 3) := by decide +kernel
theorem dX8_householdOf_93 : decode cX8_householdOf 93 = .ok (.getfield 69, 3) := by decide +kernel
theorem dX8_householdOf_96 : decode cX8_householdOf 96 = .ok (.getfield 166, 3) := by decide +kernel
theorem dX8_householdOf_99 : decode cX8_householdOf 99 = .ok (.iload_n 1, 1) := by decide +kernel
theorem dX8_householdOf_100 : decode cX8_householdOf 100 = .ok (.iaload, 1) := by decide +kernel
theorem dX8_householdOf_101 : decode cX8_householdOf 101 = .ok (.ireturn, 1) := by decide +kernel
theorem dX8_householdOf_102 : decode cX8_householdOf 102 = .ok (.aload_n 0, 1) := by decide +kernel
theorem dX8_householdOf_103 : decode cX8_householdOf 103 = .ok (.getfield 10, 3) := by decide +kernel
theorem dX8_householdOf_106 : decode cX8_householdOf 106 = .ok (.getfield 69, 3) := by decide +kernel
theorem dX8_householdOf_109 : decode cX8_householdOf 109 = .ok (.getfield 169, 3) := by decide +kernel
theorem dX8_householdOf_112 : decode cX8_householdOf 112 = .ok (.iload_n 1, 1) := by decide +kernel
theorem dX8_householdOf_113 : decode cX8_householdOf 113 = .ok (.iaload, 1) := by decide +kernel
theorem dX8_householdOf_114 : decode cX8_householdOf 114 = .ok (.ireturn, 1) := by decide +kernel
theorem dX8_householdOf_115 : decode cX8_householdOf 115 = .ok (.aload_n 0, 1) := by decide +kernel
theorem dX8_householdOf_116 : decode cX8_householdOf 116 = .ok (.getfield 10, 3) := by decide +kernel
theorem dX8_householdOf_119 : decode cX8_householdOf 119 = .ok (.iload_n 1, 1) := by decide +kernel
theorem dX8_householdOf_120 : decode cX8_householdOf 120 = .ok (.invokevirtual 172, 3) := by decide +kernel
theorem dX8_householdOf_123 : decode cX8_householdOf 123 = .ok (.ireturn, 1) := by decide +kernel
theorem dX8_householdOf_124 : decode cX8_householdOf 124 = .ok (.aload_n 0, 1) := by decide +kernel
theorem dX8_householdOf_125 : decode cX8_householdOf 125 = .ok (.getfield 10, 3) := by decide +kernel
theorem dX8_householdOf_128 : decode cX8_householdOf 128 = .ok (.iload_n 1, 1) := by decide +kernel
theorem dX8_householdOf_129 : decode cX8_householdOf 129 = .ok (.invokevirtual 175, 3) := by decide +kernel
theorem dX8_householdOf_132 : decode cX8_householdOf 132 = .ok (.ireturn, 1) := by decide +kernel
theorem dX8_householdOf_133 : decode cX8_householdOf 133 = .ok (.aload_n 0, 1) := by decide +kernel
theorem dX8_householdOf_134 : decode cX8_householdOf 134 = .ok (.getfield 10, 3) := by decide +kernel
theorem dX8_householdOf_137 : decode cX8_householdOf 137 = .ok (.getfield 69, 3) := by decide +kernel
theorem dX8_householdOf_140 : decode cX8_householdOf 140 = .ok (.getfield 178, 3) := by decide +kernel
theorem dX8_householdOf_143 : decode cX8_householdOf 143 = .ok (.iload_n 1, 1) := by decide +kernel
theorem dX8_householdOf_144 : decode cX8_householdOf 144 = .ok (.iaload, 1) := by decide +kernel
theorem dX8_householdOf_145 : decode cX8_householdOf 145 = .ok (.ireturn, 1) := by decide +kernel
theorem dX8_householdOf_146 : decode cX8_householdOf 146 = .ok (.aload_n 0, 1) := by decide +kernel
theorem dX8_householdOf_147 : decode cX8_householdOf 147 = .ok (.getfield 10, 3) := by decide +kernel
theorem dX8_householdOf_150 : decode cX8_householdOf 150 = .ok (.getfield 69, 3) := by decide +kernel
theorem dX8_householdOf_153 : decode cX8_householdOf 153 = .ok (.getfield 181, 3) := by decide +kernel
theorem dX8_householdOf_156 : decode cX8_householdOf 156 = .ok (.iload_n 1, 1) := by decide +kernel
theorem dX8_householdOf_157 : decode cX8_householdOf 157 = .ok (.iaload, 1) := by decide +kernel
theorem dX8_householdOf_158 : decode cX8_householdOf 158 = .ok (.ireturn, 1) := by decide +kernel
theorem dX8_householdOf_159 : decode cX8_householdOf 159 = .ok (.aload_n 0, 1) := by decide +kernel
theorem dX8_householdOf_160 : decode cX8_householdOf 160 = .ok (.getfield 10, 3) := by decide +kernel
theorem dX8_householdOf_163 : decode cX8_householdOf 163 = .ok (.getfield 69, 3) := by decide +kernel
theorem dX8_householdOf_166 : decode cX8_householdOf 166 = .ok (.getfield 184, 3) := by decide +kernel
theorem dX8_householdOf_169 : decode cX8_householdOf 169 = .ok (.iload_n 1, 1) := by decide +kernel
theorem dX8_householdOf_170 : decode cX8_householdOf 170 = .ok (.iaload, 1) := by decide +kernel
theorem dX8_householdOf_171 : decode cX8_householdOf 171 = .ok (.ireturn, 1) := by decide +kernel
theorem dX8_householdOf_172 : decode cX8_householdOf 172 = .ok (.aload_n 0, 1) := by decide +kernel
theorem dX8_householdOf_173 : decode cX8_householdOf 173 = .ok (.getfield 10, 3) := by decide +kernel
theorem dX8_householdOf_176 : decode cX8_householdOf 176 = .ok (.getfield 187, 3) := by decide +kernel
theorem dX8_householdOf_179 : decode cX8_householdOf 179 = .ok (.iload_n 1, 1) := by decide +kernel
theorem dX8_householdOf_180 : decode cX8_householdOf 180 = .ok (.invokevirtual 191, 3) := by decide +kernel
theorem dX8_householdOf_183 : decode cX8_householdOf 183 = .ok (.ireturn, 1) := by decide +kernel
theorem dX8_householdOf_184 : decode cX8_householdOf 184 = .ok (.new 196, 3) := by decide +kernel
theorem dX8_householdOf_187 : decode cX8_householdOf 187 = .ok (.dup, 1) := by decide +kernel
theorem dX8_householdOf_188 : decode cX8_householdOf 188 = .ok (.ldc 198, 2) := by decide +kernel
theorem dX8_householdOf_190 : decode cX8_householdOf 190 = .ok (.invokespecial 200, 3) := by decide +kernel
theorem dX8_householdOf_193 : decode cX8_householdOf 193 = .ok (.athrow, 1) := by decide +kernel
set_option maxRecDepth 20000 in
theorem ggX8_at_X4_hasPlace : GoodIn wsX8_at wsX4_hasPlace := goodIn_r _ [7, 8, 25, 26] (by decide +kernel) (by decide +kernel)
set_option maxRecDepth 20000 in
theorem gX8_at_X4_hasPlace_n201 : GoodIn wsX8_at (wsX4_hasPlace) := ggX8_at_X4_hasPlace
theorem dX8_at_0 : decode cX8_at 0 = .ok (.aload_n 0, 1) := by decide +kernel
theorem dX8_at_1 : decode cX8_at 1 = .ok (.getfield 10, 3) := by decide +kernel
theorem dX8_at_4 : decode cX8_at 4 = .ok (.getfield 187, 3) := by decide +kernel
theorem dX8_at_7 : decode cX8_at 7 = .ok (.iload_n 1, 1) := by decide +kernel
theorem dX8_at_8 : decode cX8_at 8 = .ok (.invokevirtual 201, 3) := by decide +kernel
theorem dX8_at_11 : decode cX8_at 11 = .ok (.ifCond .ne 13, 3) := by decide +kernel
theorem dX8_at_14 : decode cX8_at 14 = .ok (.new 157, 3) := by decide +kernel
theorem dX8_at_17 : decode cX8_at 17 = .ok (.dup, 1) := by decide +kernel
theorem dX8_at_18 : decode cX8_at 18 = .ok (.ldc 204, 2) := by decide +kernel
theorem dX8_at_20 : decode cX8_at 20 = .ok (.invokespecial 161, 3) := by decide +kernel
theorem dX8_at_23 : decode cX8_at 23 = .ok (.athrow, 1) := by decide +kernel
theorem dX8_at_24 : decode cX8_at 24 = .ok (.aload_n 0, 1) := by decide +kernel
theorem dX8_at_25 : decode cX8_at 25 = .ok (.getfield 10, 3) := by decide +kernel
theorem dX8_at_28 : decode cX8_at 28 = .ok (.getfield 187, 3) := by decide +kernel
theorem dX8_at_31 : decode cX8_at 31 = .ok (.getfield 206, 3) := by decide +kernel
theorem dX8_at_34 : decode cX8_at 34 = .ok (.iload_n 1, 1) := by decide +kernel
theorem dX8_at_35 : decode cX8_at 35 = .ok (.iaload, 1) := by decide +kernel
theorem dX8_at_36 : decode cX8_at 36 = .ok (.ireturn, 1) := by decide +kernel
set_option maxRecDepth 20000 in
theorem ggX8_neighbours_X2_has : GoodIn wsX8_neighbours wsX2_has := goodIn_r _ [7, 8, 37, 38, 39, 40, 41, 42, 43, 44, 45] (by decide +kernel) (by decide +kernel)
set_option maxRecDepth 20000 in
theorem gX8_neighbours_X2_has_n153 : GoodIn wsX8_neighbours (wsX2_has) := ggX8_neighbours_X2_has
set_option maxRecDepth 20000 in
theorem ggX8_neighbours_X2_neighbourSet : GoodIn wsX8_neighbours wsX2_neighbourSet := goodIn_ca (goodIn_r _ [11, 8, 12, 13, 14, 5, 15, 16, 17, 18, 19, 20, 37, 38, 39, 40, 41, 42, 43, 44, 45] (by decide +kernel) (by decide +kernel)) (goodIn_sub (fun _ h => List.mem_cons_of_mem _ (List.mem_append_right _ h)) (by decide +kernel))
set_option maxRecDepth 20000 in
theorem gX8_neighbours_X2_neighbourSet_n209 : GoodIn wsX8_neighbours (wsX2_neighbourSet) := ggX8_neighbours_X2_neighbourSet
theorem dX8_neighbours_0 : decode cX8_neighbours 0 = .ok (.aload_n 0, 1) := by decide +kernel
theorem dX8_neighbours_1 : decode cX8_neighbours 1 = .ok (.getfield 10, 3) := by decide +kernel
theorem dX8_neighbours_4 : decode cX8_neighbours 4 = .ok (.getfield 69, 3) := by decide +kernel
theorem dX8_neighbours_7 : decode cX8_neighbours 7 = .ok (.iload_n 1, 1) := by decide +kernel
theorem dX8_neighbours_8 : decode cX8_neighbours 8 = .ok (.invokevirtual 153, 3) := by decide +kernel
theorem dX8_neighbours_11 : decode cX8_neighbours 11 = .ok (.ifCond .ne 13, 3) := by decide +kernel
theorem dX8_neighbours_14 : decode cX8_neighbours 14 = .ok (.new 157, 3) := by decide +kernel
theorem dX8_neighbours_17 : decode cX8_neighbours 17 = .ok (.dup, 1) := by decide +kernel
theorem dX8_neighbours_18 : decode cX8_neighbours 18 = .ok (.ldc 159, 2) := by decide +kernel
theorem dX8_neighbours_20 : decode cX8_neighbours 20 = .ok (.invokespecial 161, 3) := by decide +kernel
theorem dX8_neighbours_23 : decode cX8_neighbours 23 = .ok (.athrow, 1) := by decide +kernel
theorem dX8_neighbours_24 : decode cX8_neighbours 24 = .ok (.aload_n 0, 1) := by decide +kernel
theorem dX8_neighbours_25 : decode cX8_neighbours 25 = .ok (.getfield 10, 3) := by decide +kernel
theorem dX8_neighbours_28 : decode cX8_neighbours 28 = .ok (.getfield 69, 3) := by decide +kernel
theorem dX8_neighbours_31 : decode cX8_neighbours 31 = .ok (.iload_n 1, 1) := by decide +kernel
theorem dX8_neighbours_32 : decode cX8_neighbours 32 = .ok (.invokevirtual 209, 3) := by decide +kernel
theorem dX8_neighbours_35 : decode cX8_neighbours 35 = .ok (.ireturn, 1) := by decide +kernel
set_option maxRecDepth 20000 in
theorem ggX8_quarrels_X2_has : GoodIn wsX8_quarrels wsX2_has := goodIn_r _ [7, 8, 25, 26, 27, 28, 29, 30, 31, 32, 33] (by decide +kernel) (by decide +kernel)
set_option maxRecDepth 20000 in
theorem gX8_quarrels_X2_has_n153 : GoodIn wsX8_quarrels (wsX2_has) := ggX8_quarrels_X2_has
theorem dX8_quarrels_0 : decode cX8_quarrels 0 = .ok (.aload_n 0, 1) := by decide +kernel
theorem dX8_quarrels_1 : decode cX8_quarrels 1 = .ok (.getfield 10, 3) := by decide +kernel
theorem dX8_quarrels_4 : decode cX8_quarrels 4 = .ok (.getfield 69, 3) := by decide +kernel
theorem dX8_quarrels_7 : decode cX8_quarrels 7 = .ok (.iload_n 1, 1) := by decide +kernel
theorem dX8_quarrels_8 : decode cX8_quarrels 8 = .ok (.invokevirtual 153, 3) := by decide +kernel
theorem dX8_quarrels_11 : decode cX8_quarrels 11 = .ok (.ifCond .eq 17, 3) := by decide +kernel
theorem dX8_quarrels_14 : decode cX8_quarrels 14 = .ok (.aload_n 0, 1) := by decide +kernel
theorem dX8_quarrels_15 : decode cX8_quarrels 15 = .ok (.getfield 10, 3) := by decide +kernel
theorem dX8_quarrels_18 : decode cX8_quarrels 18 = .ok (.getfield 69, 3) := by decide +kernel
theorem dX8_quarrels_21 : decode cX8_quarrels 21 = .ok (.iload_n 2, 1) := by decide +kernel
theorem dX8_quarrels_22 : decode cX8_quarrels 22 = .ok (.invokevirtual 153, 3) := by decide +kernel
theorem dX8_quarrels_25 : decode cX8_quarrels 25 = .ok (.ifCond .ne 13, 3) := by decide +kernel
theorem dX8_quarrels_28 : decode cX8_quarrels 28 = .ok (.new 157, 3) := by decide +kernel
theorem dX8_quarrels_31 : decode cX8_quarrels 31 = .ok (.dup, 1) := by decide +kernel
theorem dX8_quarrels_32 : decode cX8_quarrels 32 = .ok (.ldc 159, 2) := by decide +kernel
theorem dX8_quarrels_34 : decode cX8_quarrels 34 = .ok (.invokespecial 161, 3) := by decide +kernel
theorem dX8_quarrels_37 : decode cX8_quarrels 37 = .ok (.athrow, 1) := by decide +kernel
theorem dX8_quarrels_38 : decode cX8_quarrels 38 = .ok (.aload_n 0, 1) := by decide +kernel
theorem dX8_quarrels_39 : decode cX8_quarrels 39 = .ok (.getfield 10, 3) := by decide +kernel
theorem dX8_quarrels_42 : decode cX8_quarrels 42 = .ok (.getfield 69, 3) := by decide +kernel
theorem dX8_quarrels_45 : decode cX8_quarrels 45 = .ok (.getfield 212, 3) := by decide +kernel
theorem dX8_quarrels_48 : decode cX8_quarrels 48 = .ok (.iload_n 1, 1) := by decide +kernel
theorem dX8_quarrels_49 : decode cX8_quarrels 49 = .ok (.aaload, 1) := by decide +kernel
theorem dX8_quarrels_50 : decode cX8_quarrels 50 = .ok (.iload_n 2, 1) := by decide +kernel
theorem dX8_quarrels_51 : decode cX8_quarrels 51 = .ok (.iaload, 1) := by decide +kernel
theorem dX8_quarrels_52 : decode cX8_quarrels 52 = .ok (.ireturn, 1) := by decide +kernel
set_option maxRecDepth 20000 in
theorem ggX8_wouldWin_X2_has : GoodIn wsX8_wouldWin wsX2_has := goodIn_r _ [9, 10, 39, 40, 41, 42, 43, 44, 45, 46, 47] (by decide +kernel) (by decide +kernel)
set_option maxRecDepth 20000 in
theorem gX8_wouldWin_X2_has_n153 : GoodIn wsX8_wouldWin (wsX2_has) := ggX8_wouldWin_X2_has
set_option maxRecDepth 20000 in
theorem ggX8_wouldWin_X2_winnerOf : GoodIn wsX8_wouldWin wsX2_winnerOf := goodIn_ca (goodIn_r _ [13, 10, 14, 15, 16, 7, 17, 18, 19, 20, 21, 22, 39, 40, 41, 42, 43, 44, 45, 46, 47] (by decide +kernel) (by decide +kernel)) (goodIn_sub (fun _ h => List.mem_cons_of_mem _ (List.mem_append_right _ h)) (by decide +kernel))
set_option maxRecDepth 20000 in
theorem gX8_wouldWin_X2_winnerOf_n218 : GoodIn wsX8_wouldWin (wsX2_winnerOf) := ggX8_wouldWin_X2_winnerOf
theorem dX8_wouldWin_0 : decode cX8_wouldWin 0 = .ok (.aload_n 0, 1) := by decide +kernel
theorem dX8_wouldWin_1 : decode cX8_wouldWin 1 = .ok (.getfield 10, 3) := by decide +kernel
theorem dX8_wouldWin_4 : decode cX8_wouldWin 4 = .ok (.getfield 69, 3) := by decide +kernel
theorem dX8_wouldWin_7 : decode cX8_wouldWin 7 = .ok (.iload_n 1, 1) := by decide +kernel
theorem dX8_wouldWin_8 : decode cX8_wouldWin 8 = .ok (.invokevirtual 153, 3) := by decide +kernel
theorem dX8_wouldWin_11 : decode cX8_wouldWin 11 = .ok (.ifCond .eq 17, 3) := by decide +kernel
theorem dX8_wouldWin_14 : decode cX8_wouldWin 14 = .ok (.aload_n 0, 1) := by decide +kernel
theorem dX8_wouldWin_15 : decode cX8_wouldWin 15 = .ok (.getfield 10, 3) := by decide +kernel
theorem dX8_wouldWin_18 : decode cX8_wouldWin 18 = .ok (.getfield 69, 3) := by decide +kernel
theorem dX8_wouldWin_21 : decode cX8_wouldWin 21 = .ok (.iload_n 2, 1) := by decide +kernel
theorem dX8_wouldWin_22 : decode cX8_wouldWin 22 = .ok (.invokevirtual 153, 3) := by decide +kernel
theorem dX8_wouldWin_25 : decode cX8_wouldWin 25 = .ok (.ifCond .ne 13, 3) := by decide +kernel
theorem dX8_wouldWin_28 : decode cX8_wouldWin 28 = .ok (.new 157, 3) := by decide +kernel
theorem dX8_wouldWin_31 : decode cX8_wouldWin 31 = .ok (.dup, 1) := by decide +kernel
theorem dX8_wouldWin_32 : decode cX8_wouldWin 32 = .ok (.ldc 159, 2) := by decide +kernel
theorem dX8_wouldWin_34 : decode cX8_wouldWin 34 = .ok (.invokespecial 161, 3) := by decide +kernel
theorem dX8_wouldWin_37 : decode cX8_wouldWin 37 = .ok (.athrow, 1) := by decide +kernel
theorem dX8_wouldWin_38 : decode cX8_wouldWin 38 = .ok (.iload_n 1, 1) := by decide +kernel
theorem dX8_wouldWin_39 : decode cX8_wouldWin 39 = .ok (.iload_n 2, 1) := by decide +kernel
theorem dX8_wouldWin_40 : decode cX8_wouldWin 40 = .ok (.if_icmp .ne 13, 3) := by decide +kernel
theorem dX8_wouldWin_43 : decode cX8_wouldWin 43 = .ok (.new 196, 3) := by decide +kernel
theorem dX8_wouldWin_46 : decode cX8_wouldWin 46 = .ok (.dup, 1) := by decide +kernel
theorem dX8_wouldWin_47 : decode cX8_wouldWin 47 = .ok (.ldc 216, 2) := by decide +kernel
theorem dX8_wouldWin_49 : decode cX8_wouldWin 49 = .ok (.invokespecial 200, 3) := by decide +kernel
theorem dX8_wouldWin_52 : decode cX8_wouldWin 52 = .ok (.athrow, 1) := by decide +kernel
theorem dX8_wouldWin_53 : decode cX8_wouldWin 53 = .ok (.aload_n 0, 1) := by decide +kernel
theorem dX8_wouldWin_54 : decode cX8_wouldWin 54 = .ok (.getfield 10, 3) := by decide +kernel
theorem dX8_wouldWin_57 : decode cX8_wouldWin 57 = .ok (.getfield 69, 3) := by decide +kernel
theorem dX8_wouldWin_60 : decode cX8_wouldWin 60 = .ok (.iload_n 1, 1) := by decide +kernel
theorem dX8_wouldWin_61 : decode cX8_wouldWin 61 = .ok (.iload_n 2, 1) := by decide +kernel
theorem dX8_wouldWin_62 : decode cX8_wouldWin 62 = .ok (.invokevirtual 218, 3) := by decide +kernel
theorem dX8_wouldWin_65 : decode cX8_wouldWin 65 = .ok (.ireturn, 1) := by decide +kernel
set_option maxRecDepth 20000 in
theorem ggX8_turnsBy_X2_has : GoodIn wsX8_turnsBy wsX2_has := goodIn_r _ [9, 10, 36, 37, 38, 39, 40, 41, 42, 43, 44] (by decide +kernel) (by decide +kernel)
set_option maxRecDepth 20000 in
theorem gX8_turnsBy_X2_has_n153 : GoodIn wsX8_turnsBy (wsX2_has) := ggX8_turnsBy_X2_has
set_option maxRecDepth 20000 in
theorem ggX8_turnsBy_X8_isWithin : GoodIn wsX8_turnsBy wsX8_isWithin := goodIn_r _ [14] (by decide +kernel) (by decide +kernel)
set_option maxRecDepth 20000 in
theorem gX8_turnsBy_X8_isWithin : GoodIn wsX8_turnsBy (va_wsS RX8 222 yX8_isWithin wsX8_isWithin) := goodIn_app (goodIn_of _ (by decide +kernel)) ggX8_turnsBy_X8_isWithin
set_option maxRecDepth 20000 in
theorem ggX8_turnsBy_X2_lawfulTurns : GoodIn wsX8_turnsBy wsX2_lawfulTurns := goodIn_ca (goodIn_r _ [17, 18, 19, 36, 37, 38, 39, 40, 41, 42, 43, 44] (by decide +kernel) (by decide +kernel)) (goodIn_sub (fun _ h => List.mem_cons_of_mem _ (List.mem_append_right _ h)) (by decide +kernel))
set_option maxRecDepth 20000 in
theorem gX8_turnsBy_X2_lawfulTurns_n228 : GoodIn wsX8_turnsBy (wsX2_lawfulTurns) := ggX8_turnsBy_X2_lawfulTurns
theorem dX8_turnsBy_0 : decode cX8_turnsBy 0 = .ok (.aload_n 0, 1) := by decide +kernel
theorem dX8_turnsBy_1 : decode cX8_turnsBy 1 = .ok (.getfield 10, 3) := by decide +kernel
theorem dX8_turnsBy_4 : decode cX8_turnsBy 4 = .ok (.getfield 69, 3) := by decide +kernel
theorem dX8_turnsBy_7 : decode cX8_turnsBy 7 = .ok (.iload_n 1, 1) := by decide +kernel
theorem dX8_turnsBy_8 : decode cX8_turnsBy 8 = .ok (.invokevirtual 153, 3) := by decide +kernel
theorem dX8_turnsBy_11 : decode cX8_turnsBy 11 = .ok (.ifCond .ne 13, 3) := by decide +kernel
theorem dX8_turnsBy_14 : decode cX8_turnsBy 14 = .ok (.new 157, 3) := by decide +kernel
theorem dX8_turnsBy_17 : decode cX8_turnsBy 17 = .ok (.dup, 1) := by decide +kernel
theorem dX8_turnsBy_18 : decode cX8_turnsBy 18 = .ok (.ldc 159, 2) := by decide +kernel
theorem dX8_turnsBy_20 : decode cX8_turnsBy 20 = .ok (.invokespecial 161, 3) := by decide +kernel
theorem dX8_turnsBy_23 : decode cX8_turnsBy 23 = .ok (.athrow, 1) := by decide +kernel
theorem dX8_turnsBy_24 : decode cX8_turnsBy 24 = .ok (.iload_n 2, 1) := by decide +kernel
theorem dX8_turnsBy_25 : decode cX8_turnsBy 25 = .ok (.iconst 0, 1) := by decide +kernel
theorem dX8_turnsBy_26 : decode cX8_turnsBy 26 = .ok (.iconst 3, 1) := by decide +kernel
theorem dX8_turnsBy_27 : decode cX8_turnsBy 27 = .ok (.invokestatic 222, 3) := by decide +kernel
theorem dX8_turnsBy_30 : decode cX8_turnsBy 30 = .ok (.ifCond .ne 13, 3) := by decide +kernel
theorem dX8_turnsBy_33 : decode cX8_turnsBy 33 = .ok (.new 196, 3) := by decide +kernel
theorem dX8_turnsBy_36 : decode cX8_turnsBy 36 = .ok (.dup, 1) := by decide +kernel
theorem dX8_turnsBy_37 : decode cX8_turnsBy 37 = .ok (.ldc 226, 2) := by decide +kernel
theorem dX8_turnsBy_39 : decode cX8_turnsBy 39 = .ok (.invokespecial 200, 3) := by decide +kernel
theorem dX8_turnsBy_42 : decode cX8_turnsBy 42 = .ok (.athrow, 1) := by decide +kernel
theorem dX8_turnsBy_43 : decode cX8_turnsBy 43 = .ok (.aload_n 0, 1) := by decide +kernel
theorem dX8_turnsBy_44 : decode cX8_turnsBy 44 = .ok (.getfield 10, 3) := by decide +kernel
theorem dX8_turnsBy_47 : decode cX8_turnsBy 47 = .ok (.getfield 69, 3) := by decide +kernel
theorem dX8_turnsBy_50 : decode cX8_turnsBy 50 = .ok (.iload_n 1, 1) := by decide +kernel
theorem dX8_turnsBy_51 : decode cX8_turnsBy 51 = .ok (.iload_n 2, 1) := by decide +kernel
theorem dX8_turnsBy_52 : decode cX8_turnsBy 52 = .ok (.invokevirtual 228, 3) := by decide +kernel
theorem dX8_turnsBy_55 : decode cX8_turnsBy 55 = .ok (.ireturn, 1) := by decide +kernel
set_option maxRecDepth 20000 in
theorem ggX8_isFor_X2_has : GoodIn wsX8_isFor wsX2_has := goodIn_r _ [7, 8, 34, 35, 36, 37, 38, 39, 40, 41, 42] (by decide +kernel) (by decide +kernel)
set_option maxRecDepth 20000 in
theorem gX8_isFor_X2_has_n153 : GoodIn wsX8_isFor (wsX2_has) := ggX8_isFor_X2_has
set_option maxRecDepth 20000 in
theorem ggX8_isFor_X2_favouriteLaw : GoodIn wsX8_isFor wsX2_favouriteLaw := goodIn_ca (goodIn_r _ [11, 12, 13, 14, 5, 15, 16, 17, 34, 35, 36, 37, 38, 39, 40, 41, 42] (by decide +kernel) (by decide +kernel)) (goodIn_sub (fun _ h => List.mem_cons_of_mem _ (List.mem_append_right _ h)) (by decide +kernel))
set_option maxRecDepth 20000 in
theorem gX8_isFor_X2_favouriteLaw_n231 : GoodIn wsX8_isFor (wsX2_favouriteLaw) := ggX8_isFor_X2_favouriteLaw
theorem dX8_isFor_0 : decode cX8_isFor 0 = .ok (.aload_n 0, 1) := by decide +kernel
theorem dX8_isFor_1 : decode cX8_isFor 1 = .ok (.getfield 10, 3) := by decide +kernel
theorem dX8_isFor_4 : decode cX8_isFor 4 = .ok (.getfield 69, 3) := by decide +kernel
theorem dX8_isFor_7 : decode cX8_isFor 7 = .ok (.iload_n 1, 1) := by decide +kernel
theorem dX8_isFor_8 : decode cX8_isFor 8 = .ok (.invokevirtual 153, 3) := by decide +kernel
theorem dX8_isFor_11 : decode cX8_isFor 11 = .ok (.ifCond .ne 13, 3) := by decide +kernel
theorem dX8_isFor_14 : decode cX8_isFor 14 = .ok (.new 157, 3) := by decide +kernel
theorem dX8_isFor_17 : decode cX8_isFor 17 = .ok (.dup, 1) := by decide +kernel
theorem dX8_isFor_18 : decode cX8_isFor 18 = .ok (.ldc 159, 2) := by decide +kernel
theorem dX8_isFor_20 : decode cX8_isFor 20 = .ok (.invokespecial 161, 3) := by decide +kernel
theorem dX8_isFor_23 : decode cX8_isFor 23 = .ok (.athrow, 1) := by decide +kernel
theorem dX8_isFor_24 : decode cX8_isFor 24 = .ok (.aload_n 0, 1) := by decide +kernel
theorem dX8_isFor_25 : decode cX8_isFor 25 = .ok (.getfield 10, 3) := by decide +kernel
theorem dX8_isFor_28 : decode cX8_isFor 28 = .ok (.getfield 69, 3) := by decide +kernel
theorem dX8_isFor_31 : decode cX8_isFor 31 = .ok (.iload_n 1, 1) := by decide +kernel
theorem dX8_isFor_32 : decode cX8_isFor 32 = .ok (.invokevirtual 231, 3) := by decide +kernel
theorem dX8_isFor_35 : decode cX8_isFor 35 = .ok (.ireturn, 1) := by decide +kernel
set_option maxRecDepth 20000 in
theorem ggX8_membersFor_X8_isWithin : GoodIn wsX8_membersFor wsX8_isWithin := goodIn_r _ [7] (by decide +kernel) (by decide +kernel)
set_option maxRecDepth 20000 in
theorem gX8_membersFor_X8_isWithin : GoodIn wsX8_membersFor (va_wsS RX8 222 yX8_isWithin wsX8_isWithin) := goodIn_app (goodIn_of _ (by decide +kernel)) ggX8_membersFor_X8_isWithin
set_option maxRecDepth 20000 in
theorem ggX8_membersFor_X2_membersBehind : GoodIn wsX8_membersFor wsX2_membersBehind := goodIn_ca (goodIn_r _ [11, 12, 13, 14, 15, 16, 9, 17, 18, 19, 20, 21, 22, 39, 40, 41, 42, 43, 44, 45, 46, 47] (by decide +kernel) (by decide +kernel)) (goodIn_sub (fun _ h => List.mem_cons_of_mem _ (List.mem_append_right _ h)) (by decide +kernel))
set_option maxRecDepth 20000 in
theorem gX8_membersFor_X2_membersBehind_n234 : GoodIn wsX8_membersFor (wsX2_membersBehind) := ggX8_membersFor_X2_membersBehind
theorem dX8_membersFor_0 : decode cX8_membersFor 0 = .ok (.iload_n 1, 1) := by decide +kernel
theorem dX8_membersFor_1 : decode cX8_membersFor 1 = .ok (.iconst 0, 1) := by decide +kernel
theorem dX8_membersFor_2 : decode cX8_membersFor 2 = .ok (.iconst 3, 1) := by decide +kernel
theorem dX8_membersFor_3 : decode cX8_membersFor 3 = .ok (.invokestatic 222, 3) := by decide +kernel
theorem dX8_membersFor_6 : decode cX8_membersFor 6 = .ok (.ifCond .ne 13, 3) := by decide +kernel
theorem dX8_membersFor_9 : decode cX8_membersFor 9 = .ok (.new 196, 3) := by decide +kernel
theorem dX8_membersFor_12 : decode cX8_membersFor 12 = .ok (.dup, 1) := by decide +kernel
theorem dX8_membersFor_13 : decode cX8_membersFor 13 = .ok (.ldc 226, 2) := by decide +kernel
theorem dX8_membersFor_15 : decode cX8_membersFor 15 = .ok (.invokespecial 200, 3) := by decide +kernel
theorem dX8_membersFor_18 : decode cX8_membersFor 18 = .ok (.athrow, 1) := by decide +kernel
theorem dX8_membersFor_19 : decode cX8_membersFor 19 = .ok (.aload_n 0, 1) := by decide +kernel
theorem dX8_membersFor_20 : decode cX8_membersFor 20 = .ok (.getfield 10, 3) := by decide +kernel
theorem dX8_membersFor_23 : decode cX8_membersFor 23 = .ok (.getfield 69, 3) := by decide +kernel
theorem dX8_membersFor_26 : decode cX8_membersFor 26 = .ok (.iload_n 1, 1) := by decide +kernel
theorem dX8_membersFor_27 : decode cX8_membersFor 27 = .ok (.invokevirtual 234, 3) := by decide +kernel
theorem dX8_membersFor_30 : decode cX8_membersFor 30 = .ok (.ireturn, 1) := by decide +kernel
set_option maxRecDepth 20000 in
theorem ggX8_turnIn_X2_has : GoodIn wsX8_turnIn wsX2_has := goodIn_r _ [9, 10, 33, 34, 35, 36, 37, 38, 39, 40, 41] (by decide +kernel) (by decide +kernel)
set_option maxRecDepth 20000 in
theorem gX8_turnIn_X2_has_n153 : GoodIn wsX8_turnIn (wsX2_has) := ggX8_turnIn_X2_has
set_option maxRecDepth 20000 in
theorem ggX8_turnIn_X4_placeOf : GoodIn wsX8_turnIn wsX4_placeOf := goodIn_ca (goodIn_r _ [14, 15, 16, 42, 43] (by decide +kernel) (by decide +kernel)) (goodIn_sub (fun _ h => List.mem_cons_of_mem _ (List.mem_append_right _ h)) (by decide +kernel))
set_option maxRecDepth 20000 in
theorem gX8_turnIn_X4_placeOf_n191 : GoodIn wsX8_turnIn (wsX4_placeOf) := ggX8_turnIn_X4_placeOf
theorem dX8_turnIn_0 : decode cX8_turnIn 0 = .ok (.aload_n 0, 1) := by decide +kernel
theorem dX8_turnIn_1 : decode cX8_turnIn 1 = .ok (.getfield 10, 3) := by decide +kernel
theorem dX8_turnIn_4 : decode cX8_turnIn 4 = .ok (.getfield 69, 3) := by decide +kernel
theorem dX8_turnIn_7 : decode cX8_turnIn 7 = .ok (.iload_n 1, 1) := by decide +kernel
theorem dX8_turnIn_8 : decode cX8_turnIn 8 = .ok (.invokevirtual 153, 3) := by decide +kernel
theorem dX8_turnIn_11 : decode cX8_turnIn 11 = .ok (.ifCond .ne 13, 3) := by decide +kernel
theorem dX8_turnIn_14 : decode cX8_turnIn 14 = .ok (.new 157, 3) := by decide +kernel
theorem dX8_turnIn_17 : decode cX8_turnIn 17 = .ok (.dup, 1) := by decide +kernel
theorem dX8_turnIn_18 : decode cX8_turnIn 18 = .ok (.ldc 159, 2) := by decide +kernel
theorem dX8_turnIn_20 : decode cX8_turnIn 20 = .ok (.invokespecial 161, 3) := by decide +kernel
theorem dX8_turnIn_23 : decode cX8_turnIn 23 = .ok (.athrow, 1) := by decide +kernel
theorem dX8_turnIn_24 : decode cX8_turnIn 24 = .ok (.aload_n 0, 1) := by decide +kernel
theorem dX8_turnIn_25 : decode cX8_turnIn 25 = .ok (.getfield 10, 3) := by decide +kernel
theorem dX8_turnIn_28 : decode cX8_turnIn 28 = .ok (.getfield 187, 3) := by decide +kernel
theorem dX8_turnIn_31 : decode cX8_turnIn 31 = .ok (.iload_n 1, 1) := by decide +kernel
theorem dX8_turnIn_32 : decode cX8_turnIn 32 = .ok (.invokevirtual 191, 3) := by decide +kernel
theorem dX8_turnIn_35 : decode cX8_turnIn 35 = .ok (.istore_n 2, 1) := by decide +kernel
theorem dX8_turnIn_36 : decode cX8_turnIn 36 = .ok (.iload_n 2, 1) := by decide +kernel
theorem dX8_turnIn_37 : decode cX8_turnIn 37 = .ok (.iconst (-1), 1) := by decide +kernel
theorem dX8_turnIn_38 : decode cX8_turnIn 38 = .ok (.if_icmp .ne 13, 3) := by decide +kernel
theorem dX8_turnIn_41 : decode cX8_turnIn 41 = .ok (.new 237, 3) := by decide +kernel
theorem dX8_turnIn_44 : decode cX8_turnIn 44 = .ok (.dup, 1) := by decide +kernel
theorem dX8_turnIn_45 : decode cX8_turnIn 45 = .ok (.ldc 239, 2) := by decide +kernel
theorem dX8_turnIn_47 : decode cX8_turnIn 47 = .ok (.invokespecial 241, 3) := by decide +kernel
theorem dX8_turnIn_50 : decode cX8_turnIn 50 = .ok (.athrow, 1) := by decide +kernel
theorem dX8_turnIn_51 : decode cX8_turnIn 51 = .ok (.iload_n 2, 1) := by decide +kernel
theorem dX8_turnIn_52 : decode cX8_turnIn 52 = .ok (.iconst 1, 1) := by decide +kernel
theorem dX8_turnIn_53 : decode cX8_turnIn 53 = .ok (.iadd, 1) := by decide +kernel
theorem dX8_turnIn_54 : decode cX8_turnIn 54 = .ok (.ireturn, 1) := by decide +kernel
set_option maxRecDepth 20000 in
theorem ggX8_possible_X6_drawsInQueue : GoodIn wsX8_possible wsX6_drawsInQueue := goodIn_ca (goodIn_r _ [5, 6, 7, 8, 9, 3, 10, 11, 12, 13, 14, 15, 16, 17, 18, 19, 20, 21, 22, 23, 24, 25, 26, 27, 37, 38, 39, 40, 41, 42, 43, 44, 45, 46, 47, 48, 49, 50, 51, 52, 53, 54, 55, 56, 57, 58, 59, 60, 61, 62] (by decide +kernel) (by decide +kernel)) (goodIn_sub (fun _ h => List.mem_cons_of_mem _ (List.mem_append_right _ h)) (by decide +kernel))
set_option maxRecDepth 20000 in
theorem gX8_possible_X6_drawsInQueue_n242 : GoodIn wsX8_possible (wsX6_drawsInQueue) := ggX8_possible_X6_drawsInQueue
theorem dX8_possible_0 : decode cX8_possible 0 = .ok (.aload_n 0, 1) := by decide +kernel
theorem dX8_possible_1 : decode cX8_possible 1 = .ok (.getfield 10, 3) := by decide +kernel
theorem dX8_possible_4 : decode cX8_possible 4 = .ok (.invokevirtual 242, 3) := by decide +kernel
theorem dX8_possible_7 : decode cX8_possible 7 = .ok (.ireturn, 1) := by decide +kernel
set_option maxRecDepth 20000 in
theorem ggX8_wouldBring_X8_isWithin : GoodIn wsX8_wouldBring wsX8_isWithin := goodIn_r _ [7] (by decide +kernel) (by decide +kernel)
set_option maxRecDepth 20000 in
theorem gX8_wouldBring_X8_isWithin : GoodIn wsX8_wouldBring (va_wsS RX8 222 yX8_isWithin wsX8_isWithin) := goodIn_app (goodIn_of _ (by decide +kernel)) ggX8_wouldBring_X8_isWithin
set_option maxRecDepth 20000 in
theorem ggX8_wouldBring_X7_waterOf : GoodIn wsX8_wouldBring wsX7_waterOf := goodIn_r _ [11, 12, 13, 14, 15, 16, 17, 18, 9, 19, 36, 37, 38, 39, 40, 41, 42, 43] (by decide +kernel) (by decide +kernel)
set_option maxRecDepth 20000 in
theorem gX8_wouldBring_X7_waterOf_n247 : GoodIn wsX8_wouldBring (wsX7_waterOf) := ggX8_wouldBring_X7_waterOf
theorem dX8_wouldBring_0 : decode cX8_wouldBring 0 = .ok (.iload_n 1, 1) := by decide +kernel
theorem dX8_wouldBring_1 : decode cX8_wouldBring 1 = .ok (.iconst 0, 1) := by decide +kernel
theorem dX8_wouldBring_2 : decode cX8_wouldBring 2 = .ok (.bipush 60, 2) := by decide +kernel
theorem dX8_wouldBring_4 : decode cX8_wouldBring 4 = .ok (.invokestatic 222, 3) := by decide +kernel
theorem dX8_wouldBring_7 : decode cX8_wouldBring 7 = .ok (.ifCond .ne 13, 3) := by decide +kernel
theorem dX8_wouldBring_10 : decode cX8_wouldBring 10 = .ok (.new 196, 3) := by decide +kernel
theorem dX8_wouldBring_13 : decode cX8_wouldBring 13 = .ok (.dup, 1) := by decide +kernel
theorem dX8_wouldBring_14 : decode cX8_wouldBring 14 = .ok (.ldc 245, 2) := by decide +kernel
theorem dX8_wouldBring_16 : decode cX8_wouldBring 16 = .ok (.invokespecial 200, 3) := by decide +kernel
theorem dX8_wouldBring_19 : decode cX8_wouldBring 19 = .ok (.athrow, 1) := by decide +kernel
theorem dX8_wouldBring_20 : decode cX8_wouldBring 20 = .ok (.aload_n 0, 1) := by decide +kernel
theorem dX8_wouldBring_21 : decode cX8_wouldBring 21 = .ok (.getfield 10, 3) := by decide +kernel
theorem dX8_wouldBring_24 : decode cX8_wouldBring 24 = .ok (.getfield 120, 3) := by decide +kernel
theorem dX8_wouldBring_27 : decode cX8_wouldBring 27 = .ok (.iload_n 1, 1) := by decide +kernel
theorem dX8_wouldBring_28 : decode cX8_wouldBring 28 = .ok (.invokevirtual 247, 3) := by decide +kernel
theorem dX8_wouldBring_31 : decode cX8_wouldBring 31 = .ok (.ireturn, 1) := by decide +kernel
set_option maxRecDepth 20000 in
theorem ggX8_wellIn_X8_isWithin : GoodIn wsX8_wellIn wsX8_isWithin := goodIn_r _ [7] (by decide +kernel) (by decide +kernel)
set_option maxRecDepth 20000 in
theorem gX8_wellIn_X8_isWithin : GoodIn wsX8_wellIn (va_wsS RX8 222 yX8_isWithin wsX8_isWithin) := goodIn_app (goodIn_of _ (by decide +kernel)) ggX8_wellIn_X8_isWithin
set_option maxRecDepth 20000 in
theorem ggX8_wellIn_X7_levelAfter : GoodIn wsX8_wellIn wsX7_levelAfter := goodIn_r _ [11, 12, 13, 14, 15, 9, 16, 17, 18, 19, 20, 21, 22, 23, 24, 41, 42, 43, 44, 45, 46, 47, 48] (by decide +kernel) (by decide +kernel)
set_option maxRecDepth 20000 in
theorem gX8_wellIn_X7_levelAfter_n252 : GoodIn wsX8_wellIn (wsX7_levelAfter) := ggX8_wellIn_X7_levelAfter
theorem dX8_wellIn_0 : decode cX8_wellIn 0 = .ok (.iload_n 1, 1) := by decide +kernel
theorem dX8_wellIn_1 : decode cX8_wellIn 1 = .ok (.iconst 0, 1) := by decide +kernel
theorem dX8_wellIn_2 : decode cX8_wellIn 2 = .ok (.bipush 100, 2) := by decide +kernel
theorem dX8_wellIn_4 : decode cX8_wellIn 4 = .ok (.invokestatic 222, 3) := by decide +kernel
theorem dX8_wellIn_7 : decode cX8_wellIn 7 = .ok (.ifCond .eq 14, 3) := by decide +kernel
theorem dX8_wellIn_10 : decode cX8_wellIn 10 = .ok (.iload_n 2, 1) := by decide +kernel
theorem dX8_wellIn_11 : decode cX8_wellIn 11 = .ok (.iconst 0, 1) := by decide +kernel
theorem dX8_wellIn_12 : decode cX8_wellIn 12 = .ok (.sipush 999, 3) := by decide +kernel
theorem dX8_wellIn_15 : decode cX8_wellIn 15 = .ok (.invokestatic 222, 3) := by decide +kernel
theorem dX8_wellIn_18 : decode cX8_wellIn 18 = .ok (.ifCond .ne 13, 3) := by decide +kernel
theorem dX8_wellIn_21 : decode cX8_wellIn 21 = .ok (.new 196, 3) := by decide +kernel
theorem dX8_wellIn_24 : decode cX8_wellIn 24 = .ok (.dup, 1) := by decide +kernel
theorem dX8_wellIn_25 : decode cX8_wellIn 25 = .ok (.ldc 250, 2) := by decide +kernel
theorem dX8_wellIn_27 : decode cX8_wellIn 27 = .ok (.invokespecial 200, 3) := by decide +kernel
theorem dX8_wellIn_30 : decode cX8_wellIn 30 = .ok (.athrow, 1) := by decide +kernel
theorem dX8_wellIn_31 : decode cX8_wellIn 31 = .ok (.aload_n 0, 1) := by decide +kernel
theorem dX8_wellIn_32 : decode cX8_wellIn 32 = .ok (.getfield 10, 3) := by decide +kernel
theorem dX8_wellIn_35 : decode cX8_wellIn 35 = .ok (.getfield 120, 3) := by decide +kernel
theorem dX8_wellIn_38 : decode cX8_wellIn 38 = .ok (.iload_n 1, 1) := by decide +kernel
theorem dX8_wellIn_39 : decode cX8_wellIn 39 = .ok (.iload_n 2, 1) := by decide +kernel
theorem dX8_wellIn_40 : decode cX8_wellIn 40 = .ok (.invokevirtual 252, 3) := by decide +kernel
theorem dX8_wellIn_43 : decode cX8_wellIn 43 = .ok (.ireturn, 1) := by decide +kernel
set_option maxRecDepth 20000 in
theorem ggX8_droughtIn_X8_isWithin : GoodIn wsX8_droughtIn wsX8_isWithin := goodIn_r _ [9] (by decide +kernel) (by decide +kernel)
set_option maxRecDepth 20000 in
theorem gX8_droughtIn_X8_isWithin : GoodIn wsX8_droughtIn (va_wsS RX8 222 yX8_isWithin wsX8_isWithin) := goodIn_app (goodIn_of _ (by decide +kernel)) ggX8_droughtIn_X8_isWithin
set_option maxRecDepth 20000 in
theorem ggX8_droughtIn_X7_nightsToDrought : GoodIn wsX8_droughtIn wsX7_nightsToDrought := goodIn_r _ [13, 14, 15, 16, 17, 18, 11, 19, 20, 21, 22, 23, 24, 25, 26, 27, 44, 45, 46, 47, 48, 49, 50, 51] (by decide +kernel) (by decide +kernel)
set_option maxRecDepth 20000 in
theorem gX8_droughtIn_X7_nightsToDrought_n257 : GoodIn wsX8_droughtIn (wsX7_nightsToDrought) := ggX8_droughtIn_X7_nightsToDrought
theorem dX8_droughtIn_0 : decode cX8_droughtIn 0 = .ok (.iload_n 1, 1) := by decide +kernel
theorem dX8_droughtIn_1 : decode cX8_droughtIn 1 = .ok (.iconst 0, 1) := by decide +kernel
theorem dX8_droughtIn_2 : decode cX8_droughtIn 2 = .ok (.sipush 999, 3) := by decide +kernel
theorem dX8_droughtIn_5 : decode cX8_droughtIn 5 = .ok (.invokestatic 222, 3) := by decide +kernel
theorem dX8_droughtIn_8 : decode cX8_droughtIn 8 = .ok (.ifCond .ne 13, 3) := by decide +kernel
theorem dX8_droughtIn_11 : decode cX8_droughtIn 11 = .ok (.new 196, 3) := by decide +kernel
theorem dX8_droughtIn_14 : decode cX8_droughtIn 14 = .ok (.dup, 1) := by decide +kernel
theorem dX8_droughtIn_15 : decode cX8_droughtIn 15 = .ok (.ldc 255, 2) := by decide +kernel
theorem dX8_droughtIn_17 : decode cX8_droughtIn 17 = .ok (.invokespecial 200, 3) := by decide +kernel
theorem dX8_droughtIn_20 : decode cX8_droughtIn 20 = .ok (.athrow, 1) := by decide +kernel
theorem dX8_droughtIn_21 : decode cX8_droughtIn 21 = .ok (.aload_n 0, 1) := by decide +kernel
theorem dX8_droughtIn_22 : decode cX8_droughtIn 22 = .ok (.getfield 10, 3) := by decide +kernel
theorem dX8_droughtIn_25 : decode cX8_droughtIn 25 = .ok (.getfield 120, 3) := by decide +kernel
theorem dX8_droughtIn_28 : decode cX8_droughtIn 28 = .ok (.iload_n 1, 1) := by decide +kernel
theorem dX8_droughtIn_29 : decode cX8_droughtIn 29 = .ok (.invokevirtual 257, 3) := by decide +kernel
theorem dX8_droughtIn_32 : decode cX8_droughtIn 32 = .ok (.istore_n 2, 1) := by decide +kernel
theorem dX8_droughtIn_33 : decode cX8_droughtIn 33 = .ok (.iload_n 2, 1) := by decide +kernel
theorem dX8_droughtIn_34 : decode cX8_droughtIn 34 = .ok (.iconst (-1), 1) := by decide +kernel
theorem dX8_droughtIn_35 : decode cX8_droughtIn 35 = .ok (.if_icmp .ne 14, 3) := by decide +kernel
theorem dX8_droughtIn_38 : decode cX8_droughtIn 38 = .ok (.new 237, 3) := by decide +kernel
theorem dX8_droughtIn_41 : decode cX8_droughtIn 41 = .ok (.dup, 1) := by decide +kernel
theorem dX8_droughtIn_42 : decode cX8_droughtIn 42 = .ok (.ldc_w 260, 3) := by decide +kernel
theorem dX8_droughtIn_45 : decode cX8_droughtIn 45 = .ok (.invokespecial 241, 3) := by decide +kernel
theorem dX8_droughtIn_48 : decode cX8_droughtIn 48 = .ok (.athrow, 1) := by decide +kernel
theorem dX8_droughtIn_49 : decode cX8_droughtIn 49 = .ok (.iload_n 2, 1) := by decide +kernel
theorem dX8_droughtIn_50 : decode cX8_droughtIn 50 = .ok (.ireturn, 1) := by decide +kernel
theorem dX8_water_0 : decode cX8_water 0 = .ok (.aload_n 0, 1) := by decide +kernel
theorem dX8_water_1 : decode cX8_water 1 = .ok (.getfield 10, 3) := by decide +kernel
theorem dX8_water_4 : decode cX8_water 4 = .ok (.getfield 120, 3) := by decide +kernel
theorem dX8_water_7 : decode cX8_water 7 = .ok (.getfield 262, 3) := by decide +kernel
theorem dX8_water_10 : decode cX8_water 10 = .ok (.aload_n 0, 1) := by decide +kernel
theorem dX8_water_11 : decode cX8_water 11 = .ok (.getfield 10, 3) := by decide +kernel
theorem dX8_water_14 : decode cX8_water 14 = .ok (.getfield 120, 3) := by decide +kernel
theorem dX8_water_17 : decode cX8_water 17 = .ok (.getfield 265, 3) := by decide +kernel
theorem dX8_water_20 : decode cX8_water 20 = .ok (.iadd, 1) := by decide +kernel
theorem dX8_water_21 : decode cX8_water 21 = .ok (.aload_n 0, 1) := by decide +kernel
theorem dX8_water_22 : decode cX8_water 22 = .ok (.getfield 10, 3) := by decide +kernel
theorem dX8_water_25 : decode cX8_water 25 = .ok (.getfield 120, 3) := by decide +kernel
theorem dX8_water_28 : decode cX8_water 28 = .ok (.getfield 268, 3) := by decide +kernel
theorem dX8_water_31 : decode cX8_water 31 = .ok (.iadd, 1) := by decide +kernel
theorem dX8_water_32 : decode cX8_water 32 = .ok (.ireturn, 1) := by decide +kernel
theorem dX8_waterAgain_0 : decode cX8_waterAgain 0 = .ok (.sipush 500, 3) := by decide +kernel
theorem dX8_waterAgain_3 : decode cX8_waterAgain 3 = .ok (.aload_n 0, 1) := by decide +kernel
theorem dX8_waterAgain_4 : decode cX8_waterAgain 4 = .ok (.getfield 10, 3) := by decide +kernel
theorem dX8_waterAgain_7 : decode cX8_waterAgain 7 = .ok (.getfield 120, 3) := by decide +kernel
theorem dX8_waterAgain_10 : decode cX8_waterAgain 10 = .ok (.getfield 271, 3) := by decide +kernel
theorem dX8_waterAgain_13 : decode cX8_waterAgain 13 = .ok (.iadd, 1) := by decide +kernel
theorem dX8_waterAgain_14 : decode cX8_waterAgain 14 = .ok (.ireturn, 1) := by decide +kernel
set_option maxRecDepth 20000 in
theorem ggX8_append_X0_isFull : GoodIn wsX8_append wsX0_isFull := goodIn_r _ [7, 8, 23, 24, 25, 26, 27] (by decide +kernel) (by decide +kernel)
set_option maxRecDepth 20000 in
theorem gX8_append_X0_isFull_n274 : GoodIn wsX8_append (wsX0_isFull) := ggX8_append_X0_isFull
set_option maxRecDepth 20000 in
theorem ggX8_append_X0_add : GoodIn wsX8_append wsX0_add := goodIn_ca (goodIn_r _ [11, 12, 8, 13, 4, 6, 5, 7, 23, 24, 25, 26, 27] (by decide +kernel) (by decide +kernel)) (goodIn_sub (fun _ h => List.mem_cons_of_mem _ (List.mem_append_right _ h)) (by decide +kernel))
set_option maxRecDepth 20000 in
theorem gX8_append_X0_add_n283 : GoodIn wsX8_append (wsX0_add) := ggX8_append_X0_add
theorem dX8_append_0 : decode cX8_append 0 = .ok (.aload_n 0, 1) := by decide +kernel
theorem dX8_append_1 : decode cX8_append 1 = .ok (.getfield 39, 3) := by decide +kernel
theorem dX8_append_4 : decode cX8_append 4 = .ok (.invokevirtual 274, 3) := by decide +kernel
theorem dX8_append_7 : decode cX8_append 7 = .ok (.ifCond .eq 14, 3) := by decide +kernel
theorem dX8_append_10 : decode cX8_append 10 = .ok (.new 278, 3) := by decide +kernel
theorem dX8_append_13 : decode cX8_append 13 = .ok (.dup, 1) := by decide +kernel
theorem dX8_append_14 : decode cX8_append 14 = .ok (.ldc_w 280, 3) := by decide +kernel
theorem dX8_append_17 : decode cX8_append 17 = .ok (.invokespecial 282, 3) := by decide +kernel
theorem dX8_append_20 : decode cX8_append 20 = .ok (.athrow, 1) := by decide +kernel
theorem dX8_append_21 : decode cX8_append 21 = .ok (.aload_n 0, 1) := by decide +kernel
theorem dX8_append_22 : decode cX8_append 22 = .ok (.getfield 39, 3) := by decide +kernel
theorem dX8_append_25 : decode cX8_append 25 = .ok (.iload_n 1, 1) := by decide +kernel
theorem dX8_append_26 : decode cX8_append 26 = .ok (.invokevirtual 283, 3) := by decide +kernel
theorem dX8_append_29 : decode cX8_append 29 = .ok (.aload_n 0, 1) := by decide +kernel
theorem dX8_append_30 : decode cX8_append 30 = .ok (.getfield 39, 3) := by decide +kernel
theorem dX8_append_33 : decode cX8_append 33 = .ok (.getfield 287, 3) := by decide +kernel
theorem dX8_append_36 : decode cX8_append 36 = .ok (.ireturn, 1) := by decide +kernel
set_option maxRecDepth 20000 in
theorem ggX8_commands_X0_read : GoodIn wsX8_commands wsX0_read := goodIn_ca (goodIn_r _ [14, 15, 16, 17, 18, 19, 12, 20, 21, 22, 23, 24, 25, 26, 27, 28, 29, 30, 31, 32, 266, 267, 268, 269, 270] (by decide +kernel) (by decide +kernel)) (goodIn_sub (fun _ h => List.mem_cons_of_mem _ (List.mem_append_left _ (List.mem_append_right _ h))) (by decide +kernel))
set_option maxRecDepth 20000 in
theorem gX8_commands_X0_read_n290 : GoodIn wsX8_commands (wsX0_read) := ggX8_commands_X0_read
set_option maxRecDepth 20000 in
theorem ggX8_commands_X0_empty : GoodIn wsX8_commands wsX0_empty := goodIn_r _ [35, 16, 266, 267, 268, 269, 270] (by decide +kernel) (by decide +kernel)
set_option maxRecDepth 20000 in
theorem gX8_commands_X0_empty_n293 : GoodIn wsX8_commands (wsX0_empty) := ggX8_commands_X0_empty
set_option maxRecDepth 20000 in
theorem ggX8_commands_X6_copyFrom : GoodIn wsX8_commands wsX6_copyFrom := goodIn_ca (goodIn_r _ [39, 40, 41, 42, 43, 44, 45, 46, 47, 48, 49, 50, 51, 52, 53, 54, 55, 56, 57, 58, 59, 60, 61, 62, 63, 64, 65, 66, 67, 68, 69, 70, 71, 72, 73, 74, 75, 76, 77, 78, 79, 80, 81, 82, 83, 84, 85, 86, 87, 88, 89, 90, 91, 92, 93, 275, 276, 277, 278, 279, 280, 281, 282, 283, 284, 285, 286, 287, 288, 289, 290, 291, 292, 293, 294, 295, 296, 297, 298, 299, 300, 301, 302, 303, 304, 305, 306] (by decide +kernel) (by decide +kernel)) (goodIn_sub (fun _ h => List.mem_cons_of_mem _ (List.mem_append_left _ (List.mem_append_right _ h))) (by decide +kernel))
set_option maxRecDepth 20000 in
theorem gX8_commands_X6_copyFrom_n298 : GoodIn wsX8_commands (wsX6_copyFrom) := ggX8_commands_X6_copyFrom
set_option maxRecDepth 20000 in
theorem ggX8_commands_X8_carryOut : GoodIn wsX8_commands wsX8_carryOut := goodIn_ca (goodIn_r _ [98, 8, 9, 99, 37, 100, 101, 40, 41, 102, 48, 103, 104, 51, 105, 106, 107, 108, 109, 110, 111, 112, 113, 65, 114, 115, 68, 69, 116, 117, 118, 119, 120, 121, 122, 123, 124, 125, 126, 127, 45, 42, 128, 129, 130, 53, 55, 131, 132, 133, 134, 135, 136, 137, 138, 139, 140, 54, 141, 142, 143, 144, 145, 146, 147, 148, 149, 150, 43, 44, 151, 152, 153, 57, 154, 155, 156, 157, 59, 52, 158, 84, 159, 160, 89, 88, 91, 92, 93, 87, 161, 162, 163, 164, 165, 166, 167, 168, 169, 170, 171, 172, 173, 174, 175, 176, 177, 178, 179, 180, 181, 97, 182, 183, 184, 185, 186, 187, 72, 188, 189, 80, 190, 191, 192, 193, 194, 195, 196, 197, 198, 199, 200, 201, 202, 203, 75, 76, 81, 204, 205, 206, 207, 208, 209, 210, 211, 212, 56, 213, 214, 215, 79, 78, 77, 82, 216, 217, 218, 219, 220, 221, 222, 223, 224, 225, 226, 227, 228, 229, 230, 231, 232, 233, 234, 235, 236, 237, 238, 239, 240, 241, 242, 46, 243, 244, 245, 246, 247, 248, 257, 258, 259, 260, 261, 262, 263, 264, 265, 275, 276, 277, 278, 279, 280, 281, 282, 283, 284, 285, 286, 287, 288, 289, 290, 271, 272, 273, 274, 291, 292, 293, 294, 295, 296, 297, 298, 299, 300, 301, 302, 303, 304, 305, 306] (by decide +kernel) (by decide +kernel)) (goodIn_sub (fun _ h => List.mem_cons_of_mem _ (List.mem_append_left _ (List.mem_append_right _ h))) (by decide +kernel))
set_option maxRecDepth 20000 in
theorem gX8_commands_X8_carryOut : GoodIn wsX8_commands (wsV RX8 314 RX8 yX8_carryOut wsX8_carryOut) := goodIn_app (goodIn_of _ (by decide +kernel)) ggX8_commands_X8_carryOut
set_option maxRecDepth 20000 in
theorem ggX8_commands_X1_keep : GoodIn wsX8_commands wsX1_keep := goodIn_ca (goodIn_r _ [252, 253, 254, 255, 256, 155, 122, 156, 36, 37, 38, 39, 40, 41, 42, 43, 44, 45, 46, 47, 48, 49, 50, 51, 52, 53, 54, 55, 56, 57, 58, 59, 60, 61, 62, 63, 64, 65, 66, 67, 68, 69, 70, 71, 72, 73, 74, 75, 76, 77, 78, 79, 80, 81, 82, 83, 84, 85, 86, 87, 88, 89, 90, 91, 92, 93, 307, 308, 309, 275, 276, 277, 278, 279, 280, 281, 282, 283, 284, 285, 286, 287, 288, 289, 290, 291, 292, 293, 294, 295, 296, 297, 298, 299, 300, 301, 302, 303, 304, 305, 306] (by decide +kernel) (by decide +kernel)) (goodIn_sub (fun _ h => List.mem_cons_of_mem _ (List.mem_append_left _ (List.mem_append_right _ h))) (by decide +kernel))
set_option maxRecDepth 20000 in
theorem gX8_commands_X1_keep_n65 : GoodIn wsX8_commands (wsX1_keep) := ggX8_commands_X1_keep
theorem dX8_commands_0 : decode cX8_commands 0 = .ok (.aload_n 0, 1) := by decide +kernel
theorem dX8_commands_1 : decode cX8_commands 1 = .ok (.aload_n 0, 1) := by decide +kernel
theorem dX8_commands_2 : decode cX8_commands 2 = .ok (.getfield 39, 3) := by decide +kernel
theorem dX8_commands_5 : decode cX8_commands 5 = .ok (.invokevirtual 290, 3) := by decide +kernel
theorem dX8_commands_8 : decode cX8_commands 8 = .ok (.putfield 43, 3) := by decide +kernel
theorem dX8_commands_11 : decode cX8_commands 11 = .ok (.aload_n 0, 1) := by decide +kernel
theorem dX8_commands_12 : decode cX8_commands 12 = .ok (.getfield 39, 3) := by decide +kernel
theorem dX8_commands_15 : decode cX8_commands 15 = .ok (.invokevirtual 293, 3) := by decide +kernel
theorem dX8_commands_18 : decode cX8_commands 18 = .ok (.aload_n 0, 1) := by decide +kernel
theorem dX8_commands_19 : decode cX8_commands 19 = .ok (.getfield 43, 3) := by decide +kernel
theorem dX8_commands_22 : decode cX8_commands 22 = .ok (.iconst (-1), 1) := by decide +kernel
theorem dX8_commands_23 : decode cX8_commands 23 = .ok (.if_icmp .eq 14, 3) := by decide +kernel
theorem dX8_commands_26 : decode cX8_commands 26 = .ok (.new 196, 3) := by decide +kernel
theorem dX8_commands_29 : decode cX8_commands 29 = .ok (.dup, 1) := by decide +kernel
theorem dX8_commands_30 : decode cX8_commands 30 = .ok (.ldc_w 296, 3) := by decide +kernel
theorem dX8_commands_33 : decode cX8_commands 33 = .ok (.invokespecial 200, 3) := by decide +kernel
theorem dX8_commands_36 : decode cX8_commands 36 = .ok (.athrow, 1) := by decide +kernel
theorem dX8_commands_37 : decode cX8_commands 37 = .ok (.aload_n 0, 1) := by decide +kernel
theorem dX8_commands_38 : decode cX8_commands 38 = .ok (.getfield 16, 3) := by decide +kernel
theorem dX8_commands_41 : decode cX8_commands 41 = .ok (.aload_n 0, 1) := by decide +kernel
theorem dX8_commands_42 : decode cX8_commands 42 = .ok (.getfield 10, 3) := by decide +kernel
theorem dX8_commands_45 : decode cX8_commands 45 = .ok (.invokevirtual 298, 3) := by decide +kernel
theorem dX8_commands_48 : decode cX8_commands 48 = .ok (.iconst 1, 1) := by decide +kernel
theorem dX8_commands_49 : decode cX8_commands 49 = .ok (.istore_n 1, 1) := by decide +kernel
theorem dX8_commands_50 : decode cX8_commands 50 = .ok (.iconst 0, 1) := by decide +kernel
theorem dX8_commands_51 : decode cX8_commands 51 = .ok (.istore_n 2, 1) := by decide +kernel
theorem dX8_commands_52 : decode cX8_commands 52 = .ok (.iload_n 2, 1) := by decide +kernel
theorem dX8_commands_53 : decode cX8_commands 53 = .ok (.aload_n 0, 1) := by decide +kernel
theorem dX8_commands_54 : decode cX8_commands 54 = .ok (.getfield 39, 3) := by decide +kernel
theorem dX8_commands_57 : decode cX8_commands 57 = .ok (.getfield 301, 3) := by decide +kernel
theorem dX8_commands_60 : decode cX8_commands 60 = .ok (.if_icmp .ge 44, 3) := by decide +kernel
theorem dX8_commands_63 : decode cX8_commands 63 = .ok (.iload_n 1, 1) := by decide +kernel
theorem dX8_commands_64 : decode cX8_commands 64 = .ok (.ifCond .eq 40, 3) := by decide +kernel
theorem dX8_commands_67 : decode cX8_commands 67 = .ok (.aload_n 0, 1) := by decide +kernel
theorem dX8_commands_68 : decode cX8_commands 68 = .ok (.getfield 32, 3) := by decide +kernel
theorem dX8_commands_71 : decode cX8_commands 71 = .ok (.iload_n 2, 1) := by decide +kernel
theorem dX8_commands_72 : decode cX8_commands 72 = .ok (.putfield 304, 3) := by decide +kernel
theorem dX8_commands_75 : decode cX8_commands 75 = .ok (.aload_n 0, 1) := by decide +kernel
theorem dX8_commands_76 : decode cX8_commands 76 = .ok (.aload_n 0, 1) := by decide +kernel
theorem dX8_commands_77 : decode cX8_commands 77 = .ok (.getfield 39, 3) := by decide +kernel
theorem dX8_commands_80 : decode cX8_commands 80 = .ok (.getfield 307, 3) := by decide +kernel
theorem dX8_commands_83 : decode cX8_commands 83 = .ok (.iload_n 2, 1) := by decide +kernel
theorem dX8_commands_84 : decode cX8_commands 84 = .ok (.caload, 1) := by decide +kernel
theorem dX8_commands_85 : decode cX8_commands 85 = .ok (.aload_n 0, 1) := by decide +kernel
theorem dX8_commands_86 : decode cX8_commands 86 = .ok (.getfield 39, 3) := by decide +kernel
theorem dX8_commands_89 : decode cX8_commands 89 = .ok (.getfield 311, 3) := by decide +kernel
theorem dX8_commands_92 : decode cX8_commands 92 = .ok (.iload_n 2, 1) := by decide +kernel
theorem dX8_commands_93 : decode cX8_commands 93 = .ok (.iaload, 1) := by decide +kernel
theorem dX8_commands_94 : decode cX8_commands 94 = .ok (.invokevirtual 314, 3) := by decide +kernel
theorem dX8_commands_97 : decode cX8_commands 97 = .ok (.istore_n 1, 1) := by decide +kernel
theorem dX8_commands_98 : decode cX8_commands 98 = .ok (.iinc 2 1, 3) := by decide +kernel
theorem dX8_commands_101 : decode cX8_commands 101 = .ok (.goto (-49), 3) := by decide +kernel
theorem dX8_commands_104 : decode cX8_commands 104 = .ok (.aload_n 0, 1) := by decide +kernel
theorem dX8_commands_105 : decode cX8_commands 105 = .ok (.getfield 32, 3) := by decide +kernel
theorem dX8_commands_108 : decode cX8_commands 108 = .ok (.iconst 0, 1) := by decide +kernel
theorem dX8_commands_109 : decode cX8_commands 109 = .ok (.putfield 304, 3) := by decide +kernel
theorem dX8_commands_112 : decode cX8_commands 112 = .ok (.iload_n 1, 1) := by decide +kernel
theorem dX8_commands_113 : decode cX8_commands 113 = .ok (.ifCond .ne 25, 3) := by decide +kernel
theorem dX8_commands_116 : decode cX8_commands 116 = .ok (.aload_n 0, 1) := by decide +kernel
theorem dX8_commands_117 : decode cX8_commands 117 = .ok (.getfield 10, 3) := by decide +kernel
theorem dX8_commands_120 : decode cX8_commands 120 = .ok (.aload_n 0, 1) := by decide +kernel
theorem dX8_commands_121 : decode cX8_commands 121 = .ok (.getfield 16, 3) := by decide +kernel
theorem dX8_commands_124 : decode cX8_commands 124 = .ok (.invokevirtual 298, 3) := by decide +kernel
theorem dX8_commands_127 : decode cX8_commands 127 = .ok (.new 58, 3) := by decide +kernel
theorem dX8_commands_130 : decode cX8_commands 130 = .ok (.dup, 1) := by decide +kernel
theorem dX8_commands_131 : decode cX8_commands 131 = .ok (.ldc_w 318, 3) := by decide +kernel
theorem dX8_commands_134 : decode cX8_commands 134 = .ok (.invokespecial 62, 3) := by decide +kernel
theorem dX8_commands_137 : decode cX8_commands 137 = .ok (.athrow, 1) := by decide +kernel
theorem dX8_commands_138 : decode cX8_commands 138 = .ok (.aload_n 0, 1) := by decide +kernel
theorem dX8_commands_139 : decode cX8_commands 139 = .ok (.getfield 25, 3) := by decide +kernel
theorem dX8_commands_142 : decode cX8_commands 142 = .ok (.aload_n 0, 1) := by decide +kernel
theorem dX8_commands_143 : decode cX8_commands 143 = .ok (.getfield 16, 3) := by decide +kernel
theorem dX8_commands_146 : decode cX8_commands 146 = .ok (.invokevirtual 65, 3) := by decide +kernel
theorem dX8_commands_149 : decode cX8_commands 149 = .ok (.aload_n 0, 1) := by decide +kernel
theorem dX8_commands_150 : decode cX8_commands 150 = .ok (.getfield 39, 3) := by decide +kernel
theorem dX8_commands_153 : decode cX8_commands 153 = .ok (.getfield 301, 3) := by decide +kernel
theorem dX8_commands_156 : decode cX8_commands 156 = .ok (.ireturn, 1) := by decide +kernel
theorem dX8_faultPosition_0 : decode cX8_faultPosition 0 = .ok (.aload_n 0, 1) := by decide +kernel
theorem dX8_faultPosition_1 : decode cX8_faultPosition 1 = .ok (.getfield 43, 3) := by decide +kernel
theorem dX8_faultPosition_4 : decode cX8_faultPosition 4 = .ok (.ireturn, 1) := by decide +kernel
set_option maxRecDepth 20000 in
theorem ggX8_reason_X8_isWithin : GoodIn wsX8_reason wsX8_isWithin := goodIn_r _ [9] (by decide +kernel) (by decide +kernel)
set_option maxRecDepth 20000 in
theorem gX8_reason_X8_isWithin : GoodIn wsX8_reason (va_wsS RX8 222 yX8_isWithin wsX8_isWithin) := goodIn_app (goodIn_of _ (by decide +kernel)) ggX8_reason_X8_isWithin
theorem dX8_reason_0 : decode cX8_reason 0 = .ok (.iload_n 1, 1) := by decide +kernel
theorem dX8_reason_1 : decode cX8_reason 1 = .ok (.iconst 0, 1) := by decide +kernel
theorem dX8_reason_2 : decode cX8_reason 2 = .ok (.iconst 2, 1) := by decide +kernel
theorem dX8_reason_3 : decode cX8_reason 3 = .ok (.invokestatic 222, 3) := by decide +kernel
theorem dX8_reason_6 : decode cX8_reason 6 = .ok (.ifCond .ne 14, 3) := by decide +kernel
theorem dX8_reason_9 : decode cX8_reason 9 = .ok (.new 196, 3) := by decide +kernel
theorem dX8_reason_12 : decode cX8_reason 12 = .ok (.dup, 1) := by decide +kernel
theorem dX8_reason_13 : decode cX8_reason 13 = .ok (.ldc_w 320, 3) := by decide +kernel
theorem dX8_reason_16 : decode cX8_reason 16 = .ok (.invokespecial 200, 3) := by decide +kernel
theorem dX8_reason_19 : decode cX8_reason 19 = .ok (.athrow, 1) := by decide +kernel
theorem dX8_reason_20 : decode cX8_reason 20 = .ok (.aload_n 0, 1) := by decide +kernel
theorem dX8_reason_21 : decode cX8_reason 21 = .ok (.getfield 32, 3) := by decide +kernel
theorem dX8_reason_24 : decode cX8_reason 24 = .ok (.getfield 322, 3) := by decide +kernel
theorem dX8_reason_27 : decode cX8_reason 27 = .ok (.ifCond .ne 14, 3) := by decide +kernel
theorem dX8_reason_30 : decode cX8_reason 30 = .ok (.new 237, 3) := by decide +kernel
theorem dX8_reason_33 : decode cX8_reason 33 = .ok (.dup, 1) := by decide +kernel
theorem dX8_reason_34 : decode cX8_reason 34 = .ok (.ldc_w 325, 3) := by decide +kernel
theorem dX8_reason_37 : decode cX8_reason 37 = .ok (.invokespecial 241, 3) := by decide +kernel
theorem dX8_reason_40 : decode cX8_reason 40 = .ok (.athrow, 1) := by decide +kernel
theorem dX8_reason_41 : decode cX8_reason 41 = .ok (.iload_n 1, 1) := by decide +kernel
theorem dX8_reason_42 : decode cX8_reason 42 = .ok (.ifCond .ne 11, 3) := by decide +kernel
theorem dX8_reason_45 : decode cX8_reason 45 = .ok (.aload_n 0, 1) := by decide +kernel
theorem dX8_reason_46 : decode cX8_reason 46 = .ok (.getfield 32, 3) := by decide +kernel
theorem dX8_reason_49 : decode cX8_reason 49 = .ok (.getfield 322, 3) := by decide +kernel
theorem dX8_reason_52 : decode cX8_reason 52 = .ok (.ireturn, 1) := by decide +kernel
theorem dX8_reason_53 : decode cX8_reason 53 = .ok (.iload_n 1, 1) := by decide +kernel
theorem dX8_reason_54 : decode cX8_reason 54 = .ok (.iconst 1, 1) := by decide +kernel
theorem dX8_reason_55 : decode cX8_reason 55 = .ok (.if_icmp .ne 13, 3) := by decide +kernel
theorem dX8_reason_58 : decode cX8_reason 58 = .ok (.aload_n 0, 1) := by decide +kernel
theorem dX8_reason_59 : decode cX8_reason 59 = .ok (.getfield 32, 3) := by decide +kernel
theorem dX8_reason_62 : decode cX8_reason 62 = .ok (.getfield 327, 3) := by decide +kernel
theorem dX8_reason_65 : decode cX8_reason 65 = .ok (.goto 10, 3) := by decide +kernel
theorem dX8_reason_68 : decode cX8_reason 68 = .ok (.aload_n 0, 1) := by decide +kernel
theorem dX8_reason_69 : decode cX8_reason 69 = .ok (.getfield 32, 3) := by decide +kernel
theorem dX8_reason_72 : decode cX8_reason 72 = .ok (.getfield 330, 3) := by decide +kernel
theorem dX8_reason_75 : decode cX8_reason 75 = .ok (.ireturn, 1) := by decide +kernel
set_option maxRecDepth 20000 in
theorem ggX8_line_X3_has : GoodIn wsX8_line wsX3_has := goodIn_r _ [8, 9, 267, 268, 269, 270, 271, 272] (by decide +kernel) (by decide +kernel)
set_option maxRecDepth 20000 in
theorem gX8_line_X3_has_n337 : GoodIn wsX8_line (wsX3_has) := ggX8_line_X3_has
set_option maxRecDepth 20000 in
theorem ggX8_line_X3_write : GoodIn wsX8_line wsX3_write := goodIn_ca (goodIn_r _ [12, 13, 9, 14, 15, 16, 17, 18, 19, 20, 21, 22, 23, 24, 25, 26, 27, 28, 29, 30, 31, 32, 33, 34, 35, 36, 37, 38, 39, 40, 41, 42, 43, 44, 45, 46, 47, 48, 49, 50, 51, 52, 53, 54, 55, 56, 57, 58, 59, 60, 61, 62, 63, 64, 65, 66, 67, 68, 69, 70, 71, 72, 73, 74, 75, 76, 77, 78, 79, 80, 81, 82, 83, 84, 85, 86, 87, 88, 89, 90, 91, 92, 93, 94, 95, 96, 97, 98, 99, 100, 101, 102, 103, 104, 105, 106, 107, 108, 109, 110, 111, 112, 113, 114, 115, 116, 117, 118, 119, 120, 121, 122, 123, 124, 125, 126, 127, 128, 129, 130, 131, 132, 133, 134, 135, 136, 137, 138, 139, 140, 141, 142, 143, 144, 145, 146, 147, 148, 149, 150, 151, 152, 153, 154, 155, 156, 157, 158, 159, 160, 161, 162, 163, 164, 165, 166, 167, 168, 169, 170, 171, 172, 173, 174, 175, 176, 177, 178, 179, 180, 181, 182, 183, 184, 185, 186, 187, 188, 189, 190, 191, 192, 193, 194, 195, 196, 197, 198, 199, 200, 201, 202, 203, 204, 205, 206, 207, 208, 209, 210, 211, 212, 213, 214, 215, 216, 217, 218, 219, 220, 221, 222, 223, 224, 225, 226, 227, 228, 229, 230, 231, 232, 233, 234, 235, 236, 237, 238, 239, 240, 241, 242, 267, 268, 269, 270, 271, 272, 273, 274, 275, 276, 277, 278, 279, 280, 281, 282, 283, 284, 285, 286, 287, 288, 289, 290, 291, 292] (by decide +kernel) (by decide +kernel)) (goodIn_sub (fun _ h => List.mem_cons_of_mem _ (List.mem_append_right _ h)) (by decide +kernel))
set_option maxRecDepth 20000 in
theorem gX8_line_X3_write_n342 : GoodIn wsX8_line (wsX3_write) := ggX8_line_X3_write
set_option maxRecDepth 20000 in
theorem ggX8_line_J4_length_8abf5 : GoodIn wsX8_line wsJ4_length_8abf5 := goodIn_r _ [246, 247, 248, 25, 249, 27, 250, 32, 279, 280, 281, 282] (by decide +kernel) (by decide +kernel)
set_option maxRecDepth 20000 in
theorem gX8_line_J4_length_8abf5 : GoodIn wsX8_line (wsV RX8 346 RJ4 yJ4_length_8abf5 wsJ4_length_8abf5) := goodIn_app (goodIn_of _ (by decide +kernel)) ggX8_line_J4_length_8abf5
theorem dX8_line_0 : decode cX8_line 0 = .ok (.aload_n 0, 1) := by decide +kernel
theorem dX8_line_1 : decode cX8_line 1 = .ok (.getfield 10, 3) := by decide +kernel
theorem dX8_line_4 : decode cX8_line 4 = .ok (.getfield 333, 3) := by decide +kernel
theorem dX8_line_7 : decode cX8_line 7 = .ok (.iload_n 1, 1) := by decide +kernel
theorem dX8_line_8 : decode cX8_line 8 = .ok (.invokevirtual 337, 3) := by decide +kernel
theorem dX8_line_11 : decode cX8_line 11 = .ok (.ifCond .ne 14, 3) := by decide +kernel
theorem dX8_line_14 : decode cX8_line 14 = .ok (.new 157, 3) := by decide +kernel
theorem dX8_line_17 : decode cX8_line 17 = .ok (.dup, 1) := by decide +kernel
theorem dX8_line_18 : decode cX8_line 18 = .ok (.ldc_w 340, 3) := by decide +kernel
theorem dX8_line_21 : decode cX8_line 21 = .ok (.invokespecial 161, 3) := by decide +kernel
theorem dX8_line_24 : decode cX8_line 24 = .ok (.athrow, 1) := by decide +kernel
theorem dX8_line_25 : decode cX8_line 25 = .ok (.aload_n 0, 1) := by decide +kernel
theorem dX8_line_26 : decode cX8_line 26 = .ok (.getfield 10, 3) := by decide +kernel
theorem dX8_line_29 : decode cX8_line 29 = .ok (.getfield 333, 3) := by decide +kernel
theorem dX8_line_32 : decode cX8_line 32 = .ok (.iload_n 1, 1) := by decide +kernel
theorem dX8_line_33 : decode cX8_line 33 = .ok (.aload_n 0, 1) := by decide +kernel
theorem dX8_line_34 : decode cX8_line 34 = .ok (.getfield 50, 3) := by decide +kernel
theorem dX8_line_37 : decode cX8_line 37 = .ok (.invokevirtual 342, 3) := by decide +kernel
theorem dX8_line_40 : decode cX8_line 40 = .ok (.aload_n 0, 1) := by decide +kernel
theorem dX8_line_41 : decode cX8_line 41 = .ok (.getfield 50, 3) := by decide +kernel
theorem dX8_line_44 : decode cX8_line 44 = .ok (.invokevirtual 346, 3) := by decide +kernel
theorem dX8_line_47 : decode cX8_line 47 = .ok (.ireturn, 1) := by decide +kernel
set_option maxRecDepth 20000 in
theorem ggX8_character_J4_length_8abf5 : GoodIn wsX8_character wsJ4_length_8abf5 := goodIn_r _ [8, 9, 10, 11, 12, 13, 14, 15, 62, 63, 64, 65] (by decide +kernel) (by decide +kernel)
set_option maxRecDepth 20000 in
theorem gX8_character_J4_length_8abf5 : GoodIn wsX8_character (wsV RX8 346 RJ4 yJ4_length_8abf5 wsJ4_length_8abf5) := goodIn_app (goodIn_of _ (by decide +kernel)) ggX8_character_J4_length_8abf5
set_option maxRecDepth 20000 in
theorem ggX8_character_X8_isWithin : GoodIn wsX8_character wsX8_isWithin := goodIn_r _ [19] (by decide +kernel) (by decide +kernel)
set_option maxRecDepth 20000 in
theorem gX8_character_X8_isWithin : GoodIn wsX8_character (va_wsS RX8 222 yX8_isWithin wsX8_isWithin) := goodIn_app (goodIn_of _ (by decide +kernel)) ggX8_character_X8_isWithin
set_option maxRecDepth 20000 in
theorem ggX8_character_J4_charAt_5068e : GoodIn wsX8_character wsJ4_charAt_5068e := goodIn_r _ [23, 24, 25, 11, 26, 13, 27, 28, 29, 15, 30, 31, 32, 33, 34, 35, 36, 37, 38, 39, 40, 41, 42, 43, 44, 45, 46, 47, 48, 49, 50, 51, 52, 62, 63, 64, 65] (by decide +kernel) (by decide +kernel)
set_option maxRecDepth 20000 in
theorem gX8_character_J4_charAt_5068e : GoodIn wsX8_character (wsV RX8 350 RJ4 yJ4_charAt_5068e wsJ4_charAt_5068e) := goodIn_app (goodIn_of _ (by decide +kernel)) ggX8_character_J4_charAt_5068e
theorem dX8_character_0 : decode cX8_character 0 = .ok (.iload_n 1, 1) := by decide +kernel
theorem dX8_character_1 : decode cX8_character 1 = .ok (.iconst 0, 1) := by decide +kernel
theorem dX8_character_2 : decode cX8_character 2 = .ok (.aload_n 0, 1) := by decide +kernel
theorem dX8_character_3 : decode cX8_character 3 = .ok (.getfield 50, 3) := by decide +kernel
theorem dX8_character_6 : decode cX8_character 6 = .ok (.invokevirtual 346, 3) := by decide +kernel
theorem dX8_character_9 : decode cX8_character 9 = .ok (.iconst 1, 1) := by decide +kernel
theorem dX8_character_10 : decode cX8_character 10 = .ok (.isub, 1) := by decide +kernel
theorem dX8_character_11 : decode cX8_character 11 = .ok (.invokestatic 222, 3) := by decide +kernel
theorem dX8_character_14 : decode cX8_character 14 = .ok (.ifCond .ne 14, 3) := by decide +kernel
theorem dX8_character_17 : decode cX8_character 17 = .ok (.new 157, 3) := by decide +kernel
theorem dX8_character_20 : decode cX8_character 20 = .ok (.dup, 1) := by decide +kernel
theorem dX8_character_21 : decode cX8_character 21 = .ok (.ldc_w 348, 3) := by decide +kernel
theorem dX8_character_24 : decode cX8_character 24 = .ok (.invokespecial 161, 3) := by decide +kernel
theorem dX8_character_27 : decode cX8_character 27 = .ok (.athrow, 1) := by decide +kernel
theorem dX8_character_28 : decode cX8_character 28 = .ok (.aload_n 0, 1) := by decide +kernel
theorem dX8_character_29 : decode cX8_character 29 = .ok (.getfield 50, 3) := by decide +kernel
theorem dX8_character_32 : decode cX8_character 32 = .ok (.iload_n 1, 1) := by decide +kernel
theorem dX8_character_33 : decode cX8_character 33 = .ok (.invokevirtual 350, 3) := by decide +kernel
theorem dX8_character_36 : decode cX8_character 36 = .ok (.ireturn, 1) := by decide +kernel
set_option maxRecDepth 20000 in
theorem ggX8_meanTemper_X2_temperSum : GoodIn wsX8_meanTemper wsX2_temperSum := goodIn_ca (goodIn_r _ [7, 8, 9, 26, 27, 28, 29, 30, 31, 32, 33, 34] (by decide +kernel) (by decide +kernel)) (goodIn_sub (fun _ h => List.mem_cons_of_mem _ (List.mem_append_right _ h)) (by decide +kernel))
set_option maxRecDepth 20000 in
theorem gX8_meanTemper_X2_temperSum_n362 : GoodIn wsX8_meanTemper (wsX2_temperSum) := ggX8_meanTemper_X2_temperSum
theorem dX8_meanTemper_0 : decode cX8_meanTemper 0 = .ok (.aload_n 0, 1) := by decide +kernel
theorem dX8_meanTemper_1 : decode cX8_meanTemper 1 = .ok (.getfield 10, 3) := by decide +kernel
theorem dX8_meanTemper_4 : decode cX8_meanTemper 4 = .ok (.getfield 69, 3) := by decide +kernel
theorem dX8_meanTemper_7 : decode cX8_meanTemper 7 = .ok (.getfield 354, 3) := by decide +kernel
theorem dX8_meanTemper_10 : decode cX8_meanTemper 10 = .ok (.ifCond .ne 14, 3) := by decide +kernel
theorem dX8_meanTemper_13 : decode cX8_meanTemper 13 = .ok (.new 357, 3) := by decide +kernel
theorem dX8_meanTemper_16 : decode cX8_meanTemper 16 = .ok (.dup, 1) := by decide +kernel
theorem dX8_meanTemper_17 : decode cX8_meanTemper 17 = .ok (.ldc_w 359, 3) := by decide +kernel
theorem dX8_meanTemper_20 : decode cX8_meanTemper 20 = .ok (.invokespecial 361, 3) := by decide +kernel
theorem dX8_meanTemper_23 : decode cX8_meanTemper 23 = .ok (.athrow, 1) := by decide +kernel
theorem dX8_meanTemper_24 : decode cX8_meanTemper 24 = .ok (.aload_n 0, 1) := by decide +kernel
theorem dX8_meanTemper_25 : decode cX8_meanTemper 25 = .ok (.getfield 10, 3) := by decide +kernel
theorem dX8_meanTemper_28 : decode cX8_meanTemper 28 = .ok (.getfield 69, 3) := by decide +kernel
theorem dX8_meanTemper_31 : decode cX8_meanTemper 31 = .ok (.invokevirtual 362, 3) := by decide +kernel
theorem dX8_meanTemper_34 : decode cX8_meanTemper 34 = .ok (.i2f, 1) := by decide +kernel
theorem dX8_meanTemper_35 : decode cX8_meanTemper 35 = .ok (.aload_n 0, 1) := by decide +kernel
theorem dX8_meanTemper_36 : decode cX8_meanTemper 36 = .ok (.getfield 10, 3) := by decide +kernel
theorem dX8_meanTemper_39 : decode cX8_meanTemper 39 = .ok (.getfield 69, 3) := by decide +kernel
theorem dX8_meanTemper_42 : decode cX8_meanTemper 42 = .ok (.getfield 354, 3) := by decide +kernel
theorem dX8_meanTemper_45 : decode cX8_meanTemper 45 = .ok (.i2f, 1) := by decide +kernel
theorem dX8_meanTemper_46 : decode cX8_meanTemper 46 = .ok (.fdiv, 1) := by decide +kernel
theorem dX8_meanTemper_47 : decode cX8_meanTemper 47 = .ok (.freturn, 1) := by decide +kernel
set_option maxRecDepth 20000 in
theorem ggX8_share_X2_has : GoodIn wsX8_share wsX2_has := goodIn_r _ [9, 10, 35, 36, 37, 38, 39, 40, 41, 42, 43] (by decide +kernel) (by decide +kernel)
set_option maxRecDepth 20000 in
theorem gX8_share_X2_has_n153 : GoodIn wsX8_share (wsX2_has) := ggX8_share_X2_has
theorem dX8_share_0 : decode cX8_share 0 = .ok (.aload_n 0, 1) := by decide +kernel
theorem dX8_share_1 : decode cX8_share 1 = .ok (.getfield 10, 3) := by decide +kernel
theorem dX8_share_4 : decode cX8_share 4 = .ok (.getfield 69, 3) := by decide +kernel
theorem dX8_share_7 : decode cX8_share 7 = .ok (.iload_n 1, 1) := by decide +kernel
theorem dX8_share_8 : decode cX8_share 8 = .ok (.invokevirtual 153, 3) := by decide +kernel
theorem dX8_share_11 : decode cX8_share 11 = .ok (.ifCond .ne 13, 3) := by decide +kernel
theorem dX8_share_14 : decode cX8_share 14 = .ok (.new 157, 3) := by decide +kernel
theorem dX8_share_17 : decode cX8_share 17 = .ok (.dup, 1) := by decide +kernel
theorem dX8_share_18 : decode cX8_share 18 = .ok (.ldc 159, 2) := by decide +kernel
theorem dX8_share_20 : decode cX8_share 20 = .ok (.invokespecial 161, 3) := by decide +kernel
theorem dX8_share_23 : decode cX8_share 23 = .ok (.athrow, 1) := by decide +kernel
theorem dX8_share_24 : decode cX8_share 24 = .ok (.aload_n 0, 1) := by decide +kernel
theorem dX8_share_25 : decode cX8_share 25 = .ok (.getfield 10, 3) := by decide +kernel
theorem dX8_share_28 : decode cX8_share 28 = .ok (.getfield 120, 3) := by decide +kernel
theorem dX8_share_31 : decode cX8_share 31 = .ok (.getfield 265, 3) := by decide +kernel
theorem dX8_share_34 : decode cX8_share 34 = .ok (.ifCond .ne 14, 3) := by decide +kernel
theorem dX8_share_37 : decode cX8_share 37 = .ok (.new 357, 3) := by decide +kernel
theorem dX8_share_40 : decode cX8_share 40 = .ok (.dup, 1) := by decide +kernel
theorem dX8_share_41 : decode cX8_share 41 = .ok (.ldc_w 365, 3) := by decide +kernel
theorem dX8_share_44 : decode cX8_share 44 = .ok (.invokespecial 361, 3) := by decide +kernel
theorem dX8_share_47 : decode cX8_share 47 = .ok (.athrow, 1) := by decide +kernel
theorem dX8_share_48 : decode cX8_share 48 = .ok (.aload_n 0, 1) := by decide +kernel
theorem dX8_share_49 : decode cX8_share 49 = .ok (.getfield 10, 3) := by decide +kernel
theorem dX8_share_52 : decode cX8_share 52 = .ok (.getfield 69, 3) := by decide +kernel
theorem dX8_share_55 : decode cX8_share 55 = .ok (.getfield 184, 3) := by decide +kernel
theorem dX8_share_58 : decode cX8_share 58 = .ok (.iload_n 1, 1) := by decide +kernel
theorem dX8_share_59 : decode cX8_share 59 = .ok (.iaload, 1) := by decide +kernel
theorem dX8_share_60 : decode cX8_share 60 = .ok (.i2d, 1) := by decide +kernel
theorem dX8_share_61 : decode cX8_share 61 = .ok (.aload_n 0, 1) := by decide +kernel
theorem dX8_share_62 : decode cX8_share 62 = .ok (.getfield 10, 3) := by decide +kernel
theorem dX8_share_65 : decode cX8_share 65 = .ok (.getfield 120, 3) := by decide +kernel
theorem dX8_share_68 : decode cX8_share 68 = .ok (.getfield 265, 3) := by decide +kernel
theorem dX8_share_71 : decode cX8_share 71 = .ok (.i2d, 1) := by decide +kernel
theorem dX8_share_72 : decode cX8_share 72 = .ok (.ddiv, 1) := by decide +kernel
theorem dX8_share_73 : decode cX8_share 73 = .ok (.dreturn, 1) := by decide +kernel
theorem dX8_account_0 : decode cX8_account 0 = .ok (.iload_n 1, 1) := by decide +kernel
theorem dX8_account_1 : decode cX8_account 1 = .ok (.tableswitch 248 0 15 #[79, 87, 98, 109, 120, 131, 142, 153, 164, 175, 183, 191, 202, 221, 232, 240], 79) := by decide +kernel
theorem dX8_account_80 : decode cX8_account 80 = .ok (.aload_n 0, 1) := by decide +kernel
theorem dX8_account_81 : decode cX8_account 81 = .ok (.getfield 10, 3) := by decide +kernel
theorem dX8_account_84 : decode cX8_account 84 = .ok (.getfield 367, 3) := by decide +kernel
theorem dX8_account_87 : decode cX8_account 87 = .ok (.ireturn, 1) := by decide +kernel
theorem dX8_account_88 : decode cX8_account 88 = .ok (.aload_n 0, 1) := by decide +kernel
theorem dX8_account_89 : decode cX8_account 89 = .ok (.getfield 10, 3) := by decide +kernel
theorem dX8_account_92 : decode cX8_account 92 = .ok (.getfield 69, 3) := by decide +kernel
theorem dX8_account_95 : decode cX8_account 95 = .ok (.getfield 354, 3) := by decide +kernel
theorem dX8_account_98 : decode cX8_account 98 = .ok (.ireturn, 1) := by decide +kernel
theorem dX8_account_99 : decode cX8_account 99 = .ok (.aload_n 0, 1) := by decide +kernel
theorem dX8_account_100 : decode cX8_account 100 = .ok (.getfield 10, 3) := by decide +kernel
theorem dX8_account_103 : decode cX8_account 103 = .ok (.getfield 187, 3) := by decide +kernel
theorem dX8_account_106 : decode cX8_account 106 = .ok (.getfield 370, 3) := by decide +kernel
theorem dX8_account_109 : decode cX8_account 109 = .ok (.ireturn, 1) := by decide +kernel
theorem dX8_account_110 : decode cX8_account 110 = .ok (.aload_n 0, 1) := by decide +kernel
theorem dX8_account_111 : decode cX8_account 111 = .ok (.getfield 10, 3) := by decide +kernel
theorem dX8_account_114 : decode cX8_account 114 = .ok (.getfield 120, 3) := by decide +kernel
theorem dX8_account_117 : decode cX8_account 117 = .ok (.getfield 262, 3) := by decide +kernel
theorem dX8_account_120 : decode cX8_account 120 = .ok (.ireturn, 1) := by decide +kernel
theorem dX8_account_121 : decode cX8_account 121 = .ok (.aload_n 0, 1) := by decide +kernel
theorem dX8_account_122 : decode cX8_account 122 = .ok (.getfield 10, 3) := by decide +kernel
theorem dX8_account_125 : decode cX8_account 125 = .ok (.getfield 120, 3) := by decide +kernel
theorem dX8_account_128 : decode cX8_account 128 = .ok (.getfield 265, 3) := by decide +kernel
theorem dX8_account_131 : decode cX8_account 131 = .ok (.ireturn, 1) := by decide +kernel
theorem dX8_account_132 : decode cX8_account 132 = .ok (.aload_n 0, 1) := by decide +kernel
theorem dX8_account_133 : decode cX8_account 133 = .ok (.getfield 10, 3) := by decide +kernel
theorem dX8_account_136 : decode cX8_account 136 = .ok (.getfield 120, 3) := by decide +kernel
theorem dX8_account_139 : decode cX8_account 139 = .ok (.getfield 268, 3) := by decide +kernel
theorem dX8_account_142 : decode cX8_account 142 = .ok (.ireturn, 1) := by decide +kernel
theorem dX8_account_143 : decode cX8_account 143 = .ok (.aload_n 0, 1) := by decide +kernel
theorem dX8_account_144 : decode cX8_account 144 = .ok (.getfield 10, 3) := by decide +kernel
theorem dX8_account_147 : decode cX8_account 147 = .ok (.getfield 120, 3) := by decide +kernel
theorem dX8_account_150 : decode cX8_account 150 = .ok (.getfield 371, 3) := by decide +kernel
theorem dX8_account_153 : decode cX8_account 153 = .ok (.ireturn, 1) := by decide +kernel
theorem dX8_account_154 : decode cX8_account 154 = .ok (.aload_n 0, 1) := by decide +kernel
theorem dX8_account_155 : decode cX8_account 155 = .ok (.getfield 10, 3) := by decide +kernel
theorem dX8_account_158 : decode cX8_account 158 = .ok (.getfield 69, 3) := by decide +kernel
theorem dX8_account_161 : decode cX8_account 161 = .ok (.getfield 373, 3) := by decide +kernel
theorem dX8_account_164 : decode cX8_account 164 = .ok (.ireturn, 1) := by decide +kernel
theorem dX8_account_165 : decode cX8_account 165 = .ok (.aload_n 0, 1) := by decide +kernel
theorem dX8_account_166 : decode cX8_account 166 = .ok (.getfield 10, 3) := by decide +kernel
theorem dX8_account_169 : decode cX8_account 169 = .ok (.getfield 120, 3) := by decide +kernel
theorem dX8_account_172 : decode cX8_account 172 = .ok (.getfield 376, 3) := by decide +kernel
theorem dX8_account_175 : decode cX8_account 175 = .ok (.ireturn, 1) := by decide +kernel
theorem dX8_account_176 : decode cX8_account 176 = .ok (.aload_n 0, 1) := by decide +kernel
theorem dX8_account_177 : decode cX8_account 177 = .ok (.getfield 10, 3) := by decide +kernel
theorem dX8_account_180 : decode cX8_account 180 = .ok (.getfield 142, 3) := by decide +kernel
theorem dX8_account_183 : decode cX8_account 183 = .ok (.ireturn, 1) := by decide +kernel
theorem dX8_account_184 : decode cX8_account 184 = .ok (.aload_n 0, 1) := by decide +kernel
theorem dX8_account_185 : decode cX8_account 185 = .ok (.getfield 10, 3) := by decide +kernel
theorem dX8_account_188 : decode cX8_account 188 = .ok (.getfield 379, 3) := by decide +kernel
theorem dX8_account_191 : decode cX8_account 191 = .ok (.ireturn, 1) := by decide +kernel
theorem dX8_account_192 : decode cX8_account 192 = .ok (.aload_n 0, 1) := by decide +kernel
theorem dX8_account_193 : decode cX8_account 193 = .ok (.getfield 10, 3) := by decide +kernel
theorem dX8_account_196 : decode cX8_account 196 = .ok (.getfield 120, 3) := by decide +kernel
theorem dX8_account_199 : decode cX8_account 199 = .ok (.getfield 382, 3) := by decide +kernel
theorem dX8_account_202 : decode cX8_account 202 = .ok (.ireturn, 1) := by decide +kernel
theorem dX8_account_203 : decode cX8_account 203 = .ok (.aload_n 0, 1) := by decide +kernel
theorem dX8_account_204 : decode cX8_account 204 = .ok (.getfield 10, 3) := by decide +kernel
theorem dX8_account_207 : decode cX8_account 207 = .ok (.getfield 120, 3) := by decide +kernel
theorem dX8_account_210 : decode cX8_account 210 = .ok (.getfield 385, 3) := by decide +kernel
theorem dX8_account_213 : decode cX8_account 213 = .ok (.ifCond .eq 7, 3) := by decide +kernel
theorem dX8_account_216 : decode cX8_account 216 = .ok (.iconst 1, 1) := by decide +kernel
theorem dX8_account_217 : decode cX8_account 217 = .ok (.goto 4, 3) := by decide +kernel
theorem dX8_account_220 : decode cX8_account 220 = .ok (.iconst 0, 1) := by decide +kernel
theorem dX8_account_221 : decode cX8_account 221 = .ok (.ireturn, 1) := by decide +kernel
theorem dX8_account_222 : decode cX8_account 222 = .ok (.aload_n 0, 1) := by decide +kernel
theorem dX8_account_223 : decode cX8_account 223 = .ok (.getfield 10, 3) := by decide +kernel
theorem dX8_account_226 : decode cX8_account 226 = .ok (.getfield 333, 3) := by decide +kernel
theorem dX8_account_229 : decode cX8_account 229 = .ok (.getfield 389, 3) := by decide +kernel
theorem dX8_account_232 : decode cX8_account 232 = .ok (.ireturn, 1) := by decide +kernel
theorem dX8_account_233 : decode cX8_account 233 = .ok (.aload_n 0, 1) := by decide +kernel
theorem dX8_account_234 : decode cX8_account 234 = .ok (.getfield 25, 3) := by decide +kernel
theorem dX8_account_237 : decode cX8_account 237 = .ok (.getfield 390, 3) := by decide +kernel
theorem dX8_account_240 : decode cX8_account 240 = .ok (.ireturn, 1) := by decide +kernel
theorem dX8_account_241 : decode cX8_account 241 = .ok (.aload_n 0, 1) := by decide +kernel
theorem dX8_account_242 : decode cX8_account 242 = .ok (.getfield 39, 3) := by decide +kernel
theorem dX8_account_245 : decode cX8_account 245 = .ok (.getfield 287, 3) := by decide +kernel
theorem dX8_account_248 : decode cX8_account 248 = .ok (.ireturn, 1) := by decide +kernel
theorem dX8_account_249 : decode cX8_account 249 = .ok (.new 196, 3) := by decide +kernel
theorem dX8_account_252 : decode cX8_account 252 = .ok (.dup, 1) := by decide +kernel
theorem dX8_account_253 : decode cX8_account 253 = .ok (.ldc_w 391, 3) := by decide +kernel
theorem dX8_account_256 : decode cX8_account 256 = .ok (.invokespecial 200, 3) := by decide +kernel
theorem dX8_account_259 : decode cX8_account 259 = .ok (.athrow, 1) := by decide +kernel
set_option maxRecDepth 20000 in
theorem ggX8_undo_X1_takeBack : GoodIn wsX8_undo wsX1_takeBack := goodIn_ca (goodIn_r _ [8, 9, 10, 11, 12, 13, 14, 15, 16, 17, 18, 19, 20, 21, 22, 23, 24, 25, 26, 27, 28, 29, 30, 31, 32, 33, 34, 35, 36, 37, 38, 39, 40, 41, 42, 43, 44, 45, 46, 47, 48, 49, 50, 51, 52, 53, 54, 55, 56, 57, 58, 59, 60, 61, 62, 63, 64, 65, 66, 67, 68, 69, 79, 80, 81, 82, 83, 84, 85, 86, 87, 88, 89, 90, 91, 92, 93, 94, 95, 96, 97, 98, 99, 100, 101, 102, 103, 104, 105, 106, 107, 108, 109, 110, 111, 112, 113] (by decide +kernel) (by decide +kernel)) (goodIn_sub (fun _ h => List.mem_cons_of_mem _ (List.mem_append_right _ h)) (by decide +kernel))
set_option maxRecDepth 20000 in
theorem gX8_undo_X1_takeBack_n395 : GoodIn wsX8_undo (wsX1_takeBack) := ggX8_undo_X1_takeBack
theorem dX8_undo_0 : decode cX8_undo 0 = .ok (.aload_n 0, 1) := by decide +kernel
theorem dX8_undo_1 : decode cX8_undo 1 = .ok (.getfield 25, 3) := by decide +kernel
theorem dX8_undo_4 : decode cX8_undo 4 = .ok (.getfield 390, 3) := by decide +kernel
theorem dX8_undo_7 : decode cX8_undo 7 = .ok (.ifCond .ne 14, 3) := by decide +kernel
theorem dX8_undo_10 : decode cX8_undo 10 = .ok (.new 278, 3) := by decide +kernel
theorem dX8_undo_13 : decode cX8_undo 13 = .ok (.dup, 1) := by decide +kernel
theorem dX8_undo_14 : decode cX8_undo 14 = .ok (.ldc_w 393, 3) := by decide +kernel
theorem dX8_undo_17 : decode cX8_undo 17 = .ok (.invokespecial 282, 3) := by decide +kernel
theorem dX8_undo_20 : decode cX8_undo 20 = .ok (.athrow, 1) := by decide +kernel
theorem dX8_undo_21 : decode cX8_undo 21 = .ok (.aload_n 0, 1) := by decide +kernel
theorem dX8_undo_22 : decode cX8_undo 22 = .ok (.getfield 25, 3) := by decide +kernel
theorem dX8_undo_25 : decode cX8_undo 25 = .ok (.aload_n 0, 1) := by decide +kernel
theorem dX8_undo_26 : decode cX8_undo 26 = .ok (.getfield 10, 3) := by decide +kernel
theorem dX8_undo_29 : decode cX8_undo 29 = .ok (.invokevirtual 395, 3) := by decide +kernel
theorem dX8_undo_32 : decode cX8_undo 32 = .ok (.aload_n 0, 1) := by decide +kernel
theorem dX8_undo_33 : decode cX8_undo 33 = .ok (.getfield 25, 3) := by decide +kernel
theorem dX8_undo_36 : decode cX8_undo 36 = .ok (.getfield 390, 3) := by decide +kernel
theorem dX8_undo_39 : decode cX8_undo 39 = .ok (.ireturn, 1) := by decide +kernel
set_option maxRecDepth 20000 in
theorem ggX8_save_X6_copyFrom : GoodIn wsX8_save wsX6_copyFrom := goodIn_ca (goodIn_r _ [7, 8, 9, 10, 11, 12, 13, 14, 15, 16, 17, 18, 19, 20, 21, 22, 23, 24, 25, 26, 27, 28, 29, 30, 31, 32, 33, 34, 35, 36, 37, 38, 39, 40, 41, 42, 43, 44, 45, 46, 47, 48, 49, 50, 51, 52, 53, 54, 55, 56, 57, 58, 59, 60, 61, 71, 72, 73, 74, 75, 76, 77, 78, 79, 80, 81, 82, 83, 84, 85, 86, 87, 88, 89, 90, 91, 92, 93, 94, 95, 96, 97, 98, 99, 100, 101, 102] (by decide +kernel) (by decide +kernel)) (goodIn_sub (fun _ h => List.mem_cons_of_mem _ (List.mem_append_right _ h)) (by decide +kernel))
set_option maxRecDepth 20000 in
theorem gX8_save_X6_copyFrom_n298 : GoodIn wsX8_save (wsX6_copyFrom) := ggX8_save_X6_copyFrom
theorem dX8_save_0 : decode cX8_save 0 = .ok (.aload_n 0, 1) := by decide +kernel
theorem dX8_save_1 : decode cX8_save 1 = .ok (.getfield 19, 3) := by decide +kernel
theorem dX8_save_4 : decode cX8_save 4 = .ok (.aload_n 0, 1) := by decide +kernel
theorem dX8_save_5 : decode cX8_save 5 = .ok (.getfield 10, 3) := by decide +kernel
theorem dX8_save_8 : decode cX8_save 8 = .ok (.invokevirtual 298, 3) := by decide +kernel
theorem dX8_save_11 : decode cX8_save 11 = .ok (.aload_n 0, 1) := by decide +kernel
theorem dX8_save_12 : decode cX8_save 12 = .ok (.iconst 1, 1) := by decide +kernel
theorem dX8_save_13 : decode cX8_save 13 = .ok (.putfield 398, 3) := by decide +kernel
theorem dX8_save_16 : decode cX8_save 16 = .ok (.aload_n 0, 1) := by decide +kernel
theorem dX8_save_17 : decode cX8_save 17 = .ok (.getfield 10, 3) := by decide +kernel
theorem dX8_save_20 : decode cX8_save 20 = .ok (.getfield 367, 3) := by decide +kernel
theorem dX8_save_23 : decode cX8_save 23 = .ok (.ireturn, 1) := by decide +kernel
set_option maxRecDepth 20000 in
theorem ggX8_restore_X6_copyFrom : GoodIn wsX8_restore wsX6_copyFrom := goodIn_ca (goodIn_r _ [10, 11, 12, 13, 14, 15, 16, 17, 18, 19, 20, 21, 22, 23, 24, 25, 26, 27, 28, 29, 30, 31, 32, 33, 34, 35, 36, 37, 38, 39, 40, 41, 42, 43, 44, 45, 46, 47, 48, 49, 50, 51, 52, 53, 54, 55, 56, 57, 58, 59, 60, 61, 62, 63, 64, 79, 80, 81, 82, 83, 84, 85, 86, 87, 88, 89, 90, 91, 92, 93, 94, 95, 96, 97, 98, 99, 100, 101, 102, 103, 104, 105, 106, 107, 108, 109, 110] (by decide +kernel) (by decide +kernel)) (goodIn_sub (fun _ h => List.mem_cons_of_mem _ (List.mem_append_right _ h)) (by decide +kernel))
set_option maxRecDepth 20000 in
theorem gX8_restore_X6_copyFrom_n298 : GoodIn wsX8_restore (wsX6_copyFrom) := ggX8_restore_X6_copyFrom
set_option maxRecDepth 20000 in
theorem ggX8_restore_X1_forget : GoodIn wsX8_restore wsX1_forget := goodIn_r _ [68, 69, 111, 112, 113] (by decide +kernel) (by decide +kernel)
set_option maxRecDepth 20000 in
theorem gX8_restore_X1_forget_n403 : GoodIn wsX8_restore (wsX1_forget) := ggX8_restore_X1_forget
theorem dX8_restore_0 : decode cX8_restore 0 = .ok (.aload_n 0, 1) := by decide +kernel
theorem dX8_restore_1 : decode cX8_restore 1 = .ok (.getfield 398, 3) := by decide +kernel
theorem dX8_restore_4 : decode cX8_restore 4 = .ok (.ifCond .ne 14, 3) := by decide +kernel
theorem dX8_restore_7 : decode cX8_restore 7 = .ok (.new 278, 3) := by decide +kernel
theorem dX8_restore_10 : decode cX8_restore 10 = .ok (.dup, 1) := by decide +kernel
theorem dX8_restore_11 : decode cX8_restore 11 = .ok (.ldc_w 401, 3) := by decide +kernel
theorem dX8_restore_14 : decode cX8_restore 14 = .ok (.invokespecial 282, 3) := by decide +kernel
theorem dX8_restore_17 : decode cX8_restore 17 = .ok (.athrow, 1) := by decide +kernel
theorem dX8_restore_18 : decode cX8_restore 18 = .ok (.aload_n 0, 1) := by decide +kernel
theorem dX8_restore_19 : decode cX8_restore 19 = .ok (.getfield 10, 3) := by decide +kernel
theorem dX8_restore_22 : decode cX8_restore 22 = .ok (.aload_n 0, 1) := by decide +kernel
theorem dX8_restore_23 : decode cX8_restore 23 = .ok (.getfield 19, 3) := by decide +kernel
theorem dX8_restore_26 : decode cX8_restore 26 = .ok (.invokevirtual 298, 3) := by decide +kernel
theorem dX8_restore_29 : decode cX8_restore 29 = .ok (.aload_n 0, 1) := by decide +kernel
theorem dX8_restore_30 : decode cX8_restore 30 = .ok (.getfield 25, 3) := by decide +kernel
theorem dX8_restore_33 : decode cX8_restore 33 = .ok (.invokevirtual 403, 3) := by decide +kernel
theorem dX8_restore_36 : decode cX8_restore 36 = .ok (.aload_n 0, 1) := by decide +kernel
theorem dX8_restore_37 : decode cX8_restore 37 = .ok (.getfield 10, 3) := by decide +kernel
theorem dX8_restore_40 : decode cX8_restore 40 = .ok (.getfield 367, 3) := by decide +kernel
theorem dX8_restore_43 : decode cX8_restore 43 = .ok (.ireturn, 1) := by decide +kernel
theorem dX8_isWithin_0 : decode cX8_isWithin 0 = .ok (.iload_n 0, 1) := by decide +kernel
theorem dX8_isWithin_1 : decode cX8_isWithin 1 = .ok (.iload_n 1, 1) := by decide +kernel
theorem dX8_isWithin_2 : decode cX8_isWithin 2 = .ok (.if_icmp .lt 12, 3) := by decide +kernel
theorem dX8_isWithin_5 : decode cX8_isWithin 5 = .ok (.iload_n 0, 1) := by decide +kernel
theorem dX8_isWithin_6 : decode cX8_isWithin 6 = .ok (.iload_n 2, 1) := by decide +kernel
theorem dX8_isWithin_7 : decode cX8_isWithin 7 = .ok (.if_icmp .gt 7, 3) := by decide +kernel
theorem dX8_isWithin_10 : decode cX8_isWithin 10 = .ok (.iconst 1, 1) := by decide +kernel
theorem dX8_isWithin_11 : decode cX8_isWithin 11 = .ok (.goto 4, 3) := by decide +kernel
theorem dX8_isWithin_14 : decode cX8_isWithin 14 = .ok (.iconst 0, 1) := by decide +kernel
theorem dX8_isWithin_15 : decode cX8_isWithin 15 = .ok (.ireturn, 1) := by decide +kernel
set_option maxRecDepth 20000 in
theorem ggX8_carryOut_X6_refusesJoin : GoodIn wsX8_carryOut wsX6_refusesJoin := goodIn_ca (goodIn_r _ [6, 7, 8, 9, 10, 11, 12, 13, 14, 15, 16, 17, 18, 19, 20, 21, 22, 23, 24, 25, 26, 27, 28, 29, 30, 4, 31, 32, 33, 34, 35, 36, 37, 38, 39, 40, 41, 42, 43, 44, 45, 46, 199, 200, 201, 202, 203, 204, 205, 206, 207, 208, 209, 210, 211, 212, 213, 214, 215, 216, 217, 218, 219, 220, 221, 222, 223, 224, 225, 226, 227, 228] (by decide +kernel) (by decide +kernel)) (goodIn_sub (fun _ h => List.mem_cons_of_mem _ (List.mem_append_right _ h)) (by decide +kernel))
set_option maxRecDepth 20000 in
theorem gX8_carryOut_X6_refusesJoin_n79 : GoodIn wsX8_carryOut (wsX6_refusesJoin) := ggX8_carryOut_X6_refusesJoin
set_option maxRecDepth 20000 in
theorem ggX8_carryOut_X6_letJoin : GoodIn wsX8_carryOut wsX6_letJoin := goodIn_ca (goodIn_r _ [49, 8, 7, 50, 10, 51, 52, 46, 53, 54, 55, 56, 57, 58, 59, 34, 60, 61, 62, 63, 13, 64, 65, 66, 4, 67, 68, 69, 70, 71, 72, 73, 74, 75, 76, 77, 33, 35, 78, 79, 80, 81, 82, 83, 84, 85, 86, 87, 88, 89, 90, 91, 23, 92, 93, 26, 27, 94, 95, 96, 97, 98, 99, 100, 199, 200, 201, 202, 203, 204, 205, 219, 220, 206, 207, 208, 209, 210, 211, 212, 213, 214, 229, 230, 231, 232, 233, 234] (by decide +kernel) (by decide +kernel)) (goodIn_sub (fun _ h => List.mem_cons_of_mem _ (List.mem_append_right _ h)) (by decide +kernel))
set_option maxRecDepth 20000 in
theorem gX8_carryOut_X6_letJoin_n85 : GoodIn wsX8_carryOut (wsX6_letJoin) := ggX8_carryOut_X6_letJoin
set_option maxRecDepth 20000 in
theorem ggX8_carryOut_X6_refusesLeave : GoodIn wsX8_carryOut wsX6_refusesLeave := goodIn_ca (goodIn_r _ [103, 7, 8, 9, 10, 11, 12, 13, 14, 15, 16, 17, 18, 19, 20, 21, 22, 23, 24, 25, 26, 27, 199, 200, 201, 202, 203, 204, 205, 206, 207, 208, 209, 210, 211, 212, 213, 214, 215, 216, 217, 218, 219, 220] (by decide +kernel) (by decide +kernel)) (goodIn_sub (fun _ h => List.mem_cons_of_mem _ (List.mem_append_right _ h)) (by decide +kernel))
set_option maxRecDepth 20000 in
theorem gX8_carryOut_X6_refusesLeave_n89 : GoodIn wsX8_carryOut (wsX6_refusesLeave) := ggX8_carryOut_X6_refusesLeave
set_option maxRecDepth 20000 in
theorem ggX8_carryOut_X6_letLeave : GoodIn wsX8_carryOut wsX6_letLeave := goodIn_ca (goodIn_r _ [106, 8, 22, 23, 24, 25, 26, 27, 91, 92, 93, 94, 95, 96, 97, 199, 200, 201, 202, 203, 204, 205, 219, 220] (by decide +kernel) (by decide +kernel)) (goodIn_sub (fun _ h => List.mem_cons_of_mem _ (List.mem_append_right _ h)) (by decide +kernel))
set_option maxRecDepth 20000 in
theorem gX8_carryOut_X6_letLeave_n94 : GoodIn wsX8_carryOut (wsX6_letLeave) := ggX8_carryOut_X6_letLeave
set_option maxRecDepth 20000 in
theorem ggX8_carryOut_X6_refusesDraws : GoodIn wsX8_carryOut wsX6_refusesDraws := goodIn_ca (goodIn_r _ [109, 41, 110, 111, 112, 14, 15, 16, 17, 18, 19, 20, 21, 113, 114, 115, 4, 116, 8, 28, 29, 30, 31, 7, 32, 33, 34, 35, 36, 37, 38, 39, 40, 42, 10, 43, 44, 45, 46, 117, 118, 119, 120, 121, 122, 75, 76, 123, 124, 125, 199, 200, 201, 202, 203, 204, 205, 221, 222, 223, 224, 225, 226, 227, 228, 215, 216, 217, 218, 219, 220, 206, 207, 208, 209, 210, 211, 212, 213, 214] (by decide +kernel) (by decide +kernel)) (goodIn_sub (fun _ h => List.mem_cons_of_mem _ (List.mem_append_right _ h)) (by decide +kernel))
set_option maxRecDepth 20000 in
theorem gX8_carryOut_X6_refusesDraws_n97 : GoodIn wsX8_carryOut (wsX6_refusesDraws) := ggX8_carryOut_X6_refusesDraws
set_option maxRecDepth 20000 in
theorem ggX8_carryOut_X6_letDraw : GoodIn wsX8_carryOut wsX6_letDraw := goodIn_ca (goodIn_r _ [128, 8, 129, 130, 131, 4, 132, 41, 7, 68, 69, 133, 118, 134, 135, 121, 136, 137, 138, 122, 75, 34, 76, 123, 124, 125, 80, 81, 82, 83, 84, 85, 86, 87, 88, 89, 90, 91, 23, 92, 93, 26, 27, 94, 95, 96, 97, 28, 29, 30, 31, 32, 33, 35, 36, 37, 38, 39, 40, 42, 10, 43, 44, 45, 46, 98, 99, 100, 199, 200, 201, 202, 203, 204, 205, 219, 220, 206, 207, 208, 209, 210, 211, 212, 213, 214, 221, 222, 223, 224, 225, 226, 227, 228, 229, 230, 231, 232, 233, 234] (by decide +kernel) (by decide +kernel)) (goodIn_sub (fun _ h => List.mem_cons_of_mem _ (List.mem_append_right _ h)) (by decide +kernel))
set_option maxRecDepth 20000 in
theorem gX8_carryOut_X6_letDraw_n102 : GoodIn wsX8_carryOut (wsX6_letDraw) := ggX8_carryOut_X6_letDraw
set_option maxRecDepth 20000 in
theorem ggX8_carryOut_X6_refusesNights : GoodIn wsX8_carryOut wsX6_refusesNights := goodIn_r _ [141, 110, 111, 112, 14, 15, 16, 17, 18, 19, 20, 21, 215, 216, 217, 218] (by decide +kernel) (by decide +kernel)
set_option maxRecDepth 20000 in
theorem gX8_carryOut_X6_refusesNights_n129 : GoodIn wsX8_carryOut (wsX6_refusesNights) := ggX8_carryOut_X6_refusesNights
set_option maxRecDepth 20000 in
theorem ggX8_carryOut_X6_letNightsPass : GoodIn wsX8_carryOut wsX6_letNightsPass := goodIn_ca (goodIn_r _ [144, 8, 7, 41, 69, 145, 10, 146, 147, 13, 148, 73, 149, 118, 150, 151, 152, 153, 136, 154, 155, 199, 200, 201, 202, 203, 204, 205, 219, 220, 221, 222, 223, 224, 225, 226, 227, 228, 206, 207, 208, 209, 210, 211, 212, 213, 214] (by decide +kernel) (by decide +kernel)) (goodIn_sub (fun _ h => List.mem_cons_of_mem _ (List.mem_append_right _ h)) (by decide +kernel))
set_option maxRecDepth 20000 in
theorem gX8_carryOut_X6_letNightsPass_n134 : GoodIn wsX8_carryOut (wsX6_letNightsPass) := ggX8_carryOut_X6_letNightsPass
set_option maxRecDepth 20000 in
theorem ggX8_carryOut_X6_refusesRain : GoodIn wsX8_carryOut wsX6_refusesRain := goodIn_r _ [158, 110, 111, 112, 14, 15, 16, 17, 18, 19, 20, 21, 215, 216, 217, 218] (by decide +kernel) (by decide +kernel)
set_option maxRecDepth 20000 in
theorem gX8_carryOut_X6_refusesRain_n115 : GoodIn wsX8_carryOut (wsX6_refusesRain) := ggX8_carryOut_X6_refusesRain
set_option maxRecDepth 20000 in
theorem ggX8_carryOut_X7_changeRain : GoodIn wsX8_carryOut wsX7_changeRain := goodIn_r _ [161, 152, 221, 222, 223, 224, 225, 226, 227, 228] (by decide +kernel) (by decide +kernel)
set_option maxRecDepth 20000 in
theorem gX8_carryOut_X7_changeRain_n124 : GoodIn wsX8_carryOut (wsX7_changeRain) := ggX8_carryOut_X7_changeRain
set_option maxRecDepth 20000 in
theorem ggX8_carryOut_X6_refusesVote : GoodIn wsX8_carryOut wsX6_refusesVote := goodIn_r _ [164, 7, 14, 15, 16, 17, 18, 19, 20, 21, 199, 200, 201, 202, 203, 204, 205, 206, 207, 208, 209, 210, 211, 212, 213, 214, 215, 216, 217, 218] (by decide +kernel) (by decide +kernel)
set_option maxRecDepth 20000 in
theorem gX8_carryOut_X6_refusesVote_n105 : GoodIn wsX8_carryOut (wsX6_refusesVote) := ggX8_carryOut_X6_refusesVote
set_option maxRecDepth 20000 in
theorem ggX8_carryOut_X6_letVote : GoodIn wsX8_carryOut wsX6_letVote := goodIn_ca (goodIn_r _ [167, 7, 40, 8, 68, 69, 168, 10, 169, 170, 171, 172, 173, 174, 13, 45, 175, 176, 177, 178, 179, 42, 43, 44, 46, 28, 29, 30, 4, 31, 32, 33, 34, 35, 36, 37, 38, 39, 41, 91, 23, 92, 93, 26, 27, 94, 95, 96, 97, 80, 81, 82, 83, 84, 85, 86, 87, 88, 89, 90, 75, 76, 199, 200, 201, 202, 203, 204, 205, 219, 220, 206, 207, 208, 209, 210, 211, 212, 213, 214, 221, 222, 223, 224, 225, 226, 227, 228, 229, 230, 231, 232, 233, 234] (by decide +kernel) (by decide +kernel)) (goodIn_sub (fun _ h => List.mem_cons_of_mem _ (List.mem_append_right _ h)) (by decide +kernel))
set_option maxRecDepth 20000 in
theorem gX8_carryOut_X6_letVote_n111 : GoodIn wsX8_carryOut (wsX6_letVote) := ggX8_carryOut_X6_letVote
set_option maxRecDepth 20000 in
theorem ggX8_carryOut_X6_refusesLeather : GoodIn wsX8_carryOut wsX6_refusesLeather := goodIn_r _ [182, 183, 14, 15, 16, 17, 18, 19, 20, 21, 199, 200, 201, 202, 203, 204, 205, 215, 216, 217, 218] (by decide +kernel) (by decide +kernel)
set_option maxRecDepth 20000 in
theorem gX8_carryOut_X6_refusesLeather_n145 : GoodIn wsX8_carryOut (wsX6_refusesLeather) := ggX8_carryOut_X6_refusesLeather
set_option maxRecDepth 20000 in
theorem ggX8_carryOut_X6_changeLeather : GoodIn wsX8_carryOut wsX6_changeLeather := goodIn_ca (goodIn_r _ [186, 183, 68, 69, 41, 80, 81, 82, 83, 84, 85, 86, 87, 88, 89, 90, 75, 34, 76, 187, 118, 188, 189, 121, 199, 200, 201, 202, 203, 204, 205, 229, 230, 231, 232, 233, 234, 221, 222, 223, 224, 225, 226, 227, 228] (by decide +kernel) (by decide +kernel)) (goodIn_sub (fun _ h => List.mem_cons_of_mem _ (List.mem_append_right _ h)) (by decide +kernel))
set_option maxRecDepth 20000 in
theorem gX8_carryOut_X6_changeLeather_n150 : GoodIn wsX8_carryOut (wsX6_changeLeather) := ggX8_carryOut_X6_changeLeather
theorem dX8_carryOut_0 : decode cX8_carryOut 0 = .ok (.iload_n 1, 1) := by decide +kernel
theorem dX8_carryOut_1 : decode cX8_carryOut 1 = .ok (.tableswitch 260 100 118 #[147, 260, 260, 260, 260, 260, 91, 260, 119, 260, 175, 260, 260, 260, 203, 260, 260, 260, 234], 91) := by decide +kernel
theorem dX8_carryOut_92 : decode cX8_carryOut 92 = .ok (.aload_n 0, 1) := by decide +kernel
theorem dX8_carryOut_93 : decode cX8_carryOut 93 = .ok (.getfield 10, 3) := by decide +kernel
theorem dX8_carryOut_96 : decode cX8_carryOut 96 = .ok (.iload_n 2, 1) := by decide +kernel
theorem dX8_carryOut_97 : decode cX8_carryOut 97 = .ok (.aload_n 0, 1) := by decide +kernel
theorem dX8_carryOut_98 : decode cX8_carryOut 98 = .ok (.getfield 32, 3) := by decide +kernel
theorem dX8_carryOut_101 : decode cX8_carryOut 101 = .ok (.invokevirtual 79, 3) := by decide +kernel
theorem dX8_carryOut_104 : decode cX8_carryOut 104 = .ok (.ifCond .eq 5, 3) := by decide +kernel
theorem dX8_carryOut_107 : decode cX8_carryOut 107 = .ok (.iconst 0, 1) := by decide +kernel
theorem dX8_carryOut_108 : decode cX8_carryOut 108 = .ok (.ireturn, 1) := by decide +kernel
theorem dX8_carryOut_109 : decode cX8_carryOut 109 = .ok (.aload_n 0, 1) := by decide +kernel
theorem dX8_carryOut_110 : decode cX8_carryOut 110 = .ok (.getfield 10, 3) := by decide +kernel
theorem dX8_carryOut_113 : decode cX8_carryOut 113 = .ok (.iload_n 2, 1) := by decide +kernel
theorem dX8_carryOut_114 : decode cX8_carryOut 114 = .ok (.invokevirtual 85, 3) := by decide +kernel
theorem dX8_carryOut_117 : decode cX8_carryOut 117 = .ok (.pop, 1) := by decide +kernel
theorem dX8_carryOut_118 : decode cX8_carryOut 118 = .ok (.iconst 1, 1) := by decide +kernel
theorem dX8_carryOut_119 : decode cX8_carryOut 119 = .ok (.ireturn, 1) := by decide +kernel
theorem dX8_carryOut_120 : decode cX8_carryOut 120 = .ok (.aload_n 0, 1) := by decide +kernel
theorem dX8_carryOut_121 : decode cX8_carryOut 121 = .ok (.getfield 10, 3) := by decide +kernel
theorem dX8_carryOut_124 : decode cX8_carryOut 124 = .ok (.iload_n 2, 1) := by decide +kernel
theorem dX8_carryOut_125 : decode cX8_carryOut 125 = .ok (.aload_n 0, 1) := by decide +kernel
theorem dX8_carryOut_126 : decode cX8_carryOut 126 = .ok (.getfield 32, 3) := by decide +kernel
theorem dX8_carryOut_129 : decode cX8_carryOut 129 = .ok (.invokevirtual 89, 3) := by decide +kernel
theorem dX8_carryOut_132 : decode cX8_carryOut 132 = .ok (.ifCond .eq 5, 3) := by decide +kernel
theorem dX8_carryOut_135 : decode cX8_carryOut 135 = .ok (.iconst 0, 1) := by decide +kernel
theorem dX8_carryOut_136 : decode cX8_carryOut 136 = .ok (.ireturn, 1) := by decide +kernel
theorem dX8_carryOut_137 : decode cX8_carryOut 137 = .ok (.aload_n 0, 1) := by decide +kernel
theorem dX8_carryOut_138 : decode cX8_carryOut 138 = .ok (.getfield 10, 3) := by decide +kernel
theorem dX8_carryOut_141 : decode cX8_carryOut 141 = .ok (.iload_n 2, 1) := by decide +kernel
theorem dX8_carryOut_142 : decode cX8_carryOut 142 = .ok (.invokevirtual 94, 3) := by decide +kernel
theorem dX8_carryOut_145 : decode cX8_carryOut 145 = .ok (.pop, 1) := by decide +kernel
theorem dX8_carryOut_146 : decode cX8_carryOut 146 = .ok (.iconst 1, 1) := by decide +kernel
theorem dX8_carryOut_147 : decode cX8_carryOut 147 = .ok (.ireturn, 1) := by decide +kernel
theorem dX8_carryOut_148 : decode cX8_carryOut 148 = .ok (.aload_n 0, 1) := by decide +kernel
theorem dX8_carryOut_149 : decode cX8_carryOut 149 = .ok (.getfield 10, 3) := by decide +kernel
theorem dX8_carryOut_152 : decode cX8_carryOut 152 = .ok (.iload_n 2, 1) := by decide +kernel
theorem dX8_carryOut_153 : decode cX8_carryOut 153 = .ok (.aload_n 0, 1) := by decide +kernel
theorem dX8_carryOut_154 : decode cX8_carryOut 154 = .ok (.getfield 32, 3) := by decide +kernel
theorem dX8_carryOut_157 : decode cX8_carryOut 157 = .ok (.invokevirtual 97, 3) := by decide +kernel
theorem dX8_carryOut_160 : decode cX8_carryOut 160 = .ok (.ifCond .eq 5, 3) := by decide +kernel
theorem dX8_carryOut_163 : decode cX8_carryOut 163 = .ok (.iconst 0, 1) := by decide +kernel
theorem dX8_carryOut_164 : decode cX8_carryOut 164 = .ok (.ireturn, 1) := by decide +kernel
theorem dX8_carryOut_165 : decode cX8_carryOut 165 = .ok (.aload_n 0, 1) := by decide +kernel
theorem dX8_carryOut_166 : decode cX8_carryOut 166 = .ok (.getfield 10, 3) := by decide +kernel
theorem dX8_carryOut_169 : decode cX8_carryOut 169 = .ok (.iload_n 2, 1) := by decide +kernel
theorem dX8_carryOut_170 : decode cX8_carryOut 170 = .ok (.invokevirtual 102, 3) := by decide +kernel
theorem dX8_carryOut_173 : decode cX8_carryOut 173 = .ok (.pop, 1) := by decide +kernel
theorem dX8_carryOut_174 : decode cX8_carryOut 174 = .ok (.iconst 1, 1) := by decide +kernel
theorem dX8_carryOut_175 : decode cX8_carryOut 175 = .ok (.ireturn, 1) := by decide +kernel
theorem dX8_carryOut_176 : decode cX8_carryOut 176 = .ok (.aload_n 0, 1) := by decide +kernel
theorem dX8_carryOut_177 : decode cX8_carryOut 177 = .ok (.getfield 10, 3) := by decide +kernel
theorem dX8_carryOut_180 : decode cX8_carryOut 180 = .ok (.iload_n 2, 1) := by decide +kernel
theorem dX8_carryOut_181 : decode cX8_carryOut 181 = .ok (.aload_n 0, 1) := by decide +kernel
theorem dX8_carryOut_182 : decode cX8_carryOut 182 = .ok (.getfield 32, 3) := by decide +kernel
theorem dX8_carryOut_185 : decode cX8_carryOut 185 = .ok (.invokevirtual 129, 3) := by decide +kernel
theorem dX8_carryOut_188 : decode cX8_carryOut 188 = .ok (.ifCond .eq 5, 3) := by decide +kernel
theorem dX8_carryOut_191 : decode cX8_carryOut 191 = .ok (.iconst 0, 1) := by decide +kernel
theorem dX8_carryOut_192 : decode cX8_carryOut 192 = .ok (.ireturn, 1) := by decide +kernel
theorem dX8_carryOut_193 : decode cX8_carryOut 193 = .ok (.aload_n 0, 1) := by decide +kernel
theorem dX8_carryOut_194 : decode cX8_carryOut 194 = .ok (.getfield 10, 3) := by decide +kernel
theorem dX8_carryOut_197 : decode cX8_carryOut 197 = .ok (.iload_n 2, 1) := by decide +kernel
theorem dX8_carryOut_198 : decode cX8_carryOut 198 = .ok (.invokevirtual 134, 3) := by decide +kernel
theorem dX8_carryOut_201 : decode cX8_carryOut 201 = .ok (.pop, 1) := by decide +kernel
theorem dX8_carryOut_202 : decode cX8_carryOut 202 = .ok (.iconst 1, 1) := by decide +kernel
theorem dX8_carryOut_203 : decode cX8_carryOut 203 = .ok (.ireturn, 1) := by decide +kernel
theorem dX8_carryOut_204 : decode cX8_carryOut 204 = .ok (.aload_n 0, 1) := by decide +kernel
theorem dX8_carryOut_205 : decode cX8_carryOut 205 = .ok (.getfield 10, 3) := by decide +kernel
theorem dX8_carryOut_208 : decode cX8_carryOut 208 = .ok (.iload_n 2, 1) := by decide +kernel
theorem dX8_carryOut_209 : decode cX8_carryOut 209 = .ok (.aload_n 0, 1) := by decide +kernel
theorem dX8_carryOut_210 : decode cX8_carryOut 210 = .ok (.getfield 32, 3) := by decide +kernel
theorem dX8_carryOut_213 : decode cX8_carryOut 213 = .ok (.invokevirtual 115, 3) := by decide +kernel
theorem dX8_carryOut_216 : decode cX8_carryOut 216 = .ok (.ifCond .eq 5, 3) := by decide +kernel
theorem dX8_carryOut_219 : decode cX8_carryOut 219 = .ok (.iconst 0, 1) := by decide +kernel
theorem dX8_carryOut_220 : decode cX8_carryOut 220 = .ok (.ireturn, 1) := by decide +kernel
theorem dX8_carryOut_221 : decode cX8_carryOut 221 = .ok (.aload_n 0, 1) := by decide +kernel
theorem dX8_carryOut_222 : decode cX8_carryOut 222 = .ok (.getfield 10, 3) := by decide +kernel
theorem dX8_carryOut_225 : decode cX8_carryOut 225 = .ok (.getfield 120, 3) := by decide +kernel
theorem dX8_carryOut_228 : decode cX8_carryOut 228 = .ok (.iload_n 2, 1) := by decide +kernel
theorem dX8_carryOut_229 : decode cX8_carryOut 229 = .ok (.invokevirtual 124, 3) := by decide +kernel
theorem dX8_carryOut_232 : decode cX8_carryOut 232 = .ok (.pop, 1) := by decide +kernel
theorem dX8_carryOut_233 : decode cX8_carryOut 233 = .ok (.iconst 1, 1) := by decide +kernel
theorem dX8_carryOut_234 : decode cX8_carryOut 234 = .ok (.ireturn, 1) := by decide +kernel
theorem dX8_carryOut_235 : decode cX8_carryOut 235 = .ok (.aload_n 0, 1) := by decide +kernel
theorem dX8_carryOut_236 : decode cX8_carryOut 236 = .ok (.getfield 10, 3) := by decide +kernel
theorem dX8_carryOut_239 : decode cX8_carryOut 239 = .ok (.aload_n 0, 1) := by decide +kernel
theorem dX8_carryOut_240 : decode cX8_carryOut 240 = .ok (.getfield 32, 3) := by decide +kernel
theorem dX8_carryOut_243 : decode cX8_carryOut 243 = .ok (.invokevirtual 105, 3) := by decide +kernel
theorem dX8_carryOut_246 : decode cX8_carryOut 246 = .ok (.ifCond .eq 5, 3) := by decide +kernel
theorem dX8_carryOut_249 : decode cX8_carryOut 249 = .ok (.iconst 0, 1) := by decide +kernel
theorem dX8_carryOut_250 : decode cX8_carryOut 250 = .ok (.ireturn, 1) := by decide +kernel
theorem dX8_carryOut_251 : decode cX8_carryOut 251 = .ok (.aload_n 0, 1) := by decide +kernel
theorem dX8_carryOut_252 : decode cX8_carryOut 252 = .ok (.getfield 10, 3) := by decide +kernel
theorem dX8_carryOut_255 : decode cX8_carryOut 255 = .ok (.invokevirtual 111, 3) := by decide +kernel
theorem dX8_carryOut_258 : decode cX8_carryOut 258 = .ok (.pop, 1) := by decide +kernel
theorem dX8_carryOut_259 : decode cX8_carryOut 259 = .ok (.iconst 1, 1) := by decide +kernel
theorem dX8_carryOut_260 : decode cX8_carryOut 260 = .ok (.ireturn, 1) := by decide +kernel
theorem dX8_carryOut_261 : decode cX8_carryOut 261 = .ok (.aload_n 0, 1) := by decide +kernel
theorem dX8_carryOut_262 : decode cX8_carryOut 262 = .ok (.getfield 10, 3) := by decide +kernel
theorem dX8_carryOut_265 : decode cX8_carryOut 265 = .ok (.aload_n 0, 1) := by decide +kernel
theorem dX8_carryOut_266 : decode cX8_carryOut 266 = .ok (.getfield 32, 3) := by decide +kernel
theorem dX8_carryOut_269 : decode cX8_carryOut 269 = .ok (.invokevirtual 145, 3) := by decide +kernel
theorem dX8_carryOut_272 : decode cX8_carryOut 272 = .ok (.ifCond .eq 5, 3) := by decide +kernel
theorem dX8_carryOut_275 : decode cX8_carryOut 275 = .ok (.iconst 0, 1) := by decide +kernel
theorem dX8_carryOut_276 : decode cX8_carryOut 276 = .ok (.ireturn, 1) := by decide +kernel
theorem dX8_carryOut_277 : decode cX8_carryOut 277 = .ok (.aload_n 0, 1) := by decide +kernel
theorem dX8_carryOut_278 : decode cX8_carryOut 278 = .ok (.getfield 10, 3) := by decide +kernel
theorem dX8_carryOut_281 : decode cX8_carryOut 281 = .ok (.invokevirtual 150, 3) := by decide +kernel
theorem dX8_carryOut_284 : decode cX8_carryOut 284 = .ok (.pop, 1) := by decide +kernel
theorem dX8_carryOut_285 : decode cX8_carryOut 285 = .ok (.iconst 1, 1) := by decide +kernel
theorem dX8_carryOut_286 : decode cX8_carryOut 286 = .ok (.ireturn, 1) := by decide +kernel
theorem dX9_init_0 : decode cX9_init 0 = .ok (.aload_n 0, 1) := by decide +kernel
theorem dX9_init_1 : decode cX9_init 1 = .ok (.invokespecial 3, 3) := by decide +kernel
theorem dX9_init_4 : decode cX9_init 4 = .ok (.aload_n 0, 1) := by decide +kernel
theorem dX9_init_5 : decode cX9_init 5 = .ok (.sipush 215, 3) := by decide +kernel
theorem dX9_init_8 : decode cX9_init 8 = .ok (.newarray .int, 2) := by decide +kernel
theorem dX9_init_10 : decode cX9_init 10 = .ok (.putfield 9, 3) := by decide +kernel
theorem dX9_init_13 : decode cX9_init 13 = .ok (.aload_n 0, 1) := by decide +kernel
theorem dX9_init_14 : decode cX9_init 14 = .ok (.sipush 215, 3) := by decide +kernel
theorem dX9_init_17 : decode cX9_init 17 = .ok (.newarray .int, 2) := by decide +kernel
theorem dX9_init_19 : decode cX9_init 19 = .ok (.putfield 13, 3) := by decide +kernel
theorem dX9_init_22 : decode cX9_init 22 = .ok (.aload_n 0, 1) := by decide +kernel
theorem dX9_init_23 : decode cX9_init 23 = .ok (.sipush 215, 3) := by decide +kernel
theorem dX9_init_26 : decode cX9_init 26 = .ok (.newarray .int, 2) := by decide +kernel
theorem dX9_init_28 : decode cX9_init 28 = .ok (.putfield 16, 3) := by decide +kernel
theorem dX9_init_31 : decode cX9_init 31 = .ok (.aload_n 0, 1) := by decide +kernel
theorem dX9_init_32 : decode cX9_init 32 = .ok (.sipush 215, 3) := by decide +kernel
theorem dX9_init_35 : decode cX9_init 35 = .ok (.newarray .int, 2) := by decide +kernel
theorem dX9_init_37 : decode cX9_init 37 = .ok (.putfield 19, 3) := by decide +kernel
theorem dX9_init_40 : decode cX9_init 40 = .ok (.aload_n 0, 1) := by decide +kernel
theorem dX9_init_41 : decode cX9_init 41 = .ok (.sipush 1720, 3) := by decide +kernel
theorem dX9_init_44 : decode cX9_init 44 = .ok (.newarray .int, 2) := by decide +kernel
theorem dX9_init_46 : decode cX9_init 46 = .ok (.putfield 22, 3) := by decide +kernel
theorem dX9_init_49 : decode cX9_init 49 = .ok (.aload_n 0, 1) := by decide +kernel
theorem dX9_init_50 : decode cX9_init 50 = .ok (.bipush 60, 2) := by decide +kernel
theorem dX9_init_52 : decode cX9_init 52 = .ok (.newarray .int, 2) := by decide +kernel
theorem dX9_init_54 : decode cX9_init 54 = .ok (.putfield 25, 3) := by decide +kernel
theorem dX9_init_57 : decode cX9_init 57 = .ok (.aload_n 0, 1) := by decide +kernel
theorem dX9_init_58 : decode cX9_init 58 = .ok (.iconst (-1), 1) := by decide +kernel
theorem dX9_init_59 : decode cX9_init 59 = .ok (.putfield 28, 3) := by decide +kernel
theorem dX9_init_62 : decode cX9_init 62 = .ok (.aload_n 0, 1) := by decide +kernel
theorem dX9_init_63 : decode cX9_init 63 = .ok (.bipush 60, 2) := by decide +kernel
theorem dX9_init_65 : decode cX9_init 65 = .ok (.newarray .int, 2) := by decide +kernel
theorem dX9_init_67 : decode cX9_init 67 = .ok (.putfield 32, 3) := by decide +kernel
theorem dX9_init_70 : decode cX9_init 70 = .ok (.aload_n 0, 1) := by decide +kernel
theorem dX9_init_71 : decode cX9_init 71 = .ok (.bipush 40, 2) := by decide +kernel
theorem dX9_init_73 : decode cX9_init 73 = .ok (.newarray .int, 2) := by decide +kernel
theorem dX9_init_75 : decode cX9_init 75 = .ok (.putfield 35, 3) := by decide +kernel
theorem dX9_init_78 : decode cX9_init 78 = .ok (.aload_n 0, 1) := by decide +kernel
theorem dX9_init_79 : decode cX9_init 79 = .ok (.bipush 40, 2) := by decide +kernel
theorem dX9_init_81 : decode cX9_init 81 = .ok (.newarray .int, 2) := by decide +kernel
theorem dX9_init_83 : decode cX9_init 83 = .ok (.putfield 38, 3) := by decide +kernel
theorem dX9_init_86 : decode cX9_init 86 = .ok (.aload_n 0, 1) := by decide +kernel
theorem dX9_init_87 : decode cX9_init 87 = .ok (.getfield 9, 3) := by decide +kernel
theorem dX9_init_90 : decode cX9_init 90 = .ok (.sipush 204, 3) := by decide +kernel
theorem dX9_init_93 : decode cX9_init 93 = .ok (.sipush 500, 3) := by decide +kernel
theorem dX9_init_96 : decode cX9_init 96 = .ok (.iastore, 1) := by decide +kernel
theorem dX9_init_97 : decode cX9_init 97 = .ok (.aload_n 0, 1) := by decide +kernel
theorem dX9_init_98 : decode cX9_init 98 = .ok (.getfield 9, 3) := by decide +kernel
theorem dX9_init_101 : decode cX9_init 101 = .ok (.sipush 208, 3) := by decide +kernel
theorem dX9_init_104 : decode cX9_init 104 = .ok (.iconst 2, 1) := by decide +kernel
theorem dX9_init_105 : decode cX9_init 105 = .ok (.iastore, 1) := by decide +kernel
theorem dX9_init_106 : decode cX9_init 106 = .ok (.return_, 1) := by decide +kernel
theorem dX9_thrown_0 : decode cX9_thrown 0 = .ok (.aload_n 0, 1) := by decide +kernel
theorem dX9_thrown_1 : decode cX9_thrown 1 = .ok (.getfield 41, 3) := by decide +kernel
theorem dX9_thrown_4 : decode cX9_thrown 4 = .ok (.ireturn, 1) := by decide +kernel
theorem dX9_isIn_0 : decode cX9_isIn 0 = .ok (.iload_n 0, 1) := by decide +kernel
theorem dX9_isIn_1 : decode cX9_isIn 1 = .ok (.iload_n 1, 1) := by decide +kernel
theorem dX9_isIn_2 : decode cX9_isIn 2 = .ok (.if_icmp .lt 12, 3) := by decide +kernel
theorem dX9_isIn_5 : decode cX9_isIn 5 = .ok (.iload_n 0, 1) := by decide +kernel
theorem dX9_isIn_6 : decode cX9_isIn 6 = .ok (.iload_n 2, 1) := by decide +kernel
theorem dX9_isIn_7 : decode cX9_isIn 7 = .ok (.if_icmp .gt 7, 3) := by decide +kernel
theorem dX9_isIn_10 : decode cX9_isIn 10 = .ok (.iconst 1, 1) := by decide +kernel
theorem dX9_isIn_11 : decode cX9_isIn 11 = .ok (.goto 4, 3) := by decide +kernel
theorem dX9_isIn_14 : decode cX9_isIn 14 = .ok (.iconst 0, 1) := by decide +kernel
theorem dX9_isIn_15 : decode cX9_isIn 15 = .ok (.ireturn, 1) := by decide +kernel
theorem dX9_copies_0 : decode cX9_copies 0 = .ok (.iconst 0, 1) := by decide +kernel
theorem dX9_copies_1 : decode cX9_copies 1 = .ok (.istore 4, 2) := by decide +kernel
theorem dX9_copies_3 : decode cX9_copies 3 = .ok (.iload 4, 2) := by decide +kernel
theorem dX9_copies_5 : decode cX9_copies 5 = .ok (.sipush 215, 3) := by decide +kernel
theorem dX9_copies_8 : decode cX9_copies 8 = .ok (.if_icmp .ge 21, 3) := by decide +kernel
theorem dX9_copies_11 : decode cX9_copies 11 = .ok (.aload_n 2, 1) := by decide +kernel
theorem dX9_copies_12 : decode cX9_copies 12 = .ok (.iload_n 3, 1) := by decide +kernel
theorem dX9_copies_13 : decode cX9_copies 13 = .ok (.iload 4, 2) := by decide +kernel
theorem dX9_copies_15 : decode cX9_copies 15 = .ok (.iadd, 1) := by decide +kernel
theorem dX9_copies_16 : decode cX9_copies 16 = .ok (.aload_n 0, 1) := by decide +kernel
theorem dX9_copies_17 : decode cX9_copies 17 = .ok (.iload_n 1, 1) := by decide +kernel
theorem dX9_copies_18 : decode cX9_copies 18 = .ok (.iload 4, 2) := by decide +kernel
theorem dX9_copies_20 : decode cX9_copies 20 = .ok (.iadd, 1) := by decide +kernel
theorem dX9_copies_21 : decode cX9_copies 21 = .ok (.iaload, 1) := by decide +kernel
theorem dX9_copies_22 : decode cX9_copies 22 = .ok (.iastore, 1) := by decide +kernel
theorem dX9_copies_23 : decode cX9_copies 23 = .ok (.iinc 4 1, 3) := by decide +kernel
theorem dX9_copies_26 : decode cX9_copies 26 = .ok (.goto (-23), 3) := by decide +kernel
theorem dX9_copies_29 : decode cX9_copies 29 = .ok (.return_, 1) := by decide +kernel
theorem dX9_hinders_0 : decode cX9_hinders 0 = .ok (.iload_n 1, 1) := by decide +kernel
theorem dX9_hinders_1 : decode cX9_hinders 1 = .ok (.ifCond .eq 20, 3) := by decide +kernel
theorem dX9_hinders_4 : decode cX9_hinders 4 = .ok (.aload_n 0, 1) := by decide +kernel
theorem dX9_hinders_5 : decode cX9_hinders 5 = .ok (.getfield 44, 3) := by decide +kernel
theorem dX9_hinders_8 : decode cX9_hinders 8 = .ok (.ifCond .ne 13, 3) := by decide +kernel
theorem dX9_hinders_11 : decode cX9_hinders 11 = .ok (.aload_n 0, 1) := by decide +kernel
theorem dX9_hinders_12 : decode cX9_hinders 12 = .ok (.iload_n 2, 1) := by decide +kernel
theorem dX9_hinders_13 : decode cX9_hinders 13 = .ok (.putfield 44, 3) := by decide +kernel
theorem dX9_hinders_16 : decode cX9_hinders 16 = .ok (.aload_n 0, 1) := by decide +kernel
theorem dX9_hinders_17 : decode cX9_hinders 17 = .ok (.iload_n 3, 1) := by decide +kernel
theorem dX9_hinders_18 : decode cX9_hinders 18 = .ok (.putfield 47, 3) := by decide +kernel
theorem dX9_hinders_21 : decode cX9_hinders 21 = .ok (.return_, 1) := by decide +kernel
set_option maxRecDepth 20000 in
theorem ggX9_begins_X9_copies : GoodIn wsX9_begins wsX9_copies := goodIn_ca (goodIn_r _ [7] (by decide +kernel) (by decide +kernel)) (goodIn_sub (fun _ h => List.mem_cons_of_mem _ (List.mem_append_right _ h)) (by decide +kernel))
set_option maxRecDepth 20000 in
theorem gX9_begins_X9_copies : GoodIn wsX9_begins (va_wsS RX9 50 yX9_copies wsX9_copies) := goodIn_app (goodIn_of _ (by decide +kernel)) ggX9_begins_X9_copies
theorem dX9_begins_0 : decode cX9_begins 0 = .ok (.aload_n 0, 1) := by decide +kernel
theorem dX9_begins_1 : decode cX9_begins 1 = .ok (.getfield 9, 3) := by decide +kernel
theorem dX9_begins_4 : decode cX9_begins 4 = .ok (.iconst 0, 1) := by decide +kernel
theorem dX9_begins_5 : decode cX9_begins 5 = .ok (.aload_n 0, 1) := by decide +kernel
theorem dX9_begins_6 : decode cX9_begins 6 = .ok (.getfield 13, 3) := by decide +kernel
theorem dX9_begins_9 : decode cX9_begins 9 = .ok (.iconst 0, 1) := by decide +kernel
theorem dX9_begins_10 : decode cX9_begins 10 = .ok (.invokestatic 50, 3) := by decide +kernel
theorem dX9_begins_13 : decode cX9_begins 13 = .ok (.aload_n 0, 1) := by decide +kernel
theorem dX9_begins_14 : decode cX9_begins 14 = .ok (.iconst 0, 1) := by decide +kernel
theorem dX9_begins_15 : decode cX9_begins 15 = .ok (.putfield 44, 3) := by decide +kernel
theorem dX9_begins_18 : decode cX9_begins 18 = .ok (.return_, 1) := by decide +kernel
set_option maxRecDepth 20000 in
theorem ggX9_remembers_X9_copies : GoodIn wsX9_remembers wsX9_copies := goodIn_ca (goodIn_r _ [7] (by decide +kernel) (by decide +kernel)) (goodIn_sub (fun _ h => List.mem_cons_of_mem _ (List.mem_append_right _ h)) (by decide +kernel))
set_option maxRecDepth 20000 in
theorem gX9_remembers_X9_copies : GoodIn wsX9_remembers (va_wsS RX9 50 yX9_copies wsX9_copies) := goodIn_app (goodIn_of _ (by decide +kernel)) ggX9_remembers_X9_copies
theorem dX9_remembers_0 : decode cX9_remembers 0 = .ok (.aload_n 0, 1) := by decide +kernel
theorem dX9_remembers_1 : decode cX9_remembers 1 = .ok (.getfield 54, 3) := by decide +kernel
theorem dX9_remembers_4 : decode cX9_remembers 4 = .ok (.bipush 8, 2) := by decide +kernel
theorem dX9_remembers_6 : decode cX9_remembers 6 = .ok (.if_icmp .ne 44, 3) := by decide +kernel
theorem dX9_remembers_9 : decode cX9_remembers 9 = .ok (.iconst 0, 1) := by decide +kernel
theorem dX9_remembers_10 : decode cX9_remembers 10 = .ok (.istore_n 1, 1) := by decide +kernel
theorem dX9_remembers_11 : decode cX9_remembers 11 = .ok (.iload_n 1, 1) := by decide +kernel
theorem dX9_remembers_12 : decode cX9_remembers 12 = .ok (.sipush 1505, 3) := by decide +kernel
theorem dX9_remembers_15 : decode cX9_remembers 15 = .ok (.if_icmp .ge 25, 3) := by decide +kernel
theorem dX9_remembers_18 : decode cX9_remembers 18 = .ok (.aload_n 0, 1) := by decide +kernel
theorem dX9_remembers_19 : decode cX9_remembers 19 = .ok (.getfield 22, 3) := by decide +kernel
theorem dX9_remembers_22 : decode cX9_remembers 22 = .ok (.iload_n 1, 1) := by decide +kernel
theorem dX9_remembers_23 : decode cX9_remembers 23 = .ok (.aload_n 0, 1) := by decide +kernel
theorem dX9_remembers_24 : decode cX9_remembers 24 = .ok (.getfield 22, 3) := by decide +kernel
theorem dX9_remembers_27 : decode cX9_remembers 27 = .ok (.iload_n 1, 1) := by decide +kernel
theorem dX9_remembers_28 : decode cX9_remembers 28 = .ok (.sipush 215, 3) := by decide +kernel
theorem dX9_remembers_31 : decode cX9_remembers 31 = .ok (.iadd, 1) := by decide +kernel
theorem dX9_remembers_32 : decode cX9_remembers 32 = .ok (.iaload, 1) := by decide +kernel
theorem dX9_remembers_33 : decode cX9_remembers 33 = .ok (.iastore, 1) := by decide +kernel
theorem dX9_remembers_34 : decode cX9_remembers 34 = .ok (.iinc 1 1, 3) := by decide +kernel
theorem dX9_remembers_37 : decode cX9_remembers 37 = .ok (.goto (-26), 3) := by decide +kernel
theorem dX9_remembers_40 : decode cX9_remembers 40 = .ok (.aload_n 0, 1) := by decide +kernel
theorem dX9_remembers_41 : decode cX9_remembers 41 = .ok (.dup, 1) := by decide +kernel
theorem dX9_remembers_42 : decode cX9_remembers 42 = .ok (.getfield 54, 3) := by decide +kernel
theorem dX9_remembers_45 : decode cX9_remembers 45 = .ok (.iconst 1, 1) := by decide +kernel
theorem dX9_remembers_46 : decode cX9_remembers 46 = .ok (.isub, 1) := by decide +kernel
theorem dX9_remembers_47 : decode cX9_remembers 47 = .ok (.putfield 54, 3) := by decide +kernel
theorem dX9_remembers_50 : decode cX9_remembers 50 = .ok (.aload_n 0, 1) := by decide +kernel
theorem dX9_remembers_51 : decode cX9_remembers 51 = .ok (.getfield 13, 3) := by decide +kernel
theorem dX9_remembers_54 : decode cX9_remembers 54 = .ok (.iconst 0, 1) := by decide +kernel
theorem dX9_remembers_55 : decode cX9_remembers 55 = .ok (.aload_n 0, 1) := by decide +kernel
theorem dX9_remembers_56 : decode cX9_remembers 56 = .ok (.getfield 22, 3) := by decide +kernel
theorem dX9_remembers_59 : decode cX9_remembers 59 = .ok (.aload_n 0, 1) := by decide +kernel
theorem dX9_remembers_60 : decode cX9_remembers 60 = .ok (.getfield 54, 3) := by decide +kernel
theorem dX9_remembers_63 : decode cX9_remembers 63 = .ok (.sipush 215, 3) := by decide +kernel
theorem dX9_remembers_66 : decode cX9_remembers 66 = .ok (.imul, 1) := by decide +kernel
theorem dX9_remembers_67 : decode cX9_remembers 67 = .ok (.invokestatic 50, 3) := by decide +kernel
theorem dX9_remembers_70 : decode cX9_remembers 70 = .ok (.aload_n 0, 1) := by decide +kernel
theorem dX9_remembers_71 : decode cX9_remembers 71 = .ok (.dup, 1) := by decide +kernel
theorem dX9_remembers_72 : decode cX9_remembers 72 = .ok (.getfield 54, 3) := by decide +kernel
theorem dX9_remembers_75 : decode cX9_remembers 75 = .ok (.iconst 1, 1) := by decide +kernel
theorem dX9_remembers_76 : decode cX9_remembers 76 = .ok (.iadd, 1) := by decide +kernel
theorem dX9_remembers_77 : decode cX9_remembers 77 = .ok (.putfield 54, 3) := by decide +kernel
theorem dX9_remembers_80 : decode cX9_remembers 80 = .ok (.return_, 1) := by decide +kernel
set_option maxRecDepth 20000 in
theorem ggX9_ends_X9_copies : GoodIn wsX9_ends wsX9_copies := goodIn_ca (goodIn_r _ [12] (by decide +kernel) (by decide +kernel)) (goodIn_sub (fun _ h => List.mem_cons_of_mem _ (List.mem_append_right _ h)) (by decide +kernel))
set_option maxRecDepth 20000 in
theorem gX9_ends_X9_copies : GoodIn wsX9_ends (va_wsS RX9 50 yX9_copies wsX9_copies) := goodIn_app (goodIn_of _ (by decide +kernel)) ggX9_ends_X9_copies
set_option maxRecDepth 20000 in
theorem ggX9_ends_X9_remembers : GoodIn wsX9_ends wsX9_remembers := goodIn_ca (goodIn_r _ [16, 17, 18, 7, 9, 10, 11, 12, 19, 20, 21, 22, 23, 24, 25, 26, 27, 28, 29, 30, 31, 32, 33, 34, 35, 36, 37, 38, 39, 40, 41, 42] (by decide +kernel) (by decide +kernel)) (goodIn_sub (fun _ h => List.mem_cons_of_mem _ (List.mem_append_right _ h)) (by decide +kernel))
set_option maxRecDepth 20000 in
theorem gX9_ends_X9_remembers : GoodIn wsX9_ends (wsV RX9 66 RX9 yX9_remembers wsX9_remembers) := goodIn_app (goodIn_of _ (by decide +kernel)) ggX9_ends_X9_remembers
theorem dX9_ends_0 : decode cX9_ends 0 = .ok (.aload_n 0, 1) := by decide +kernel
theorem dX9_ends_1 : decode cX9_ends 1 = .ok (.aload_n 0, 1) := by decide +kernel
theorem dX9_ends_2 : decode cX9_ends 2 = .ok (.getfield 44, 3) := by decide +kernel
theorem dX9_ends_5 : decode cX9_ends 5 = .ok (.ifCond .ne 7, 3) := by decide +kernel
theorem dX9_ends_8 : decode cX9_ends 8 = .ok (.iconst 0, 1) := by decide +kernel
theorem dX9_ends_9 : decode cX9_ends 9 = .ok (.goto 4, 3) := by decide +kernel
theorem dX9_ends_12 : decode cX9_ends 12 = .ok (.iload_n 2, 1) := by decide +kernel
theorem dX9_ends_13 : decode cX9_ends 13 = .ok (.putfield 41, 3) := by decide +kernel
theorem dX9_ends_16 : decode cX9_ends 16 = .ok (.aload_n 0, 1) := by decide +kernel
theorem dX9_ends_17 : decode cX9_ends 17 = .ok (.getfield 44, 3) := by decide +kernel
theorem dX9_ends_20 : decode cX9_ends 20 = .ok (.ifCond .eq 39, 3) := by decide +kernel
theorem dX9_ends_23 : decode cX9_ends 23 = .ok (.aload_n 0, 1) := by decide +kernel
theorem dX9_ends_24 : decode cX9_ends 24 = .ok (.aload_n 0, 1) := by decide +kernel
theorem dX9_ends_25 : decode cX9_ends 25 = .ok (.getfield 44, 3) := by decide +kernel
theorem dX9_ends_28 : decode cX9_ends 28 = .ok (.putfield 57, 3) := by decide +kernel
theorem dX9_ends_31 : decode cX9_ends 31 = .ok (.aload_n 0, 1) := by decide +kernel
theorem dX9_ends_32 : decode cX9_ends 32 = .ok (.aload_n 0, 1) := by decide +kernel
theorem dX9_ends_33 : decode cX9_ends 33 = .ok (.getfield 47, 3) := by decide +kernel
theorem dX9_ends_36 : decode cX9_ends 36 = .ok (.putfield 60, 3) := by decide +kernel
theorem dX9_ends_39 : decode cX9_ends 39 = .ok (.aload_n 0, 1) := by decide +kernel
theorem dX9_ends_40 : decode cX9_ends 40 = .ok (.iload_n 3, 1) := by decide +kernel
theorem dX9_ends_41 : decode cX9_ends 41 = .ok (.putfield 63, 3) := by decide +kernel
theorem dX9_ends_44 : decode cX9_ends 44 = .ok (.aload_n 0, 1) := by decide +kernel
theorem dX9_ends_45 : decode cX9_ends 45 = .ok (.getfield 13, 3) := by decide +kernel
theorem dX9_ends_48 : decode cX9_ends 48 = .ok (.iconst 0, 1) := by decide +kernel
theorem dX9_ends_49 : decode cX9_ends 49 = .ok (.aload_n 0, 1) := by decide +kernel
theorem dX9_ends_50 : decode cX9_ends 50 = .ok (.getfield 9, 3) := by decide +kernel
theorem dX9_ends_53 : decode cX9_ends 53 = .ok (.iconst 0, 1) := by decide +kernel
theorem dX9_ends_54 : decode cX9_ends 54 = .ok (.invokestatic 50, 3) := by decide +kernel
theorem dX9_ends_57 : decode cX9_ends 57 = .ok (.iconst 0, 1) := by decide +kernel
theorem dX9_ends_58 : decode cX9_ends 58 = .ok (.ireturn, 1) := by decide +kernel
theorem dX9_ends_59 : decode cX9_ends 59 = .ok (.aload_n 0, 1) := by decide +kernel
theorem dX9_ends_60 : decode cX9_ends 60 = .ok (.invokevirtual 66, 3) := by decide +kernel
theorem dX9_ends_63 : decode cX9_ends 63 = .ok (.iload_n 1, 1) := by decide +kernel
theorem dX9_ends_64 : decode cX9_ends 64 = .ok (.ireturn, 1) := by decide +kernel
set_option maxRecDepth 20000 in
theorem ggX9_reason_X9_isIn : GoodIn wsX9_reason wsX9_isIn := goodIn_r _ [8] (by decide +kernel) (by decide +kernel)
set_option maxRecDepth 20000 in
theorem gX9_reason_X9_isIn : GoodIn wsX9_reason (va_wsS RX9 69 yX9_isIn wsX9_isIn) := goodIn_app (goodIn_of _ (by decide +kernel)) ggX9_reason_X9_isIn
theorem dX9_reason_0 : decode cX9_reason 0 = .ok (.aload_n 0, 1) := by decide +kernel
theorem dX9_reason_1 : decode cX9_reason 1 = .ok (.iload_n 1, 1) := by decide +kernel
theorem dX9_reason_2 : decode cX9_reason 2 = .ok (.iconst 0, 1) := by decide +kernel
theorem dX9_reason_3 : decode cX9_reason 3 = .ok (.iconst 2, 1) := by decide +kernel
theorem dX9_reason_4 : decode cX9_reason 4 = .ok (.invokestatic 69, 3) := by decide +kernel
theorem dX9_reason_7 : decode cX9_reason 7 = .ok (.ifCond .ne 7, 3) := by decide +kernel
theorem dX9_reason_10 : decode cX9_reason 10 = .ok (.iconst 1, 1) := by decide +kernel
theorem dX9_reason_11 : decode cX9_reason 11 = .ok (.goto 15, 3) := by decide +kernel
theorem dX9_reason_14 : decode cX9_reason 14 = .ok (.aload_n 0, 1) := by decide +kernel
theorem dX9_reason_15 : decode cX9_reason 15 = .ok (.getfield 57, 3) := by decide +kernel
theorem dX9_reason_18 : decode cX9_reason 18 = .ok (.ifCond .ne 7, 3) := by decide +kernel
theorem dX9_reason_21 : decode cX9_reason 21 = .ok (.iconst 2, 1) := by decide +kernel
theorem dX9_reason_22 : decode cX9_reason 22 = .ok (.goto 4, 3) := by decide +kernel
theorem dX9_reason_25 : decode cX9_reason 25 = .ok (.iconst 0, 1) := by decide +kernel
theorem dX9_reason_26 : decode cX9_reason 26 = .ok (.putfield 41, 3) := by decide +kernel
theorem dX9_reason_29 : decode cX9_reason 29 = .ok (.aload_n 0, 1) := by decide +kernel
theorem dX9_reason_30 : decode cX9_reason 30 = .ok (.getfield 41, 3) := by decide +kernel
theorem dX9_reason_33 : decode cX9_reason 33 = .ok (.ifCond .eq 7, 3) := by decide +kernel
theorem dX9_reason_36 : decode cX9_reason 36 = .ok (.iconst 0, 1) := by decide +kernel
theorem dX9_reason_37 : decode cX9_reason 37 = .ok (.goto 30, 3) := by decide +kernel
theorem dX9_reason_40 : decode cX9_reason 40 = .ok (.iload_n 1, 1) := by decide +kernel
theorem dX9_reason_41 : decode cX9_reason 41 = .ok (.ifCond .ne 10, 3) := by decide +kernel
theorem dX9_reason_44 : decode cX9_reason 44 = .ok (.aload_n 0, 1) := by decide +kernel
theorem dX9_reason_45 : decode cX9_reason 45 = .ok (.getfield 57, 3) := by decide +kernel
theorem dX9_reason_48 : decode cX9_reason 48 = .ok (.goto 19, 3) := by decide +kernel
theorem dX9_reason_51 : decode cX9_reason 51 = .ok (.iload_n 1, 1) := by decide +kernel
theorem dX9_reason_52 : decode cX9_reason 52 = .ok (.iconst 1, 1) := by decide +kernel
theorem dX9_reason_53 : decode cX9_reason 53 = .ok (.if_icmp .ne 10, 3) := by decide +kernel
theorem dX9_reason_56 : decode cX9_reason 56 = .ok (.aload_n 0, 1) := by decide +kernel
theorem dX9_reason_57 : decode cX9_reason 57 = .ok (.getfield 60, 3) := by decide +kernel
theorem dX9_reason_60 : decode cX9_reason 60 = .ok (.goto 7, 3) := by decide +kernel
theorem dX9_reason_63 : decode cX9_reason 63 = .ok (.aload_n 0, 1) := by decide +kernel
theorem dX9_reason_64 : decode cX9_reason 64 = .ok (.getfield 63, 3) := by decide +kernel
theorem dX9_reason_67 : decode cX9_reason 67 = .ok (.ireturn, 1) := by decide +kernel
set_option maxRecDepth 20000 in
theorem ggX9_undo_X9_copies : GoodIn wsX9_undo wsX9_copies := goodIn_ca (goodIn_r _ [8] (by decide +kernel) (by decide +kernel)) (goodIn_sub (fun _ h => List.mem_cons_of_mem _ (List.mem_append_right _ h)) (by decide +kernel))
set_option maxRecDepth 20000 in
theorem gX9_undo_X9_copies : GoodIn wsX9_undo (va_wsS RX9 50 yX9_copies wsX9_copies) := goodIn_app (goodIn_of _ (by decide +kernel)) ggX9_undo_X9_copies
theorem dX9_undo_0 : decode cX9_undo 0 = .ok (.aload_n 0, 1) := by decide +kernel
theorem dX9_undo_1 : decode cX9_undo 1 = .ok (.aload_n 0, 1) := by decide +kernel
theorem dX9_undo_2 : decode cX9_undo 2 = .ok (.getfield 54, 3) := by decide +kernel
theorem dX9_undo_5 : decode cX9_undo 5 = .ok (.ifCond .ne 7, 3) := by decide +kernel
theorem dX9_undo_8 : decode cX9_undo 8 = .ok (.iconst 1, 1) := by decide +kernel
theorem dX9_undo_9 : decode cX9_undo 9 = .ok (.goto 4, 3) := by decide +kernel
theorem dX9_undo_12 : decode cX9_undo 12 = .ok (.iconst 0, 1) := by decide +kernel
theorem dX9_undo_13 : decode cX9_undo 13 = .ok (.putfield 41, 3) := by decide +kernel
theorem dX9_undo_16 : decode cX9_undo 16 = .ok (.aload_n 0, 1) := by decide +kernel
theorem dX9_undo_17 : decode cX9_undo 17 = .ok (.getfield 41, 3) := by decide +kernel
theorem dX9_undo_20 : decode cX9_undo 20 = .ok (.ifCond .eq 5, 3) := by decide +kernel
theorem dX9_undo_23 : decode cX9_undo 23 = .ok (.iconst 0, 1) := by decide +kernel
theorem dX9_undo_24 : decode cX9_undo 24 = .ok (.ireturn, 1) := by decide +kernel
theorem dX9_undo_25 : decode cX9_undo 25 = .ok (.aload_n 0, 1) := by decide +kernel
theorem dX9_undo_26 : decode cX9_undo 26 = .ok (.dup, 1) := by decide +kernel
theorem dX9_undo_27 : decode cX9_undo 27 = .ok (.getfield 54, 3) := by decide +kernel
theorem dX9_undo_30 : decode cX9_undo 30 = .ok (.iconst 1, 1) := by decide +kernel
theorem dX9_undo_31 : decode cX9_undo 31 = .ok (.isub, 1) := by decide +kernel
theorem dX9_undo_32 : decode cX9_undo 32 = .ok (.putfield 54, 3) := by decide +kernel
theorem dX9_undo_35 : decode cX9_undo 35 = .ok (.aload_n 0, 1) := by decide +kernel
theorem dX9_undo_36 : decode cX9_undo 36 = .ok (.getfield 22, 3) := by decide +kernel
theorem dX9_undo_39 : decode cX9_undo 39 = .ok (.aload_n 0, 1) := by decide +kernel
theorem dX9_undo_40 : decode cX9_undo 40 = .ok (.getfield 54, 3) := by decide +kernel
theorem dX9_undo_43 : decode cX9_undo 43 = .ok (.sipush 215, 3) := by decide +kernel
theorem dX9_undo_46 : decode cX9_undo 46 = .ok (.imul, 1) := by decide +kernel
theorem dX9_undo_47 : decode cX9_undo 47 = .ok (.aload_n 0, 1) := by decide +kernel
theorem dX9_undo_48 : decode cX9_undo 48 = .ok (.getfield 9, 3) := by decide +kernel
theorem dX9_undo_51 : decode cX9_undo 51 = .ok (.iconst 0, 1) := by decide +kernel
theorem dX9_undo_52 : decode cX9_undo 52 = .ok (.invokestatic 50, 3) := by decide +kernel
theorem dX9_undo_55 : decode cX9_undo 55 = .ok (.aload_n 0, 1) := by decide +kernel
theorem dX9_undo_56 : decode cX9_undo 56 = .ok (.getfield 54, 3) := by decide +kernel
theorem dX9_undo_59 : decode cX9_undo 59 = .ok (.ireturn, 1) := by decide +kernel
set_option maxRecDepth 20000 in
theorem ggX9_save_X9_copies : GoodIn wsX9_save wsX9_copies := goodIn_ca (goodIn_r _ [8] (by decide +kernel) (by decide +kernel)) (goodIn_sub (fun _ h => List.mem_cons_of_mem _ (List.mem_append_right _ h)) (by decide +kernel))
set_option maxRecDepth 20000 in
theorem gX9_save_X9_copies : GoodIn wsX9_save (va_wsS RX9 50 yX9_copies wsX9_copies) := goodIn_app (goodIn_of _ (by decide +kernel)) ggX9_save_X9_copies
theorem dX9_save_0 : decode cX9_save 0 = .ok (.aload_n 0, 1) := by decide +kernel
theorem dX9_save_1 : decode cX9_save 1 = .ok (.iconst 0, 1) := by decide +kernel
theorem dX9_save_2 : decode cX9_save 2 = .ok (.putfield 41, 3) := by decide +kernel
theorem dX9_save_5 : decode cX9_save 5 = .ok (.aload_n 0, 1) := by decide +kernel
theorem dX9_save_6 : decode cX9_save 6 = .ok (.getfield 9, 3) := by decide +kernel
theorem dX9_save_9 : decode cX9_save 9 = .ok (.iconst 0, 1) := by decide +kernel
theorem dX9_save_10 : decode cX9_save 10 = .ok (.aload_n 0, 1) := by decide +kernel
theorem dX9_save_11 : decode cX9_save 11 = .ok (.getfield 19, 3) := by decide +kernel
theorem dX9_save_14 : decode cX9_save 14 = .ok (.iconst 0, 1) := by decide +kernel
theorem dX9_save_15 : decode cX9_save 15 = .ok (.invokestatic 50, 3) := by decide +kernel
theorem dX9_save_18 : decode cX9_save 18 = .ok (.aload_n 0, 1) := by decide +kernel
theorem dX9_save_19 : decode cX9_save 19 = .ok (.iconst 1, 1) := by decide +kernel
theorem dX9_save_20 : decode cX9_save 20 = .ok (.putfield 73, 3) := by decide +kernel
theorem dX9_save_23 : decode cX9_save 23 = .ok (.aload_n 0, 1) := by decide +kernel
theorem dX9_save_24 : decode cX9_save 24 = .ok (.getfield 9, 3) := by decide +kernel
theorem dX9_save_27 : decode cX9_save 27 = .ok (.sipush 206, 3) := by decide +kernel
theorem dX9_save_30 : decode cX9_save 30 = .ok (.iaload, 1) := by decide +kernel
theorem dX9_save_31 : decode cX9_save 31 = .ok (.ireturn, 1) := by decide +kernel
set_option maxRecDepth 20000 in
theorem ggX9_restore_X9_copies : GoodIn wsX9_restore wsX9_copies := goodIn_ca (goodIn_r _ [9] (by decide +kernel) (by decide +kernel)) (goodIn_sub (fun _ h => List.mem_cons_of_mem _ (List.mem_append_right _ h)) (by decide +kernel))
set_option maxRecDepth 20000 in
theorem gX9_restore_X9_copies : GoodIn wsX9_restore (va_wsS RX9 50 yX9_copies wsX9_copies) := goodIn_app (goodIn_of _ (by decide +kernel)) ggX9_restore_X9_copies
theorem dX9_restore_0 : decode cX9_restore 0 = .ok (.aload_n 0, 1) := by decide +kernel
theorem dX9_restore_1 : decode cX9_restore 1 = .ok (.aload_n 0, 1) := by decide +kernel
theorem dX9_restore_2 : decode cX9_restore 2 = .ok (.getfield 73, 3) := by decide +kernel
theorem dX9_restore_5 : decode cX9_restore 5 = .ok (.ifCond .eq 7, 3) := by decide +kernel
theorem dX9_restore_8 : decode cX9_restore 8 = .ok (.iconst 0, 1) := by decide +kernel
theorem dX9_restore_9 : decode cX9_restore 9 = .ok (.goto 4, 3) := by decide +kernel
theorem dX9_restore_12 : decode cX9_restore 12 = .ok (.iconst 1, 1) := by decide +kernel
theorem dX9_restore_13 : decode cX9_restore 13 = .ok (.putfield 41, 3) := by decide +kernel
theorem dX9_restore_16 : decode cX9_restore 16 = .ok (.aload_n 0, 1) := by decide +kernel
theorem dX9_restore_17 : decode cX9_restore 17 = .ok (.getfield 41, 3) := by decide +kernel
theorem dX9_restore_20 : decode cX9_restore 20 = .ok (.ifCond .eq 5, 3) := by decide +kernel
theorem dX9_restore_23 : decode cX9_restore 23 = .ok (.iconst 0, 1) := by decide +kernel
theorem dX9_restore_24 : decode cX9_restore 24 = .ok (.ireturn, 1) := by decide +kernel
theorem dX9_restore_25 : decode cX9_restore 25 = .ok (.aload_n 0, 1) := by decide +kernel
theorem dX9_restore_26 : decode cX9_restore 26 = .ok (.getfield 19, 3) := by decide +kernel
theorem dX9_restore_29 : decode cX9_restore 29 = .ok (.iconst 0, 1) := by decide +kernel
theorem dX9_restore_30 : decode cX9_restore 30 = .ok (.aload_n 0, 1) := by decide +kernel
theorem dX9_restore_31 : decode cX9_restore 31 = .ok (.getfield 9, 3) := by decide +kernel
theorem dX9_restore_34 : decode cX9_restore 34 = .ok (.iconst 0, 1) := by decide +kernel
theorem dX9_restore_35 : decode cX9_restore 35 = .ok (.invokestatic 50, 3) := by decide +kernel
theorem dX9_restore_38 : decode cX9_restore 38 = .ok (.aload_n 0, 1) := by decide +kernel
theorem dX9_restore_39 : decode cX9_restore 39 = .ok (.iconst 0, 1) := by decide +kernel
theorem dX9_restore_40 : decode cX9_restore 40 = .ok (.putfield 54, 3) := by decide +kernel
theorem dX9_restore_43 : decode cX9_restore 43 = .ok (.aload_n 0, 1) := by decide +kernel
theorem dX9_restore_44 : decode cX9_restore 44 = .ok (.getfield 9, 3) := by decide +kernel
theorem dX9_restore_47 : decode cX9_restore 47 = .ok (.sipush 206, 3) := by decide +kernel
theorem dX9_restore_50 : decode cX9_restore 50 = .ok (.iaload, 1) := by decide +kernel
theorem dX9_restore_51 : decode cX9_restore 51 = .ok (.ireturn, 1) := by decide +kernel
set_option maxRecDepth 20000 in
theorem ggX9_isHousehold_X9_isIn : GoodIn wsX9_isHousehold wsX9_isIn := goodIn_r _ [5] (by decide +kernel) (by decide +kernel)
set_option maxRecDepth 20000 in
theorem gX9_isHousehold_X9_isIn : GoodIn wsX9_isHousehold (va_wsS RX9 69 yX9_isIn wsX9_isIn) := goodIn_app (goodIn_of _ (by decide +kernel)) ggX9_isHousehold_X9_isIn
theorem dX9_isHousehold_0 : decode cX9_isHousehold 0 = .ok (.iload_n 1, 1) := by decide +kernel
theorem dX9_isHousehold_1 : decode cX9_isHousehold 1 = .ok (.iconst 0, 1) := by decide +kernel
theorem dX9_isHousehold_2 : decode cX9_isHousehold 2 = .ok (.aload_n 0, 1) := by decide +kernel
theorem dX9_isHousehold_3 : decode cX9_isHousehold 3 = .ok (.getfield 9, 3) := by decide +kernel
theorem dX9_isHousehold_6 : decode cX9_isHousehold 6 = .ok (.iconst 0, 1) := by decide +kernel
theorem dX9_isHousehold_7 : decode cX9_isHousehold 7 = .ok (.iaload, 1) := by decide +kernel
theorem dX9_isHousehold_8 : decode cX9_isHousehold 8 = .ok (.iconst 1, 1) := by decide +kernel
theorem dX9_isHousehold_9 : decode cX9_isHousehold 9 = .ok (.isub, 1) := by decide +kernel
theorem dX9_isHousehold_10 : decode cX9_isHousehold 10 = .ok (.invokestatic 69, 3) := by decide +kernel
theorem dX9_isHousehold_13 : decode cX9_isHousehold 13 = .ok (.ireturn, 1) := by decide +kernel
theorem dX9_of_0 : decode cX9_of 0 = .ok (.aload_n 0, 1) := by decide +kernel
theorem dX9_of_1 : decode cX9_of 1 = .ok (.getfield 9, 3) := by decide +kernel
theorem dX9_of_4 : decode cX9_of 4 = .ok (.iconst 1, 1) := by decide +kernel
theorem dX9_of_5 : decode cX9_of 5 = .ok (.bipush 6, 2) := by decide +kernel
theorem dX9_of_7 : decode cX9_of 7 = .ok (.iload_n 1, 1) := by decide +kernel
theorem dX9_of_8 : decode cX9_of 8 = .ok (.imul, 1) := by decide +kernel
theorem dX9_of_9 : decode cX9_of 9 = .ok (.iadd, 1) := by decide +kernel
theorem dX9_of_10 : decode cX9_of 10 = .ok (.iload_n 2, 1) := by decide +kernel
theorem dX9_of_11 : decode cX9_of 11 = .ok (.iadd, 1) := by decide +kernel
theorem dX9_of_12 : decode cX9_of 12 = .ok (.iaload, 1) := by decide +kernel
theorem dX9_of_13 : decode cX9_of 13 = .ok (.ireturn, 1) := by decide +kernel
theorem dX9_becomes_0 : decode cX9_becomes 0 = .ok (.aload_n 0, 1) := by decide +kernel
theorem dX9_becomes_1 : decode cX9_becomes 1 = .ok (.getfield 9, 3) := by decide +kernel
theorem dX9_becomes_4 : decode cX9_becomes 4 = .ok (.iconst 1, 1) := by decide +kernel
theorem dX9_becomes_5 : decode cX9_becomes 5 = .ok (.bipush 6, 2) := by decide +kernel
theorem dX9_becomes_7 : decode cX9_becomes 7 = .ok (.iload_n 1, 1) := by decide +kernel
theorem dX9_becomes_8 : decode cX9_becomes 8 = .ok (.imul, 1) := by decide +kernel
theorem dX9_becomes_9 : decode cX9_becomes 9 = .ok (.iadd, 1) := by decide +kernel
theorem dX9_becomes_10 : decode cX9_becomes 10 = .ok (.iload_n 2, 1) := by decide +kernel
theorem dX9_becomes_11 : decode cX9_becomes 11 = .ok (.iadd, 1) := by decide +kernel
theorem dX9_becomes_12 : decode cX9_becomes 12 = .ok (.iload_n 3, 1) := by decide +kernel
theorem dX9_becomes_13 : decode cX9_becomes 13 = .ok (.iastore, 1) := by decide +kernel
theorem dX9_becomes_14 : decode cX9_becomes 14 = .ok (.return_, 1) := by decide +kernel
set_option maxRecDepth 20000 in
theorem ggX9_turnsByLaw_X9_of : GoodIn wsX9_turnsByLaw wsX9_of := goodIn_ca (goodIn_r _ [5, 6, 7, 8, 9, 10, 11, 12, 13, 14, 15, 16, 17, 18, 19, 20, 21, 22, 23, 24, 25, 26, 27, 28, 29, 30] (by decide +kernel) (by decide +kernel)) (goodIn_sub (fun _ h => List.mem_cons_of_mem _ (List.mem_append_right _ h)) (by decide +kernel))
set_option maxRecDepth 20000 in
theorem gX9_turnsByLaw_X9_of : GoodIn wsX9_turnsByLaw (wsV RX9 77 RX9 yX9_of wsX9_of) := goodIn_app (goodIn_of _ (by decide +kernel)) ggX9_turnsByLaw_X9_of
theorem dX9_turnsByLaw_0 : decode cX9_turnsByLaw 0 = .ok (.iload_n 2, 1) := by decide +kernel
theorem dX9_turnsByLaw_1 : decode cX9_turnsByLaw 1 = .ok (.ifCond .ne 16, 3) := by decide +kernel
theorem dX9_turnsByLaw_4 : decode cX9_turnsByLaw 4 = .ok (.aload_n 0, 1) := by decide +kernel
theorem dX9_turnsByLaw_5 : decode cX9_turnsByLaw 5 = .ok (.iload_n 1, 1) := by decide +kernel
theorem dX9_turnsByLaw_6 : decode cX9_turnsByLaw 6 = .ok (.iconst 0, 1) := by decide +kernel
theorem dX9_turnsByLaw_7 : decode cX9_turnsByLaw 7 = .ok (.invokevirtual 77, 3) := by decide +kernel
theorem dX9_turnsByLaw_10 : decode cX9_turnsByLaw 10 = .ok (.iconst 1, 1) := by decide +kernel
theorem dX9_turnsByLaw_11 : decode cX9_turnsByLaw 11 = .ok (.iadd, 1) := by decide +kernel
theorem dX9_turnsByLaw_12 : decode cX9_turnsByLaw 12 = .ok (.iconst 2, 1) := by decide +kernel
theorem dX9_turnsByLaw_13 : decode cX9_turnsByLaw 13 = .ok (.idiv, 1) := by decide +kernel
theorem dX9_turnsByLaw_14 : decode cX9_turnsByLaw 14 = .ok (.goto 31, 3) := by decide +kernel
theorem dX9_turnsByLaw_17 : decode cX9_turnsByLaw 17 = .ok (.iload_n 2, 1) := by decide +kernel
theorem dX9_turnsByLaw_18 : decode cX9_turnsByLaw 18 = .ok (.iconst 1, 1) := by decide +kernel
theorem dX9_turnsByLaw_19 : decode cX9_turnsByLaw 19 = .ok (.if_icmp .ne 7, 3) := by decide +kernel
theorem dX9_turnsByLaw_22 : decode cX9_turnsByLaw 22 = .ok (.iconst 3, 1) := by decide +kernel
theorem dX9_turnsByLaw_23 : decode cX9_turnsByLaw 23 = .ok (.goto 22, 3) := by decide +kernel
theorem dX9_turnsByLaw_26 : decode cX9_turnsByLaw 26 = .ok (.iload_n 2, 1) := by decide +kernel
theorem dX9_turnsByLaw_27 : decode cX9_turnsByLaw 27 = .ok (.iconst 2, 1) := by decide +kernel
theorem dX9_turnsByLaw_28 : decode cX9_turnsByLaw 28 = .ok (.if_icmp .ne 16, 3) := by decide +kernel
theorem dX9_turnsByLaw_31 : decode cX9_turnsByLaw 31 = .ok (.iconst 4, 1) := by decide +kernel
theorem dX9_turnsByLaw_32 : decode cX9_turnsByLaw 32 = .ok (.aload_n 0, 1) := by decide +kernel
theorem dX9_turnsByLaw_33 : decode cX9_turnsByLaw 33 = .ok (.iload_n 1, 1) := by decide +kernel
theorem dX9_turnsByLaw_34 : decode cX9_turnsByLaw 34 = .ok (.iconst 2, 1) := by decide +kernel
theorem dX9_turnsByLaw_35 : decode cX9_turnsByLaw 35 = .ok (.invokevirtual 77, 3) := by decide +kernel
theorem dX9_turnsByLaw_38 : decode cX9_turnsByLaw 38 = .ok (.iconst 3, 1) := by decide +kernel
theorem dX9_turnsByLaw_39 : decode cX9_turnsByLaw 39 = .ok (.idiv, 1) := by decide +kernel
theorem dX9_turnsByLaw_40 : decode cX9_turnsByLaw 40 = .ok (.isub, 1) := by decide +kernel
theorem dX9_turnsByLaw_41 : decode cX9_turnsByLaw 41 = .ok (.goto 4, 3) := by decide +kernel
theorem dX9_turnsByLaw_44 : decode cX9_turnsByLaw 44 = .ok (.iconst 1, 1) := by decide +kernel
theorem dX9_turnsByLaw_45 : decode cX9_turnsByLaw 45 = .ok (.ireturn, 1) := by decide +kernel
set_option maxRecDepth 20000 in
theorem ggX9_turns_X9_turnsByLaw : GoodIn wsX9_turns wsX9_turnsByLaw := goodIn_ca (goodIn_r _ [6, 7, 8, 9, 5, 10, 1, 11, 12, 13, 14, 15, 16, 17, 18, 19, 20, 21, 22, 23, 24, 25, 26, 27, 28, 29, 30, 31, 32, 33, 34] (by decide +kernel) (by decide +kernel)) (goodIn_sub (fun _ h => List.mem_cons_of_mem _ (List.mem_append_right _ h)) (by decide +kernel))
set_option maxRecDepth 20000 in
theorem gX9_turns_X9_turnsByLaw : GoodIn wsX9_turns (wsV RX9 81 RX9 yX9_turnsByLaw wsX9_turnsByLaw) := goodIn_app (goodIn_of _ (by decide +kernel)) ggX9_turns_X9_turnsByLaw
theorem dX9_turns_0 : decode cX9_turns 0 = .ok (.aload_n 0, 1) := by decide +kernel
theorem dX9_turns_1 : decode cX9_turns 1 = .ok (.iload_n 1, 1) := by decide +kernel
theorem dX9_turns_2 : decode cX9_turns 2 = .ok (.aload_n 0, 1) := by decide +kernel
theorem dX9_turns_3 : decode cX9_turns 3 = .ok (.getfield 9, 3) := by decide +kernel
theorem dX9_turns_6 : decode cX9_turns 6 = .ok (.sipush 203, 3) := by decide +kernel
theorem dX9_turns_9 : decode cX9_turns 9 = .ok (.iaload, 1) := by decide +kernel
theorem dX9_turns_10 : decode cX9_turns 10 = .ok (.invokevirtual 81, 3) := by decide +kernel
theorem dX9_turns_13 : decode cX9_turns 13 = .ok (.istore_n 2, 1) := by decide +kernel
theorem dX9_turns_14 : decode cX9_turns 14 = .ok (.aload_n 0, 1) := by decide +kernel
theorem dX9_turns_15 : decode cX9_turns 15 = .ok (.getfield 9, 3) := by decide +kernel
theorem dX9_turns_18 : decode cX9_turns 18 = .ok (.sipush 207, 3) := by decide +kernel
theorem dX9_turns_21 : decode cX9_turns 21 = .ok (.iaload, 1) := by decide +kernel
theorem dX9_turns_22 : decode cX9_turns 22 = .ok (.iconst 1, 1) := by decide +kernel
theorem dX9_turns_23 : decode cX9_turns 23 = .ok (.if_icmp .ne 11, 3) := by decide +kernel
theorem dX9_turns_26 : decode cX9_turns 26 = .ok (.iload_n 2, 1) := by decide +kernel
theorem dX9_turns_27 : decode cX9_turns 27 = .ok (.iconst 1, 1) := by decide +kernel
theorem dX9_turns_28 : decode cX9_turns 28 = .ok (.iadd, 1) := by decide +kernel
theorem dX9_turns_29 : decode cX9_turns 29 = .ok (.iconst 2, 1) := by decide +kernel
theorem dX9_turns_30 : decode cX9_turns 30 = .ok (.idiv, 1) := by decide +kernel
theorem dX9_turns_31 : decode cX9_turns 31 = .ok (.goto 4, 3) := by decide +kernel
theorem dX9_turns_34 : decode cX9_turns 34 = .ok (.iload_n 2, 1) := by decide +kernel
theorem dX9_turns_35 : decode cX9_turns 35 = .ok (.ireturn, 1) := by decide +kernel
set_option maxRecDepth 20000 in
theorem ggX9_left_X9_turns : GoodIn wsX9_left wsX9_turns := goodIn_ca (goodIn_r _ [9, 10, 11, 12, 13, 8, 14, 15, 16, 17, 18, 19, 20, 21, 22, 23, 24, 25, 26, 27, 28, 29, 30, 31, 32, 33, 34, 35, 36, 37, 38, 39, 40, 41, 42] (by decide +kernel) (by decide +kernel)) (goodIn_sub (fun _ h => List.mem_cons_of_mem _ (List.mem_append_right _ h)) (by decide +kernel))
set_option maxRecDepth 20000 in
theorem gX9_left_X9_turns : GoodIn wsX9_left (wsV RX9 84 RX9 yX9_turns wsX9_turns) := goodIn_app (goodIn_of _ (by decide +kernel)) ggX9_left_X9_turns
set_option maxRecDepth 20000 in
theorem ggX9_left_X9_of : GoodIn wsX9_left wsX9_of := goodIn_ca (goodIn_r _ [18, 10, 19, 20, 21, 22, 23, 24, 25, 26, 27, 28, 29, 30, 31, 32, 33, 34, 35, 36, 37, 38, 39, 40, 41, 42] (by decide +kernel) (by decide +kernel)) (goodIn_sub (fun _ h => List.mem_cons_of_mem _ (List.mem_append_right _ h)) (by decide +kernel))
set_option maxRecDepth 20000 in
theorem gX9_left_X9_of : GoodIn wsX9_left (wsV RX9 77 RX9 yX9_of wsX9_of) := goodIn_app (goodIn_of _ (by decide +kernel)) ggX9_left_X9_of
theorem dX9_left_0 : decode cX9_left 0 = .ok (.iconst 0, 1) := by decide +kernel
theorem dX9_left_1 : decode cX9_left 1 = .ok (.aload_n 0, 1) := by decide +kernel
theorem dX9_left_2 : decode cX9_left 2 = .ok (.iload_n 1, 1) := by decide +kernel
theorem dX9_left_3 : decode cX9_left 3 = .ok (.invokevirtual 84, 3) := by decide +kernel
theorem dX9_left_6 : decode cX9_left 6 = .ok (.aload_n 0, 1) := by decide +kernel
theorem dX9_left_7 : decode cX9_left 7 = .ok (.iload_n 1, 1) := by decide +kernel
theorem dX9_left_8 : decode cX9_left 8 = .ok (.iconst 3, 1) := by decide +kernel
theorem dX9_left_9 : decode cX9_left 9 = .ok (.invokevirtual 77, 3) := by decide +kernel
theorem dX9_left_12 : decode cX9_left 12 = .ok (.isub, 1) := by decide +kernel
theorem dX9_left_13 : decode cX9_left 13 = .ok (.aload_n 0, 1) := by decide +kernel
theorem dX9_left_14 : decode cX9_left 14 = .ok (.iload_n 1, 1) := by decide +kernel
theorem dX9_left_15 : decode cX9_left 15 = .ok (.iconst 4, 1) := by decide +kernel
theorem dX9_left_16 : decode cX9_left 16 = .ok (.invokevirtual 77, 3) := by decide +kernel
theorem dX9_left_19 : decode cX9_left 19 = .ok (.isub, 1) := by decide +kernel
theorem dX9_left_20 : decode cX9_left 20 = .ok (.invokestatic 88, 3) := by decide +kernel
theorem dX9_left_23 : decode cX9_left 23 = .ok (.ireturn, 1) := by decide +kernel
set_option maxRecDepth 20000 in
theorem ggX9_household_X9_begins : GoodIn wsX9_household wsX9_begins := goodIn_ca (goodIn_r _ [7, 1, 8, 2, 9, 10, 6, 11, 38, 39, 40, 41, 42, 43, 44, 45, 46, 47, 48, 49, 50, 51, 52, 53, 54, 55, 56, 57, 58, 59, 60, 61] (by decide +kernel) (by decide +kernel)) (goodIn_sub (fun _ h => List.mem_cons_of_mem _ (List.mem_append_right _ h)) (by decide +kernel))
set_option maxRecDepth 20000 in
theorem gX9_household_X9_begins : GoodIn wsX9_household (wsV RX9 93 RX9 yX9_begins wsX9_begins) := goodIn_app (goodIn_of _ (by decide +kernel)) ggX9_household_X9_begins
set_option maxRecDepth 20000 in
theorem ggX9_household_X9_isIn : GoodIn wsX9_household wsX9_isIn := goodIn_r _ [14] (by decide +kernel) (by decide +kernel)
set_option maxRecDepth 20000 in
theorem gX9_household_X9_isIn : GoodIn wsX9_household (va_wsS RX9 69 yX9_isIn wsX9_isIn) := goodIn_app (goodIn_of _ (by decide +kernel)) ggX9_household_X9_isIn
set_option maxRecDepth 20000 in
theorem ggX9_household_X9_hinders : GoodIn wsX9_household wsX9_hinders := goodIn_r _ [18, 2, 19, 38, 39, 40, 41, 42, 43, 44, 45, 46, 47, 48, 49, 50, 51, 52, 53, 54, 55, 56, 57, 58, 59, 60, 61] (by decide +kernel) (by decide +kernel)
set_option maxRecDepth 20000 in
theorem gX9_household_X9_hinders : GoodIn wsX9_household (wsV RX9 96 RX9 yX9_hinders wsX9_hinders) := goodIn_app (goodIn_of _ (by decide +kernel)) ggX9_household_X9_hinders
set_option maxRecDepth 20000 in
theorem ggX9_household_X9_becomes : GoodIn wsX9_household wsX9_becomes := goodIn_ca (goodIn_r _ [23, 1, 38, 39, 40, 41, 42, 43, 44, 45, 46, 47, 48, 49, 50, 51, 52, 53, 54, 55, 56, 57, 58, 59, 60, 61] (by decide +kernel) (by decide +kernel)) (goodIn_sub (fun _ h => List.mem_cons_of_mem _ (List.mem_append_right _ h)) (by decide +kernel))
set_option maxRecDepth 20000 in
theorem gX9_household_X9_becomes : GoodIn wsX9_household (wsV RX9 100 RX9 yX9_becomes wsX9_becomes) := goodIn_app (goodIn_of _ (by decide +kernel)) ggX9_household_X9_becomes
set_option maxRecDepth 20000 in
theorem ggX9_household_X9_ends : GoodIn wsX9_household wsX9_ends := goodIn_ca (goodIn_r _ [27, 2, 28, 29, 19, 30, 31, 8, 1, 9, 10, 6, 11, 32, 33, 34, 35, 36, 37, 38, 39, 40, 41, 42, 43, 44, 45, 46, 47, 48, 49, 50, 51, 52, 53, 54, 55, 56, 57, 58, 59, 60, 61] (by decide +kernel) (by decide +kernel)) (goodIn_sub (fun _ h => List.mem_cons_of_mem _ (List.mem_append_right _ h)) (by decide +kernel))
set_option maxRecDepth 20000 in
theorem gX9_household_X9_ends : GoodIn wsX9_household (wsV RX9 104 RX9 yX9_ends wsX9_ends) := goodIn_app (goodIn_of _ (by decide +kernel)) ggX9_household_X9_ends
theorem dX9_household_0 : decode cX9_household 0 = .ok (.aload_n 0, 1) := by decide +kernel
theorem dX9_household_1 : decode cX9_household 1 = .ok (.invokevirtual 93, 3) := by decide +kernel
theorem dX9_household_4 : decode cX9_household 4 = .ok (.aload_n 0, 1) := by decide +kernel
theorem dX9_household_5 : decode cX9_household 5 = .ok (.iload_n 1, 1) := by decide +kernel
theorem dX9_household_6 : decode cX9_household 6 = .ok (.iconst 1, 1) := by decide +kernel
theorem dX9_household_7 : decode cX9_household 7 = .ok (.bipush 9, 2) := by decide +kernel
theorem dX9_household_9 : decode cX9_household 9 = .ok (.invokestatic 69, 3) := by decide +kernel
theorem dX9_household_12 : decode cX9_household 12 = .ok (.ifCond .eq 23, 3) := by decide +kernel
theorem dX9_household_15 : decode cX9_household 15 = .ok (.iload_n 2, 1) := by decide +kernel
theorem dX9_household_16 : decode cX9_household 16 = .ok (.iconst 0, 1) := by decide +kernel
theorem dX9_household_17 : decode cX9_household 17 = .ok (.bipush 19, 2) := by decide +kernel
theorem dX9_household_19 : decode cX9_household 19 = .ok (.invokestatic 69, 3) := by decide +kernel
theorem dX9_household_22 : decode cX9_household 22 = .ok (.ifCond .eq 13, 3) := by decide +kernel
theorem dX9_household_25 : decode cX9_household 25 = .ok (.iload_n 3, 1) := by decide +kernel
theorem dX9_household_26 : decode cX9_household 26 = .ok (.iconst 0, 1) := by decide +kernel
theorem dX9_household_27 : decode cX9_household 27 = .ok (.bipush 9, 2) := by decide +kernel
theorem dX9_household_29 : decode cX9_household 29 = .ok (.invokestatic 69, 3) := by decide +kernel
theorem dX9_household_32 : decode cX9_household 32 = .ok (.ifCond .ne 7, 3) := by decide +kernel
theorem dX9_household_35 : decode cX9_household 35 = .ok (.iconst 1, 1) := by decide +kernel
theorem dX9_household_36 : decode cX9_household 36 = .ok (.goto 4, 3) := by decide +kernel
theorem dX9_household_39 : decode cX9_household 39 = .ok (.iconst 0, 1) := by decide +kernel
theorem dX9_household_40 : decode cX9_household 40 = .ok (.iconst 1, 1) := by decide +kernel
theorem dX9_household_41 : decode cX9_household 41 = .ok (.iconst 0, 1) := by decide +kernel
theorem dX9_household_42 : decode cX9_household 42 = .ok (.invokevirtual 96, 3) := by decide +kernel
theorem dX9_household_45 : decode cX9_household 45 = .ok (.aload_n 0, 1) := by decide +kernel
theorem dX9_household_46 : decode cX9_household 46 = .ok (.aload_n 0, 1) := by decide +kernel
theorem dX9_household_47 : decode cX9_household 47 = .ok (.getfield 9, 3) := by decide +kernel
theorem dX9_household_50 : decode cX9_household 50 = .ok (.iconst 0, 1) := by decide +kernel
theorem dX9_household_51 : decode cX9_household 51 = .ok (.iaload, 1) := by decide +kernel
theorem dX9_household_52 : decode cX9_household 52 = .ok (.bipush 8, 2) := by decide +kernel
theorem dX9_household_54 : decode cX9_household 54 = .ok (.if_icmp .ne 7, 3) := by decide +kernel
theorem dX9_household_57 : decode cX9_household 57 = .ok (.iconst 1, 1) := by decide +kernel
theorem dX9_household_58 : decode cX9_household 58 = .ok (.goto 4, 3) := by decide +kernel
theorem dX9_household_61 : decode cX9_household 61 = .ok (.iconst 0, 1) := by decide +kernel
theorem dX9_household_62 : decode cX9_household 62 = .ok (.iconst 2, 1) := by decide +kernel
theorem dX9_household_63 : decode cX9_household 63 = .ok (.bipush 8, 2) := by decide +kernel
theorem dX9_household_65 : decode cX9_household 65 = .ok (.invokevirtual 96, 3) := by decide +kernel
theorem dX9_household_68 : decode cX9_household 68 = .ok (.aload_n 0, 1) := by decide +kernel
theorem dX9_household_69 : decode cX9_household 69 = .ok (.getfield 9, 3) := by decide +kernel
theorem dX9_household_72 : decode cX9_household 72 = .ok (.iconst 0, 1) := by decide +kernel
theorem dX9_household_73 : decode cX9_household 73 = .ok (.iaload, 1) := by decide +kernel
theorem dX9_household_74 : decode cX9_household 74 = .ok (.istore 4, 2) := by decide +kernel
theorem dX9_household_76 : decode cX9_household 76 = .ok (.aload_n 0, 1) := by decide +kernel
theorem dX9_household_77 : decode cX9_household 77 = .ok (.getfield 44, 3) := by decide +kernel
theorem dX9_household_80 : decode cX9_household 80 = .ok (.ifCond .ne 37, 3) := by decide +kernel
theorem dX9_household_83 : decode cX9_household 83 = .ok (.aload_n 0, 1) := by decide +kernel
theorem dX9_household_84 : decode cX9_household 84 = .ok (.iload 4, 2) := by decide +kernel
theorem dX9_household_86 : decode cX9_household 86 = .ok (.iconst 0, 1) := by decide +kernel
theorem dX9_household_87 : decode cX9_household 87 = .ok (.iload_n 1, 1) := by decide +kernel
theorem dX9_household_88 : decode cX9_household 88 = .ok (.invokevirtual 100, 3) := by decide +kernel
theorem dX9_household_91 : decode cX9_household 91 = .ok (.aload_n 0, 1) := by decide +kernel
theorem dX9_household_92 : decode cX9_household 92 = .ok (.iload 4, 2) := by decide +kernel
theorem dX9_household_94 : decode cX9_household 94 = .ok (.iconst 1, 1) := by decide +kernel
theorem dX9_household_95 : decode cX9_household 95 = .ok (.iload_n 2, 1) := by decide +kernel
theorem dX9_household_96 : decode cX9_household 96 = .ok (.invokevirtual 100, 3) := by decide +kernel
theorem dX9_household_99 : decode cX9_household 99 = .ok (.aload_n 0, 1) := by decide +kernel
theorem dX9_household_100 : decode cX9_household 100 = .ok (.iload 4, 2) := by decide +kernel
theorem dX9_household_102 : decode cX9_household 102 = .ok (.iconst 2, 1) := by decide +kernel
theorem dX9_household_103 : decode cX9_household 103 = .ok (.iload_n 3, 1) := by decide +kernel
theorem dX9_household_104 : decode cX9_household 104 = .ok (.invokevirtual 100, 3) := by decide +kernel
theorem dX9_household_107 : decode cX9_household 107 = .ok (.aload_n 0, 1) := by decide +kernel
theorem dX9_household_108 : decode cX9_household 108 = .ok (.getfield 9, 3) := by decide +kernel
theorem dX9_household_111 : decode cX9_household 111 = .ok (.iconst 0, 1) := by decide +kernel
theorem dX9_household_112 : decode cX9_household 112 = .ok (.dup2, 1) := by decide +kernel
theorem dX9_household_113 : decode cX9_household 113 = .ok (.iaload, 1) := by decide +kernel
theorem dX9_household_114 : decode cX9_household 114 = .ok (.iconst 1, 1) := by decide +kernel
theorem dX9_household_115 : decode cX9_household 115 = .ok (.iadd, 1) := by decide +kernel
theorem dX9_household_116 : decode cX9_household 116 = .ok (.iastore, 1) := by decide +kernel
theorem dX9_household_117 : decode cX9_household 117 = .ok (.aload_n 0, 1) := by decide +kernel
theorem dX9_household_118 : decode cX9_household 118 = .ok (.iload 4, 2) := by decide +kernel
theorem dX9_household_120 : decode cX9_household 120 = .ok (.iconst 1, 1) := by decide +kernel
theorem dX9_household_121 : decode cX9_household 121 = .ok (.iconst 0, 1) := by decide +kernel
theorem dX9_household_122 : decode cX9_household 122 = .ok (.invokevirtual 104, 3) := by decide +kernel
theorem dX9_household_125 : decode cX9_household 125 = .ok (.ireturn, 1) := by decide +kernel
theorem dX9_placeOf_0 : decode cX9_placeOf 0 = .ok (.iconst (-1), 1) := by decide +kernel
theorem dX9_placeOf_1 : decode cX9_placeOf 1 = .ok (.istore_n 2, 1) := by decide +kernel
theorem dX9_placeOf_2 : decode cX9_placeOf 2 = .ok (.iconst 0, 1) := by decide +kernel
theorem dX9_placeOf_3 : decode cX9_placeOf 3 = .ok (.istore_n 3, 1) := by decide +kernel
theorem dX9_placeOf_4 : decode cX9_placeOf 4 = .ok (.iload_n 3, 1) := by decide +kernel
theorem dX9_placeOf_5 : decode cX9_placeOf 5 = .ok (.aload_n 0, 1) := by decide +kernel
theorem dX9_placeOf_6 : decode cX9_placeOf 6 = .ok (.getfield 9, 3) := by decide +kernel
theorem dX9_placeOf_9 : decode cX9_placeOf 9 = .ok (.bipush 49, 2) := by decide +kernel
theorem dX9_placeOf_11 : decode cX9_placeOf 11 = .ok (.iaload, 1) := by decide +kernel
theorem dX9_placeOf_12 : decode cX9_placeOf 12 = .ok (.if_icmp .ge 28, 3) := by decide +kernel
theorem dX9_placeOf_15 : decode cX9_placeOf 15 = .ok (.aload_n 0, 1) := by decide +kernel
theorem dX9_placeOf_16 : decode cX9_placeOf 16 = .ok (.getfield 9, 3) := by decide +kernel
theorem dX9_placeOf_19 : decode cX9_placeOf 19 = .ok (.bipush 50, 2) := by decide +kernel
theorem dX9_placeOf_21 : decode cX9_placeOf 21 = .ok (.iload_n 3, 1) := by decide +kernel
theorem dX9_placeOf_22 : decode cX9_placeOf 22 = .ok (.iadd, 1) := by decide +kernel
theorem dX9_placeOf_23 : decode cX9_placeOf 23 = .ok (.iaload, 1) := by decide +kernel
theorem dX9_placeOf_24 : decode cX9_placeOf 24 = .ok (.iload_n 1, 1) := by decide +kernel
theorem dX9_placeOf_25 : decode cX9_placeOf 25 = .ok (.if_icmp .ne 7, 3) := by decide +kernel
theorem dX9_placeOf_28 : decode cX9_placeOf 28 = .ok (.iload_n 3, 1) := by decide +kernel
theorem dX9_placeOf_29 : decode cX9_placeOf 29 = .ok (.goto 4, 3) := by decide +kernel
theorem dX9_placeOf_32 : decode cX9_placeOf 32 = .ok (.iload_n 2, 1) := by decide +kernel
theorem dX9_placeOf_33 : decode cX9_placeOf 33 = .ok (.istore_n 2, 1) := by decide +kernel
theorem dX9_placeOf_34 : decode cX9_placeOf 34 = .ok (.iinc 3 1, 3) := by decide +kernel
theorem dX9_placeOf_37 : decode cX9_placeOf 37 = .ok (.goto (-33), 3) := by decide +kernel
theorem dX9_placeOf_40 : decode cX9_placeOf 40 = .ok (.iload_n 2, 1) := by decide +kernel
theorem dX9_placeOf_41 : decode cX9_placeOf 41 = .ok (.ireturn, 1) := by decide +kernel
theorem dX9_goesFrom_0 : decode cX9_goesFrom 0 = .ok (.iload_n 1, 1) := by decide +kernel
theorem dX9_goesFrom_1 : decode cX9_goesFrom 1 = .ok (.istore_n 2, 1) := by decide +kernel
theorem dX9_goesFrom_2 : decode cX9_goesFrom 2 = .ok (.iload_n 2, 1) := by decide +kernel
theorem dX9_goesFrom_3 : decode cX9_goesFrom 3 = .ok (.iconst 1, 1) := by decide +kernel
theorem dX9_goesFrom_4 : decode cX9_goesFrom 4 = .ok (.iadd, 1) := by decide +kernel
theorem dX9_goesFrom_5 : decode cX9_goesFrom 5 = .ok (.aload_n 0, 1) := by decide +kernel
theorem dX9_goesFrom_6 : decode cX9_goesFrom 6 = .ok (.getfield 9, 3) := by decide +kernel
theorem dX9_goesFrom_9 : decode cX9_goesFrom 9 = .ok (.bipush 49, 2) := by decide +kernel
theorem dX9_goesFrom_11 : decode cX9_goesFrom 11 = .ok (.iaload, 1) := by decide +kernel
theorem dX9_goesFrom_12 : decode cX9_goesFrom 12 = .ok (.if_icmp .ge 29, 3) := by decide +kernel
theorem dX9_goesFrom_15 : decode cX9_goesFrom 15 = .ok (.aload_n 0, 1) := by decide +kernel
theorem dX9_goesFrom_16 : decode cX9_goesFrom 16 = .ok (.getfield 9, 3) := by decide +kernel
theorem dX9_goesFrom_19 : decode cX9_goesFrom 19 = .ok (.bipush 50, 2) := by decide +kernel
theorem dX9_goesFrom_21 : decode cX9_goesFrom 21 = .ok (.iload_n 2, 1) := by decide +kernel
theorem dX9_goesFrom_22 : decode cX9_goesFrom 22 = .ok (.iadd, 1) := by decide +kernel
theorem dX9_goesFrom_23 : decode cX9_goesFrom 23 = .ok (.aload_n 0, 1) := by decide +kernel
theorem dX9_goesFrom_24 : decode cX9_goesFrom 24 = .ok (.getfield 9, 3) := by decide +kernel
theorem dX9_goesFrom_27 : decode cX9_goesFrom 27 = .ok (.bipush 50, 2) := by decide +kernel
theorem dX9_goesFrom_29 : decode cX9_goesFrom 29 = .ok (.iload_n 2, 1) := by decide +kernel
theorem dX9_goesFrom_30 : decode cX9_goesFrom 30 = .ok (.iadd, 1) := by decide +kernel
theorem dX9_goesFrom_31 : decode cX9_goesFrom 31 = .ok (.iconst 1, 1) := by decide +kernel
theorem dX9_goesFrom_32 : decode cX9_goesFrom 32 = .ok (.iadd, 1) := by decide +kernel
theorem dX9_goesFrom_33 : decode cX9_goesFrom 33 = .ok (.iaload, 1) := by decide +kernel
theorem dX9_goesFrom_34 : decode cX9_goesFrom 34 = .ok (.iastore, 1) := by decide +kernel
theorem dX9_goesFrom_35 : decode cX9_goesFrom 35 = .ok (.iinc 2 1, 3) := by decide +kernel
theorem dX9_goesFrom_38 : decode cX9_goesFrom 38 = .ok (.goto (-36), 3) := by decide +kernel
theorem dX9_goesFrom_41 : decode cX9_goesFrom 41 = .ok (.aload_n 0, 1) := by decide +kernel
theorem dX9_goesFrom_42 : decode cX9_goesFrom 42 = .ok (.getfield 9, 3) := by decide +kernel
theorem dX9_goesFrom_45 : decode cX9_goesFrom 45 = .ok (.bipush 49, 2) := by decide +kernel
theorem dX9_goesFrom_47 : decode cX9_goesFrom 47 = .ok (.dup2, 1) := by decide +kernel
theorem dX9_goesFrom_48 : decode cX9_goesFrom 48 = .ok (.iaload, 1) := by decide +kernel
theorem dX9_goesFrom_49 : decode cX9_goesFrom 49 = .ok (.iconst 1, 1) := by decide +kernel
theorem dX9_goesFrom_50 : decode cX9_goesFrom 50 = .ok (.isub, 1) := by decide +kernel
theorem dX9_goesFrom_51 : decode cX9_goesFrom 51 = .ok (.iastore, 1) := by decide +kernel
theorem dX9_goesFrom_52 : decode cX9_goesFrom 52 = .ok (.return_, 1) := by decide +kernel
theorem dX9_comesTo_0 : decode cX9_comesTo 0 = .ok (.aload_n 0, 1) := by decide +kernel
theorem dX9_comesTo_1 : decode cX9_comesTo 1 = .ok (.getfield 9, 3) := by decide +kernel
theorem dX9_comesTo_4 : decode cX9_comesTo 4 = .ok (.bipush 50, 2) := by decide +kernel
theorem dX9_comesTo_6 : decode cX9_comesTo 6 = .ok (.aload_n 0, 1) := by decide +kernel
theorem dX9_comesTo_7 : decode cX9_comesTo 7 = .ok (.getfield 9, 3) := by decide +kernel
theorem dX9_comesTo_10 : decode cX9_comesTo 10 = .ok (.bipush 49, 2) := by decide +kernel
theorem dX9_comesTo_12 : decode cX9_comesTo 12 = .ok (.iaload, 1) := by decide +kernel
theorem dX9_comesTo_13 : decode cX9_comesTo 13 = .ok (.iadd, 1) := by decide +kernel
theorem dX9_comesTo_14 : decode cX9_comesTo 14 = .ok (.iload_n 1, 1) := by decide +kernel
theorem dX9_comesTo_15 : decode cX9_comesTo 15 = .ok (.iastore, 1) := by decide +kernel
theorem dX9_comesTo_16 : decode cX9_comesTo 16 = .ok (.aload_n 0, 1) := by decide +kernel
theorem dX9_comesTo_17 : decode cX9_comesTo 17 = .ok (.getfield 9, 3) := by decide +kernel
theorem dX9_comesTo_20 : decode cX9_comesTo 20 = .ok (.bipush 49, 2) := by decide +kernel
theorem dX9_comesTo_22 : decode cX9_comesTo 22 = .ok (.dup2, 1) := by decide +kernel
theorem dX9_comesTo_23 : decode cX9_comesTo 23 = .ok (.iaload, 1) := by decide +kernel
theorem dX9_comesTo_24 : decode cX9_comesTo 24 = .ok (.iconst 1, 1) := by decide +kernel
theorem dX9_comesTo_25 : decode cX9_comesTo 25 = .ok (.iadd, 1) := by decide +kernel
theorem dX9_comesTo_26 : decode cX9_comesTo 26 = .ok (.iastore, 1) := by decide +kernel
theorem dX9_comesTo_27 : decode cX9_comesTo 27 = .ok (.return_, 1) := by decide +kernel
theorem dX9_notes_0 : decode cX9_notes 0 = .ok (.aload_n 0, 1) := by decide +kernel
theorem dX9_notes_1 : decode cX9_notes 1 = .ok (.getfield 9, 3) := by decide +kernel
theorem dX9_notes_4 : decode cX9_notes 4 = .ok (.bipush 122, 2) := by decide +kernel
theorem dX9_notes_6 : decode cX9_notes 6 = .ok (.iaload, 1) := by decide +kernel
theorem dX9_notes_7 : decode cX9_notes 7 = .ok (.bipush 20, 2) := by decide +kernel
theorem dX9_notes_9 : decode cX9_notes 9 = .ok (.if_icmp .ne 48, 3) := by decide +kernel
theorem dX9_notes_12 : decode cX9_notes 12 = .ok (.bipush 123, 2) := by decide +kernel
theorem dX9_notes_14 : decode cX9_notes 14 = .ok (.istore 4, 2) := by decide +kernel
theorem dX9_notes_16 : decode cX9_notes 16 = .ok (.iload 4, 2) := by decide +kernel
theorem dX9_notes_18 : decode cX9_notes 18 = .ok (.sipush 199, 3) := by decide +kernel
theorem dX9_notes_21 : decode cX9_notes 21 = .ok (.if_icmp .ge 25, 3) := by decide +kernel
theorem dX9_notes_24 : decode cX9_notes 24 = .ok (.aload_n 0, 1) := by decide +kernel
theorem dX9_notes_25 : decode cX9_notes 25 = .ok (.getfield 9, 3) := by decide +kernel
theorem dX9_notes_28 : decode cX9_notes 28 = .ok (.iload 4, 2) := by decide +kernel
theorem dX9_notes_30 : decode cX9_notes 30 = .ok (.aload_n 0, 1) := by decide +kernel
theorem dX9_notes_31 : decode cX9_notes 31 = .ok (.getfield 9, 3) := by decide +kernel
theorem dX9_notes_34 : decode cX9_notes 34 = .ok (.iload 4, 2) := by decide +kernel
theorem dX9_notes_36 : decode cX9_notes 36 = .ok (.iconst 4, 1) := by decide +kernel
theorem dX9_notes_37 : decode cX9_notes 37 = .ok (.iadd, 1) := by decide +kernel
theorem dX9_notes_38 : decode cX9_notes 38 = .ok (.iaload, 1) := by decide +kernel
theorem dX9_notes_39 : decode cX9_notes 39 = .ok (.iastore, 1) := by decide +kernel
theorem dX9_notes_40 : decode cX9_notes 40 = .ok (.iinc 4 1, 3) := by decide +kernel
theorem dX9_notes_43 : decode cX9_notes 43 = .ok (.goto (-27), 3) := by decide +kernel
theorem dX9_notes_46 : decode cX9_notes 46 = .ok (.aload_n 0, 1) := by decide +kernel
theorem dX9_notes_47 : decode cX9_notes 47 = .ok (.getfield 9, 3) := by decide +kernel
theorem dX9_notes_50 : decode cX9_notes 50 = .ok (.bipush 122, 2) := by decide +kernel
theorem dX9_notes_52 : decode cX9_notes 52 = .ok (.dup2, 1) := by decide +kernel
theorem dX9_notes_53 : decode cX9_notes 53 = .ok (.iaload, 1) := by decide +kernel
theorem dX9_notes_54 : decode cX9_notes 54 = .ok (.iconst 1, 1) := by decide +kernel
theorem dX9_notes_55 : decode cX9_notes 55 = .ok (.isub, 1) := by decide +kernel
theorem dX9_notes_56 : decode cX9_notes 56 = .ok (.iastore, 1) := by decide +kernel
theorem dX9_notes_57 : decode cX9_notes 57 = .ok (.bipush 123, 2) := by decide +kernel
theorem dX9_notes_59 : decode cX9_notes 59 = .ok (.iconst 4, 1) := by decide +kernel
theorem dX9_notes_60 : decode cX9_notes 60 = .ok (.aload_n 0, 1) := by decide +kernel
theorem dX9_notes_61 : decode cX9_notes 61 = .ok (.getfield 9, 3) := by decide +kernel
theorem dX9_notes_64 : decode cX9_notes 64 = .ok (.bipush 122, 2) := by decide +kernel
theorem dX9_notes_66 : decode cX9_notes 66 = .ok (.iaload, 1) := by decide +kernel
theorem dX9_notes_67 : decode cX9_notes 67 = .ok (.imul, 1) := by decide +kernel
theorem dX9_notes_68 : decode cX9_notes 68 = .ok (.iadd, 1) := by decide +kernel
theorem dX9_notes_69 : decode cX9_notes 69 = .ok (.istore 4, 2) := by decide +kernel
theorem dX9_notes_71 : decode cX9_notes 71 = .ok (.aload_n 0, 1) := by decide +kernel
theorem dX9_notes_72 : decode cX9_notes 72 = .ok (.getfield 9, 3) := by decide +kernel
theorem dX9_notes_75 : decode cX9_notes 75 = .ok (.iload 4, 2) := by decide +kernel
theorem dX9_notes_77 : decode cX9_notes 77 = .ok (.iload_n 1, 1) := by decide +kernel
theorem dX9_notes_78 : decode cX9_notes 78 = .ok (.iastore, 1) := by decide +kernel
theorem dX9_notes_79 : decode cX9_notes 79 = .ok (.aload_n 0, 1) := by decide +kernel
theorem dX9_notes_80 : decode cX9_notes 80 = .ok (.getfield 9, 3) := by decide +kernel
theorem dX9_notes_83 : decode cX9_notes 83 = .ok (.iload 4, 2) := by decide +kernel
theorem dX9_notes_85 : decode cX9_notes 85 = .ok (.iconst 1, 1) := by decide +kernel
theorem dX9_notes_86 : decode cX9_notes 86 = .ok (.iadd, 1) := by decide +kernel
theorem dX9_notes_87 : decode cX9_notes 87 = .ok (.aload_n 0, 1) := by decide +kernel
theorem dX9_notes_88 : decode cX9_notes 88 = .ok (.getfield 9, 3) := by decide +kernel
theorem dX9_notes_91 : decode cX9_notes 91 = .ok (.sipush 206, 3) := by decide +kernel
theorem dX9_notes_94 : decode cX9_notes 94 = .ok (.iaload, 1) := by decide +kernel
theorem dX9_notes_95 : decode cX9_notes 95 = .ok (.iastore, 1) := by decide +kernel
theorem dX9_notes_96 : decode cX9_notes 96 = .ok (.aload_n 0, 1) := by decide +kernel
theorem dX9_notes_97 : decode cX9_notes 97 = .ok (.getfield 9, 3) := by decide +kernel
theorem dX9_notes_100 : decode cX9_notes 100 = .ok (.iload 4, 2) := by decide +kernel
theorem dX9_notes_102 : decode cX9_notes 102 = .ok (.iconst 2, 1) := by decide +kernel
theorem dX9_notes_103 : decode cX9_notes 103 = .ok (.iadd, 1) := by decide +kernel
theorem dX9_notes_104 : decode cX9_notes 104 = .ok (.iload_n 2, 1) := by decide +kernel
theorem dX9_notes_105 : decode cX9_notes 105 = .ok (.iastore, 1) := by decide +kernel
theorem dX9_notes_106 : decode cX9_notes 106 = .ok (.aload_n 0, 1) := by decide +kernel
theorem dX9_notes_107 : decode cX9_notes 107 = .ok (.getfield 9, 3) := by decide +kernel
theorem dX9_notes_110 : decode cX9_notes 110 = .ok (.iload 4, 2) := by decide +kernel
theorem dX9_notes_112 : decode cX9_notes 112 = .ok (.iconst 3, 1) := by decide +kernel
theorem dX9_notes_113 : decode cX9_notes 113 = .ok (.iadd, 1) := by decide +kernel
theorem dX9_notes_114 : decode cX9_notes 114 = .ok (.iload_n 3, 1) := by decide +kernel
theorem dX9_notes_115 : decode cX9_notes 115 = .ok (.iastore, 1) := by decide +kernel
theorem dX9_notes_116 : decode cX9_notes 116 = .ok (.aload_n 0, 1) := by decide +kernel
theorem dX9_notes_117 : decode cX9_notes 117 = .ok (.getfield 9, 3) := by decide +kernel
theorem dX9_notes_120 : decode cX9_notes 120 = .ok (.bipush 122, 2) := by decide +kernel
theorem dX9_notes_122 : decode cX9_notes 122 = .ok (.dup2, 1) := by decide +kernel
theorem dX9_notes_123 : decode cX9_notes 123 = .ok (.iaload, 1) := by decide +kernel
theorem dX9_notes_124 : decode cX9_notes 124 = .ok (.iconst 1, 1) := by decide +kernel
theorem dX9_notes_125 : decode cX9_notes 125 = .ok (.iadd, 1) := by decide +kernel
theorem dX9_notes_126 : decode cX9_notes 126 = .ok (.iastore, 1) := by decide +kernel
theorem dX9_notes_127 : decode cX9_notes 127 = .ok (.return_, 1) := by decide +kernel
set_option maxRecDepth 20000 in
theorem ggX9_far_X9_of : GoodIn wsX9_far wsX9_of := goodIn_ca (goodIn_r _ [9, 10, 11, 12, 13, 14, 15, 16, 17, 18, 19, 20, 21, 22, 23, 24, 25, 26, 27, 28, 29, 30, 31, 32, 33, 34] (by decide +kernel) (by decide +kernel)) (goodIn_sub (fun _ h => List.mem_cons_of_mem _ (List.mem_append_right _ h)) (by decide +kernel))
set_option maxRecDepth 20000 in
theorem gX9_far_X9_of : GoodIn wsX9_far (wsV RX9 77 RX9 yX9_of wsX9_of) := goodIn_app (goodIn_of _ (by decide +kernel)) ggX9_far_X9_of
theorem dX9_far_0 : decode cX9_far 0 = .ok (.aload_n 0, 1) := by decide +kernel
theorem dX9_far_1 : decode cX9_far 1 = .ok (.iload_n 1, 1) := by decide +kernel
theorem dX9_far_2 : decode cX9_far 2 = .ok (.iconst 1, 1) := by decide +kernel
theorem dX9_far_3 : decode cX9_far 3 = .ok (.invokevirtual 77, 3) := by decide +kernel
theorem dX9_far_6 : decode cX9_far 6 = .ok (.aload_n 0, 1) := by decide +kernel
theorem dX9_far_7 : decode cX9_far 7 = .ok (.iload_n 2, 1) := by decide +kernel
theorem dX9_far_8 : decode cX9_far 8 = .ok (.iconst 1, 1) := by decide +kernel
theorem dX9_far_9 : decode cX9_far 9 = .ok (.invokevirtual 77, 3) := by decide +kernel
theorem dX9_far_12 : decode cX9_far 12 = .ok (.isub, 1) := by decide +kernel
theorem dX9_far_13 : decode cX9_far 13 = .ok (.invokestatic 108, 3) := by decide +kernel
theorem dX9_far_16 : decode cX9_far 16 = .ok (.ireturn, 1) := by decide +kernel
set_option maxRecDepth 20000 in
theorem ggX9_areNear_X9_far : GoodIn wsX9_areNear wsX9_far := goodIn_ca (goodIn_r _ [5, 6, 7, 8, 9, 10, 11, 12, 4, 13, 14, 15, 16, 17, 18, 19, 20, 21, 22, 23, 24, 25, 26, 27, 28, 29, 30, 31, 32, 33, 34, 35, 36, 37, 38] (by decide +kernel) (by decide +kernel)) (goodIn_sub (fun _ h => List.mem_cons_of_mem _ (List.mem_append_right _ h)) (by decide +kernel))
set_option maxRecDepth 20000 in
theorem gX9_areNear_X9_far : GoodIn wsX9_areNear (wsV RX9 111 RX9 yX9_far wsX9_far) := goodIn_app (goodIn_of _ (by decide +kernel)) ggX9_areNear_X9_far
theorem dX9_areNear_0 : decode cX9_areNear 0 = .ok (.iload_n 1, 1) := by decide +kernel
theorem dX9_areNear_1 : decode cX9_areNear 1 = .ok (.iload_n 2, 1) := by decide +kernel
theorem dX9_areNear_2 : decode cX9_areNear 2 = .ok (.if_icmp .eq 17, 3) := by decide +kernel
theorem dX9_areNear_5 : decode cX9_areNear 5 = .ok (.aload_n 0, 1) := by decide +kernel
theorem dX9_areNear_6 : decode cX9_areNear 6 = .ok (.iload_n 1, 1) := by decide +kernel
theorem dX9_areNear_7 : decode cX9_areNear 7 = .ok (.iload_n 2, 1) := by decide +kernel
theorem dX9_areNear_8 : decode cX9_areNear 8 = .ok (.invokevirtual 111, 3) := by decide +kernel
theorem dX9_areNear_11 : decode cX9_areNear 11 = .ok (.iconst 2, 1) := by decide +kernel
theorem dX9_areNear_12 : decode cX9_areNear 12 = .ok (.if_icmp .gt 7, 3) := by decide +kernel
theorem dX9_areNear_15 : decode cX9_areNear 15 = .ok (.iconst 1, 1) := by decide +kernel
theorem dX9_areNear_16 : decode cX9_areNear 16 = .ok (.goto 4, 3) := by decide +kernel
theorem dX9_areNear_19 : decode cX9_areNear 19 = .ok (.iconst 0, 1) := by decide +kernel
theorem dX9_areNear_20 : decode cX9_areNear 20 = .ok (.ireturn, 1) := by decide +kernel
set_option maxRecDepth 20000 in
theorem ggX9_winner_X9_far : GoodIn wsX9_winner wsX9_far := goodIn_ca (goodIn_r _ [6, 7, 8, 9, 10, 11, 12, 13, 5, 14, 1, 15, 16, 17, 18, 19, 20, 21, 22, 23, 24, 25, 26, 27, 28, 29, 30, 31, 32, 33, 34, 35, 36, 37, 38] (by decide +kernel) (by decide +kernel)) (goodIn_sub (fun _ h => List.mem_cons_of_mem _ (List.mem_append_right _ h)) (by decide +kernel))
set_option maxRecDepth 20000 in
theorem gX9_winner_X9_far : GoodIn wsX9_winner (wsV RX9 111 RX9 yX9_far wsX9_far) := goodIn_app (goodIn_of _ (by decide +kernel)) ggX9_winner_X9_far
theorem dX9_winner_0 : decode cX9_winner 0 = .ok (.iconst 0, 1) := by decide +kernel
theorem dX9_winner_1 : decode cX9_winner 1 = .ok (.istore_n 3, 1) := by decide +kernel
theorem dX9_winner_2 : decode cX9_winner 2 = .ok (.iconst 0, 1) := by decide +kernel
theorem dX9_winner_3 : decode cX9_winner 3 = .ok (.istore 4, 2) := by decide +kernel
theorem dX9_winner_5 : decode cX9_winner 5 = .ok (.iload 4, 2) := by decide +kernel
theorem dX9_winner_7 : decode cX9_winner 7 = .ok (.aload_n 0, 1) := by decide +kernel
theorem dX9_winner_8 : decode cX9_winner 8 = .ok (.getfield 9, 3) := by decide +kernel
theorem dX9_winner_11 : decode cX9_winner 11 = .ok (.iconst 0, 1) := by decide +kernel
theorem dX9_winner_12 : decode cX9_winner 12 = .ok (.iaload, 1) := by decide +kernel
theorem dX9_winner_13 : decode cX9_winner 13 = .ok (.if_icmp .ge 46, 3) := by decide +kernel
theorem dX9_winner_16 : decode cX9_winner 16 = .ok (.iload 4, 2) := by decide +kernel
theorem dX9_winner_18 : decode cX9_winner 18 = .ok (.iload_n 1, 1) := by decide +kernel
theorem dX9_winner_19 : decode cX9_winner 19 = .ok (.if_icmp .eq 34, 3) := by decide +kernel
theorem dX9_winner_22 : decode cX9_winner 22 = .ok (.iload 4, 2) := by decide +kernel
theorem dX9_winner_24 : decode cX9_winner 24 = .ok (.iload_n 2, 1) := by decide +kernel
theorem dX9_winner_25 : decode cX9_winner 25 = .ok (.if_icmp .eq 28, 3) := by decide +kernel
theorem dX9_winner_28 : decode cX9_winner 28 = .ok (.iload_n 3, 1) := by decide +kernel
theorem dX9_winner_29 : decode cX9_winner 29 = .ok (.aload_n 0, 1) := by decide +kernel
theorem dX9_winner_30 : decode cX9_winner 30 = .ok (.iload 4, 2) := by decide +kernel
theorem dX9_winner_32 : decode cX9_winner 32 = .ok (.iload_n 2, 1) := by decide +kernel
theorem dX9_winner_33 : decode cX9_winner 33 = .ok (.invokevirtual 111, 3) := by decide +kernel
theorem dX9_winner_36 : decode cX9_winner 36 = .ok (.aload_n 0, 1) := by decide +kernel
theorem dX9_winner_37 : decode cX9_winner 37 = .ok (.iload 4, 2) := by decide +kernel
theorem dX9_winner_39 : decode cX9_winner 39 = .ok (.iload_n 1, 1) := by decide +kernel
theorem dX9_winner_40 : decode cX9_winner 40 = .ok (.invokevirtual 111, 3) := by decide +kernel
theorem dX9_winner_43 : decode cX9_winner 43 = .ok (.if_icmp .ge 7, 3) := by decide +kernel
theorem dX9_winner_46 : decode cX9_winner 46 = .ok (.iconst 1, 1) := by decide +kernel
theorem dX9_winner_47 : decode cX9_winner 47 = .ok (.goto 4, 3) := by decide +kernel
theorem dX9_winner_50 : decode cX9_winner 50 = .ok (.iconst (-1), 1) := by decide +kernel
theorem dX9_winner_51 : decode cX9_winner 51 = .ok (.iadd, 1) := by decide +kernel
theorem dX9_winner_52 : decode cX9_winner 52 = .ok (.istore_n 3, 1) := by decide +kernel
theorem dX9_winner_53 : decode cX9_winner 53 = .ok (.iinc 4 1, 3) := by decide +kernel
theorem dX9_winner_56 : decode cX9_winner 56 = .ok (.goto (-51), 3) := by decide +kernel
theorem dX9_winner_59 : decode cX9_winner 59 = .ok (.iload_n 3, 1) := by decide +kernel
theorem dX9_winner_60 : decode cX9_winner 60 = .ok (.ifCond .le 7, 3) := by decide +kernel
theorem dX9_winner_63 : decode cX9_winner 63 = .ok (.iload_n 2, 1) := by decide +kernel
theorem dX9_winner_64 : decode cX9_winner 64 = .ok (.goto 4, 3) := by decide +kernel
theorem dX9_winner_67 : decode cX9_winner 67 = .ok (.iload_n 1, 1) := by decide +kernel
theorem dX9_winner_68 : decode cX9_winner 68 = .ok (.ireturn, 1) := by decide +kernel
set_option maxRecDepth 20000 in
theorem ggX9_doQuarrel_X9_areNear : GoodIn wsX9_doQuarrel wsX9_areNear := goodIn_ca (goodIn_r _ [5, 6, 7, 8, 4, 9, 10, 11, 12, 13, 14, 15, 16, 17, 18, 19, 20, 21, 22, 23, 24, 25, 26, 27, 28, 29, 30, 31, 32, 33, 34, 35, 36, 37, 38, 39, 40, 41, 42] (by decide +kernel) (by decide +kernel)) (goodIn_sub (fun _ h => List.mem_cons_of_mem _ (List.mem_append_right _ h)) (by decide +kernel))
set_option maxRecDepth 20000 in
theorem gX9_doQuarrel_X9_areNear : GoodIn wsX9_doQuarrel (wsV RX9 114 RX9 yX9_areNear wsX9_areNear) := goodIn_app (goodIn_of _ (by decide +kernel)) ggX9_doQuarrel_X9_areNear
set_option maxRecDepth 20000 in
theorem ggX9_doQuarrel_X9_of : GoodIn wsX9_doQuarrel wsX9_of := goodIn_ca (goodIn_r _ [17, 18, 19, 20, 21, 22, 23, 24, 25, 26, 27, 28, 29, 30, 31, 32, 33, 34, 35, 36, 37, 38, 39, 40, 41, 42] (by decide +kernel) (by decide +kernel)) (goodIn_sub (fun _ h => List.mem_cons_of_mem _ (List.mem_append_right _ h)) (by decide +kernel))
set_option maxRecDepth 20000 in
theorem gX9_doQuarrel_X9_of : GoodIn wsX9_doQuarrel (wsV RX9 77 RX9 yX9_of wsX9_of) := goodIn_app (goodIn_of _ (by decide +kernel)) ggX9_doQuarrel_X9_of
theorem dX9_doQuarrel_0 : decode cX9_doQuarrel 0 = .ok (.aload_n 0, 1) := by decide +kernel
theorem dX9_doQuarrel_1 : decode cX9_doQuarrel 1 = .ok (.iload_n 1, 1) := by decide +kernel
theorem dX9_doQuarrel_2 : decode cX9_doQuarrel 2 = .ok (.iload_n 2, 1) := by decide +kernel
theorem dX9_doQuarrel_3 : decode cX9_doQuarrel 3 = .ok (.invokevirtual 114, 3) := by decide +kernel
theorem dX9_doQuarrel_6 : decode cX9_doQuarrel 6 = .ok (.ifCond .eq 25, 3) := by decide +kernel
theorem dX9_doQuarrel_9 : decode cX9_doQuarrel 9 = .ok (.aload_n 0, 1) := by decide +kernel
theorem dX9_doQuarrel_10 : decode cX9_doQuarrel 10 = .ok (.iload_n 1, 1) := by decide +kernel
theorem dX9_doQuarrel_11 : decode cX9_doQuarrel 11 = .ok (.iconst 2, 1) := by decide +kernel
theorem dX9_doQuarrel_12 : decode cX9_doQuarrel 12 = .ok (.invokevirtual 77, 3) := by decide +kernel
theorem dX9_doQuarrel_15 : decode cX9_doQuarrel 15 = .ok (.aload_n 0, 1) := by decide +kernel
theorem dX9_doQuarrel_16 : decode cX9_doQuarrel 16 = .ok (.iload_n 2, 1) := by decide +kernel
theorem dX9_doQuarrel_17 : decode cX9_doQuarrel 17 = .ok (.iconst 2, 1) := by decide +kernel
theorem dX9_doQuarrel_18 : decode cX9_doQuarrel 18 = .ok (.invokevirtual 77, 3) := by decide +kernel
theorem dX9_doQuarrel_21 : decode cX9_doQuarrel 21 = .ok (.iadd, 1) := by decide +kernel
theorem dX9_doQuarrel_22 : decode cX9_doQuarrel 22 = .ok (.bipush 10, 2) := by decide +kernel
theorem dX9_doQuarrel_24 : decode cX9_doQuarrel 24 = .ok (.if_icmp .lt 7, 3) := by decide +kernel
theorem dX9_doQuarrel_27 : decode cX9_doQuarrel 27 = .ok (.iconst 1, 1) := by decide +kernel
theorem dX9_doQuarrel_28 : decode cX9_doQuarrel 28 = .ok (.goto 4, 3) := by decide +kernel
theorem dX9_doQuarrel_31 : decode cX9_doQuarrel 31 = .ok (.iconst 0, 1) := by decide +kernel
theorem dX9_doQuarrel_32 : decode cX9_doQuarrel 32 = .ok (.ireturn, 1) := by decide +kernel
set_option maxRecDepth 20000 in
theorem ggX9_quarrel_X9_winner : GoodIn wsX9_quarrel wsX9_winner := goodIn_ca (goodIn_r _ [13, 8, 14, 15, 16, 12, 17, 18, 19, 3, 20, 21, 22, 23, 24, 33, 34, 35, 36, 37, 38, 39, 40, 41, 42, 43, 44, 45, 46, 47, 48, 49, 50, 51, 52, 53, 54, 55, 56] (by decide +kernel) (by decide +kernel)) (goodIn_sub (fun _ h => List.mem_cons_of_mem _ (List.mem_append_right _ h)) (by decide +kernel))
set_option maxRecDepth 20000 in
theorem gX9_quarrel_X9_winner : GoodIn wsX9_quarrel (wsV RX9 118 RX9 yX9_winner wsX9_winner) := goodIn_app (goodIn_of _ (by decide +kernel)) ggX9_quarrel_X9_winner
set_option maxRecDepth 20000 in
theorem ggX9_quarrel_X9_of : GoodIn wsX9_quarrel wsX9_of := goodIn_ca (goodIn_r _ [24, 8, 33, 34, 35, 36, 37, 38, 39, 40, 41, 42, 43, 44, 45, 46, 47, 48, 49, 50, 51, 52, 53, 54, 55, 56] (by decide +kernel) (by decide +kernel)) (goodIn_sub (fun _ h => List.mem_cons_of_mem _ (List.mem_append_right _ h)) (by decide +kernel))
set_option maxRecDepth 20000 in
theorem gX9_quarrel_X9_of : GoodIn wsX9_quarrel (wsV RX9 77 RX9 yX9_of wsX9_of) := goodIn_app (goodIn_of _ (by decide +kernel)) ggX9_quarrel_X9_of
set_option maxRecDepth 20000 in
theorem ggX9_quarrel_X9_becomes : GoodIn wsX9_quarrel wsX9_becomes := goodIn_ca (goodIn_r _ [28, 8, 33, 34, 35, 36, 37, 38, 39, 40, 41, 42, 43, 44, 45, 46, 47, 48, 49, 50, 51, 52, 53, 54, 55, 56] (by decide +kernel) (by decide +kernel)) (goodIn_sub (fun _ h => List.mem_cons_of_mem _ (List.mem_append_right _ h)) (by decide +kernel))
set_option maxRecDepth 20000 in
theorem gX9_quarrel_X9_becomes : GoodIn wsX9_quarrel (wsV RX9 100 RX9 yX9_becomes wsX9_becomes) := goodIn_app (goodIn_of _ (by decide +kernel)) ggX9_quarrel_X9_becomes
set_option maxRecDepth 20000 in
theorem ggX9_quarrel_X9_notes : GoodIn wsX9_quarrel wsX9_notes := goodIn_ca (goodIn_r _ [32, 8, 33, 34, 35, 36, 37, 38, 39, 40, 41, 42, 43, 44, 45, 46, 47, 48, 49, 50, 51, 52, 53, 54, 55, 56] (by decide +kernel) (by decide +kernel)) (goodIn_sub (fun _ h => List.mem_cons_of_mem _ (List.mem_append_right _ h)) (by decide +kernel))
set_option maxRecDepth 20000 in
theorem gX9_quarrel_X9_notes : GoodIn wsX9_quarrel (wsV RX9 124 RX9 yX9_notes wsX9_notes) := goodIn_app (goodIn_of _ (by decide +kernel)) ggX9_quarrel_X9_notes
theorem dX9_quarrel_0 : decode cX9_quarrel 0 = .ok (.aload_n 0, 1) := by decide +kernel
theorem dX9_quarrel_1 : decode cX9_quarrel 1 = .ok (.iload_n 1, 1) := by decide +kernel
theorem dX9_quarrel_2 : decode cX9_quarrel 2 = .ok (.iload_n 2, 1) := by decide +kernel
theorem dX9_quarrel_3 : decode cX9_quarrel 3 = .ok (.invokevirtual 118, 3) := by decide +kernel
theorem dX9_quarrel_6 : decode cX9_quarrel 6 = .ok (.istore_n 3, 1) := by decide +kernel
theorem dX9_quarrel_7 : decode cX9_quarrel 7 = .ok (.iload_n 3, 1) := by decide +kernel
theorem dX9_quarrel_8 : decode cX9_quarrel 8 = .ok (.iload_n 1, 1) := by decide +kernel
theorem dX9_quarrel_9 : decode cX9_quarrel 9 = .ok (.if_icmp .ne 7, 3) := by decide +kernel
theorem dX9_quarrel_12 : decode cX9_quarrel 12 = .ok (.iload_n 2, 1) := by decide +kernel
theorem dX9_quarrel_13 : decode cX9_quarrel 13 = .ok (.goto 4, 3) := by decide +kernel
theorem dX9_quarrel_16 : decode cX9_quarrel 16 = .ok (.iload_n 1, 1) := by decide +kernel
theorem dX9_quarrel_17 : decode cX9_quarrel 17 = .ok (.istore 4, 2) := by decide +kernel
theorem dX9_quarrel_19 : decode cX9_quarrel 19 = .ok (.aload_n 0, 1) := by decide +kernel
theorem dX9_quarrel_20 : decode cX9_quarrel 20 = .ok (.iload 4, 2) := by decide +kernel
theorem dX9_quarrel_22 : decode cX9_quarrel 22 = .ok (.iconst 4, 1) := by decide +kernel
theorem dX9_quarrel_23 : decode cX9_quarrel 23 = .ok (.aload_n 0, 1) := by decide +kernel
theorem dX9_quarrel_24 : decode cX9_quarrel 24 = .ok (.iload 4, 2) := by decide +kernel
theorem dX9_quarrel_26 : decode cX9_quarrel 26 = .ok (.iconst 4, 1) := by decide +kernel
theorem dX9_quarrel_27 : decode cX9_quarrel 27 = .ok (.invokevirtual 77, 3) := by decide +kernel
theorem dX9_quarrel_30 : decode cX9_quarrel 30 = .ok (.iconst 1, 1) := by decide +kernel
theorem dX9_quarrel_31 : decode cX9_quarrel 31 = .ok (.iadd, 1) := by decide +kernel
theorem dX9_quarrel_32 : decode cX9_quarrel 32 = .ok (.invokevirtual 100, 3) := by decide +kernel
theorem dX9_quarrel_35 : decode cX9_quarrel 35 = .ok (.aload_n 0, 1) := by decide +kernel
theorem dX9_quarrel_36 : decode cX9_quarrel 36 = .ok (.iload 4, 2) := by decide +kernel
theorem dX9_quarrel_38 : decode cX9_quarrel 38 = .ok (.iconst 2, 1) := by decide +kernel
theorem dX9_quarrel_39 : decode cX9_quarrel 39 = .ok (.bipush 9, 2) := by decide +kernel
theorem dX9_quarrel_41 : decode cX9_quarrel 41 = .ok (.aload_n 0, 1) := by decide +kernel
theorem dX9_quarrel_42 : decode cX9_quarrel 42 = .ok (.iload 4, 2) := by decide +kernel
theorem dX9_quarrel_44 : decode cX9_quarrel 44 = .ok (.iconst 2, 1) := by decide +kernel
theorem dX9_quarrel_45 : decode cX9_quarrel 45 = .ok (.invokevirtual 77, 3) := by decide +kernel
theorem dX9_quarrel_48 : decode cX9_quarrel 48 = .ok (.iconst 1, 1) := by decide +kernel
theorem dX9_quarrel_49 : decode cX9_quarrel 49 = .ok (.iadd, 1) := by decide +kernel
theorem dX9_quarrel_50 : decode cX9_quarrel 50 = .ok (.invokestatic 121, 3) := by decide +kernel
theorem dX9_quarrel_53 : decode cX9_quarrel 53 = .ok (.invokevirtual 100, 3) := by decide +kernel
theorem dX9_quarrel_56 : decode cX9_quarrel 56 = .ok (.aload_n 0, 1) := by decide +kernel
theorem dX9_quarrel_57 : decode cX9_quarrel 57 = .ok (.iload_n 3, 1) := by decide +kernel
theorem dX9_quarrel_58 : decode cX9_quarrel 58 = .ok (.iconst 2, 1) := by decide +kernel
theorem dX9_quarrel_59 : decode cX9_quarrel 59 = .ok (.iconst 0, 1) := by decide +kernel
theorem dX9_quarrel_60 : decode cX9_quarrel 60 = .ok (.aload_n 0, 1) := by decide +kernel
theorem dX9_quarrel_61 : decode cX9_quarrel 61 = .ok (.iload_n 3, 1) := by decide +kernel
theorem dX9_quarrel_62 : decode cX9_quarrel 62 = .ok (.iconst 2, 1) := by decide +kernel
theorem dX9_quarrel_63 : decode cX9_quarrel 63 = .ok (.invokevirtual 77, 3) := by decide +kernel
theorem dX9_quarrel_66 : decode cX9_quarrel 66 = .ok (.iconst 1, 1) := by decide +kernel
theorem dX9_quarrel_67 : decode cX9_quarrel 67 = .ok (.isub, 1) := by decide +kernel
theorem dX9_quarrel_68 : decode cX9_quarrel 68 = .ok (.invokestatic 88, 3) := by decide +kernel
theorem dX9_quarrel_71 : decode cX9_quarrel 71 = .ok (.invokevirtual 100, 3) := by decide +kernel
theorem dX9_quarrel_74 : decode cX9_quarrel 74 = .ok (.aload_n 0, 1) := by decide +kernel
theorem dX9_quarrel_75 : decode cX9_quarrel 75 = .ok (.getfield 9, 3) := by decide +kernel
theorem dX9_quarrel_78 : decode cX9_quarrel 78 = .ok (.bipush 58, 2) := by decide +kernel
theorem dX9_quarrel_80 : decode cX9_quarrel 80 = .ok (.bipush 8, 2) := by decide +kernel
theorem dX9_quarrel_82 : decode cX9_quarrel 82 = .ok (.iload_n 3, 1) := by decide +kernel
theorem dX9_quarrel_83 : decode cX9_quarrel 83 = .ok (.imul, 1) := by decide +kernel
theorem dX9_quarrel_84 : decode cX9_quarrel 84 = .ok (.iadd, 1) := by decide +kernel
theorem dX9_quarrel_85 : decode cX9_quarrel 85 = .ok (.iload 4, 2) := by decide +kernel
theorem dX9_quarrel_87 : decode cX9_quarrel 87 = .ok (.iadd, 1) := by decide +kernel
theorem dX9_quarrel_88 : decode cX9_quarrel 88 = .ok (.dup2, 1) := by decide +kernel
theorem dX9_quarrel_89 : decode cX9_quarrel 89 = .ok (.iaload, 1) := by decide +kernel
theorem dX9_quarrel_90 : decode cX9_quarrel 90 = .ok (.iconst 1, 1) := by decide +kernel
theorem dX9_quarrel_91 : decode cX9_quarrel 91 = .ok (.iadd, 1) := by decide +kernel
theorem dX9_quarrel_92 : decode cX9_quarrel 92 = .ok (.iastore, 1) := by decide +kernel
theorem dX9_quarrel_93 : decode cX9_quarrel 93 = .ok (.aload_n 0, 1) := by decide +kernel
theorem dX9_quarrel_94 : decode cX9_quarrel 94 = .ok (.getfield 9, 3) := by decide +kernel
theorem dX9_quarrel_97 : decode cX9_quarrel 97 = .ok (.sipush 213, 3) := by decide +kernel
theorem dX9_quarrel_100 : decode cX9_quarrel 100 = .ok (.dup2, 1) := by decide +kernel
theorem dX9_quarrel_101 : decode cX9_quarrel 101 = .ok (.iaload, 1) := by decide +kernel
theorem dX9_quarrel_102 : decode cX9_quarrel 102 = .ok (.iconst 1, 1) := by decide +kernel
theorem dX9_quarrel_103 : decode cX9_quarrel 103 = .ok (.iadd, 1) := by decide +kernel
theorem dX9_quarrel_104 : decode cX9_quarrel 104 = .ok (.iastore, 1) := by decide +kernel
theorem dX9_quarrel_105 : decode cX9_quarrel 105 = .ok (.aload_n 0, 1) := by decide +kernel
theorem dX9_quarrel_106 : decode cX9_quarrel 106 = .ok (.iconst 1, 1) := by decide +kernel
theorem dX9_quarrel_107 : decode cX9_quarrel 107 = .ok (.iload_n 3, 1) := by decide +kernel
theorem dX9_quarrel_108 : decode cX9_quarrel 108 = .ok (.iload 4, 2) := by decide +kernel
theorem dX9_quarrel_110 : decode cX9_quarrel 110 = .ok (.invokevirtual 124, 3) := by decide +kernel
theorem dX9_quarrel_113 : decode cX9_quarrel 113 = .ok (.iload_n 3, 1) := by decide +kernel
theorem dX9_quarrel_114 : decode cX9_quarrel 114 = .ok (.ireturn, 1) := by decide +kernel
set_option maxRecDepth 20000 in
theorem ggX9_joins_X9_isHousehold : GoodIn wsX9_joins wsX9_isHousehold := goodIn_ca (goodIn_r _ [7, 2, 8, 9, 6, 10, 78, 79, 80, 81, 82, 83, 84, 85, 86, 87, 88, 89, 90, 91, 92, 93, 94, 95, 96, 97, 98, 99, 100, 101] (by decide +kernel) (by decide +kernel)) (goodIn_sub (fun _ h => List.mem_cons_of_mem _ (List.mem_append_right _ h)) (by decide +kernel))
set_option maxRecDepth 20000 in
theorem gX9_joins_X9_isHousehold : GoodIn wsX9_joins (wsV RX9 127 RX9 yX9_isHousehold wsX9_isHousehold) := goodIn_app (goodIn_of _ (by decide +kernel)) ggX9_joins_X9_isHousehold
set_option maxRecDepth 20000 in
theorem ggX9_joins_X9_hinders : GoodIn wsX9_joins wsX9_hinders := goodIn_r _ [14, 1, 15, 78, 79, 80, 81, 82, 83, 84, 85, 86, 87, 88, 89, 90, 91, 92, 93, 94, 95, 96, 97, 98, 99, 100, 101] (by decide +kernel) (by decide +kernel)
set_option maxRecDepth 20000 in
theorem gX9_joins_X9_hinders : GoodIn wsX9_joins (wsV RX9 96 RX9 yX9_hinders wsX9_hinders) := goodIn_app (goodIn_of _ (by decide +kernel)) ggX9_joins_X9_hinders
set_option maxRecDepth 20000 in
theorem ggX9_joins_X9_placeOf : GoodIn wsX9_joins wsX9_placeOf := goodIn_ca (goodIn_r _ [19, 2, 78, 79, 80, 81, 82, 83, 84, 85, 86, 87, 88, 89, 90, 91, 92, 93, 94, 95, 96, 97, 98, 99, 100, 101] (by decide +kernel) (by decide +kernel)) (goodIn_sub (fun _ h => List.mem_cons_of_mem _ (List.mem_append_right _ h)) (by decide +kernel))
set_option maxRecDepth 20000 in
theorem gX9_joins_X9_placeOf : GoodIn wsX9_joins (wsV RX9 131 RX9 yX9_placeOf wsX9_placeOf) := goodIn_app (goodIn_of _ (by decide +kernel)) ggX9_joins_X9_placeOf
set_option maxRecDepth 20000 in
theorem ggX9_joins_X9_left : GoodIn wsX9_joins wsX9_left := goodIn_ca (goodIn_r _ [23, 24, 25, 26, 27, 28, 29, 30, 6, 31, 2, 32, 33, 34, 35, 36, 37, 38, 39, 78, 79, 80, 81, 82, 83, 84, 85, 86, 87, 88, 89, 90, 91, 92, 93, 94, 95, 96, 97, 98, 99, 100, 101] (by decide +kernel) (by decide +kernel)) (goodIn_sub (fun _ h => List.mem_cons_of_mem _ (List.mem_append_right _ h)) (by decide +kernel))
set_option maxRecDepth 20000 in
theorem gX9_joins_X9_left : GoodIn wsX9_joins (wsV RX9 134 RX9 yX9_left wsX9_left) := goodIn_app (goodIn_of _ (by decide +kernel)) ggX9_joins_X9_left
set_option maxRecDepth 20000 in
theorem ggX9_joins_X9_of : GoodIn wsX9_joins wsX9_of := goodIn_ca (goodIn_r _ [39, 2, 78, 79, 80, 81, 82, 83, 84, 85, 86, 87, 88, 89, 90, 91, 92, 93, 94, 95, 96, 97, 98, 99, 100, 101] (by decide +kernel) (by decide +kernel)) (goodIn_sub (fun _ h => List.mem_cons_of_mem _ (List.mem_append_right _ h)) (by decide +kernel))
set_option maxRecDepth 20000 in
theorem gX9_joins_X9_of : GoodIn wsX9_joins (wsV RX9 77 RX9 yX9_of wsX9_of) := goodIn_app (goodIn_of _ (by decide +kernel)) ggX9_joins_X9_of
set_option maxRecDepth 20000 in
theorem ggX9_joins_X9_doQuarrel : GoodIn wsX9_joins wsX9_doQuarrel := goodIn_ca (goodIn_r _ [43, 44, 45, 46, 6, 47, 48, 49, 50, 51, 52, 53, 26, 54, 36, 37, 38, 39, 2, 78, 79, 80, 81, 82, 83, 84, 85, 86, 87, 88, 89, 90, 91, 92, 93, 94, 95, 96, 97, 98, 99, 100, 101] (by decide +kernel) (by decide +kernel)) (goodIn_sub (fun _ h => List.mem_cons_of_mem _ (List.mem_append_right _ h)) (by decide +kernel))
set_option maxRecDepth 20000 in
theorem gX9_joins_X9_doQuarrel : GoodIn wsX9_joins (wsV RX9 137 RX9 yX9_doQuarrel wsX9_doQuarrel) := goodIn_app (goodIn_of _ (by decide +kernel)) ggX9_joins_X9_doQuarrel
set_option maxRecDepth 20000 in
theorem ggX9_joins_X9_quarrel : GoodIn wsX9_joins wsX9_quarrel := goodIn_ca (goodIn_r _ [58, 59, 60, 26, 61, 24, 25, 27, 2, 62, 63, 64, 6, 65, 48, 49, 50, 51, 52, 53, 54, 36, 37, 38, 39, 66, 67, 68, 69, 70, 71, 72, 73, 78, 79, 80, 81, 82, 83, 84, 85, 86, 87, 88, 89, 90, 91, 92, 93, 94, 95, 96, 97, 98, 99, 100, 101] (by decide +kernel) (by decide +kernel)) (goodIn_sub (fun _ h => List.mem_cons_of_mem _ (List.mem_append_right _ h)) (by decide +kernel))
set_option maxRecDepth 20000 in
theorem gX9_joins_X9_quarrel : GoodIn wsX9_joins (wsV RX9 140 RX9 yX9_quarrel wsX9_quarrel) := goodIn_app (goodIn_of _ (by decide +kernel)) ggX9_joins_X9_quarrel
set_option maxRecDepth 20000 in
theorem ggX9_joins_X9_comesTo : GoodIn wsX9_joins wsX9_comesTo := goodIn_ca (goodIn_r _ [77, 2, 78, 79, 80, 81, 82, 83, 84, 85, 86, 87, 88, 89, 90, 91, 92, 93, 94, 95, 96, 97, 98, 99, 100, 101] (by decide +kernel) (by decide +kernel)) (goodIn_sub (fun _ h => List.mem_cons_of_mem _ (List.mem_append_right _ h)) (by decide +kernel))
set_option maxRecDepth 20000 in
theorem gX9_joins_X9_comesTo : GoodIn wsX9_joins (wsV RX9 143 RX9 yX9_comesTo wsX9_comesTo) := goodIn_app (goodIn_of _ (by decide +kernel)) ggX9_joins_X9_comesTo
theorem dX9_joins_0 : decode cX9_joins 0 = .ok (.aload_n 0, 1) := by decide +kernel
theorem dX9_joins_1 : decode cX9_joins 1 = .ok (.aload_n 0, 1) := by decide +kernel
theorem dX9_joins_2 : decode cX9_joins 2 = .ok (.iload_n 1, 1) := by decide +kernel
theorem dX9_joins_3 : decode cX9_joins 3 = .ok (.invokevirtual 127, 3) := by decide +kernel
theorem dX9_joins_6 : decode cX9_joins 6 = .ok (.ifCond .ne 7, 3) := by decide +kernel
theorem dX9_joins_9 : decode cX9_joins 9 = .ok (.iconst 1, 1) := by decide +kernel
theorem dX9_joins_10 : decode cX9_joins 10 = .ok (.goto 4, 3) := by decide +kernel
theorem dX9_joins_13 : decode cX9_joins 13 = .ok (.iconst 0, 1) := by decide +kernel
theorem dX9_joins_14 : decode cX9_joins 14 = .ok (.iconst 3, 1) := by decide +kernel
theorem dX9_joins_15 : decode cX9_joins 15 = .ok (.iload_n 1, 1) := by decide +kernel
theorem dX9_joins_16 : decode cX9_joins 16 = .ok (.invokevirtual 96, 3) := by decide +kernel
theorem dX9_joins_19 : decode cX9_joins 19 = .ok (.aload_n 0, 1) := by decide +kernel
theorem dX9_joins_20 : decode cX9_joins 20 = .ok (.getfield 44, 3) := by decide +kernel
theorem dX9_joins_23 : decode cX9_joins 23 = .ok (.ifCond .ne 52, 3) := by decide +kernel
theorem dX9_joins_26 : decode cX9_joins 26 = .ok (.aload_n 0, 1) := by decide +kernel
theorem dX9_joins_27 : decode cX9_joins 27 = .ok (.aload_n 0, 1) := by decide +kernel
theorem dX9_joins_28 : decode cX9_joins 28 = .ok (.iload_n 1, 1) := by decide +kernel
theorem dX9_joins_29 : decode cX9_joins 29 = .ok (.invokevirtual 131, 3) := by decide +kernel
theorem dX9_joins_32 : decode cX9_joins 32 = .ok (.iconst (-1), 1) := by decide +kernel
theorem dX9_joins_33 : decode cX9_joins 33 = .ok (.if_icmp .eq 7, 3) := by decide +kernel
theorem dX9_joins_36 : decode cX9_joins 36 = .ok (.iconst 1, 1) := by decide +kernel
theorem dX9_joins_37 : decode cX9_joins 37 = .ok (.goto 4, 3) := by decide +kernel
theorem dX9_joins_40 : decode cX9_joins 40 = .ok (.iconst 0, 1) := by decide +kernel
theorem dX9_joins_41 : decode cX9_joins 41 = .ok (.iconst 4, 1) := by decide +kernel
theorem dX9_joins_42 : decode cX9_joins 42 = .ok (.aload_n 0, 1) := by decide +kernel
theorem dX9_joins_43 : decode cX9_joins 43 = .ok (.iload_n 1, 1) := by decide +kernel
theorem dX9_joins_44 : decode cX9_joins 44 = .ok (.invokevirtual 131, 3) := by decide +kernel
theorem dX9_joins_47 : decode cX9_joins 47 = .ok (.invokevirtual 96, 3) := by decide +kernel
theorem dX9_joins_50 : decode cX9_joins 50 = .ok (.aload_n 0, 1) := by decide +kernel
theorem dX9_joins_51 : decode cX9_joins 51 = .ok (.aload_n 0, 1) := by decide +kernel
theorem dX9_joins_52 : decode cX9_joins 52 = .ok (.iload_n 1, 1) := by decide +kernel
theorem dX9_joins_53 : decode cX9_joins 53 = .ok (.invokevirtual 134, 3) := by decide +kernel
theorem dX9_joins_56 : decode cX9_joins 56 = .ok (.ifCond .ne 7, 3) := by decide +kernel
theorem dX9_joins_59 : decode cX9_joins 59 = .ok (.iconst 1, 1) := by decide +kernel
theorem dX9_joins_60 : decode cX9_joins 60 = .ok (.goto 4, 3) := by decide +kernel
