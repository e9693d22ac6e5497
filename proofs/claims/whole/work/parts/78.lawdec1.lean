set_option maxRecDepth 20000 in
theorem ggL_household_X8_household : GoodIn wsL_household wsX8_household := goodIn_ca (goodIn_ca (goodIn_r _ [6, 7, 8, 9, 10, 11, 12, 13, 14, 15, 16, 17, 5, 18, 19, 20, 21, 22, 23, 24, 25, 26, 27, 28, 29, 30, 31, 32, 33, 34, 35, 36, 37, 38, 39, 40, 41, 42, 43, 44, 45, 46, 47, 48, 49, 50, 51, 52, 53, 54, 55, 56, 57, 58, 59, 60, 61, 62, 63, 64, 65, 66, 67, 68, 69, 70, 71, 72, 73, 74, 75, 76, 77, 78, 79, 80, 81, 82, 83, 84, 85, 86, 87, 88, 89, 90, 91, 92, 93, 94, 95, 96, 97, 98, 99, 100, 101, 102, 103, 104, 105, 106, 107, 108, 109, 110, 111, 112, 113, 114, 115, 116, 117, 118, 119, 120, 121, 122, 123, 124, 125, 126, 127, 128, 129, 130, 131, 132, 133, 134, 135, 136, 137, 138, 139, 140, 141, 142, 143, 144] (by decide +kernel) (by decide +kernel)) (goodIn_sub (fun _ h => List.mem_cons_of_mem _ (List.mem_append_right _ h)) (by decide +kernel))) (goodIn_sub (fun _ h => List.mem_cons_of_mem _ (List.mem_append_left _ (List.mem_append_right _ h))) (by decide +kernel))
set_option maxRecDepth 20000 in
theorem gL_household_X8_household : GoodIn wsL_household (wsV RL 7 RX8 yX8_household wsX8_household) := goodIn_app (goodIn_of _ (by decide +kernel)) ggL_household_X8_household
theorem dL_household_0 : decode cL_household 0 = .ok (.aload 4, 2) := by decide +kernel
theorem dL_household_2 : decode cL_household 2 = .ok (.iconst 0, 1) := by decide +kernel
theorem dL_household_3 : decode cL_household 3 = .ok (.aload_n 0, 1) := by decide +kernel
theorem dL_household_4 : decode cL_household 4 = .ok (.iload_n 1, 1) := by decide +kernel
theorem dL_household_5 : decode cL_household 5 = .ok (.iload_n 2, 1) := by decide +kernel
theorem dL_household_6 : decode cL_household 6 = .ok (.iload_n 3, 1) := by decide +kernel
theorem dL_household_7 : decode cL_household 7 = .ok (.invokevirtual 7, 3) := by decide +kernel
theorem dL_household_10 : decode cL_household 10 = .ok (.i2l, 1) := by decide +kernel
theorem dL_household_11 : decode cL_household 11 = .ok (.lastore, 1) := by decide +kernel
theorem dL_household_12 : decode cL_household 12 = .ok (.goto 7, 3) := by decide +kernel
theorem dL_household_15 : decode cL_household 15 = .ok (.astore 5, 2) := by decide +kernel
theorem dL_household_17 : decode cL_household 17 = .ok (.iconst 1, 1) := by decide +kernel
theorem dL_household_18 : decode cL_household 18 = .ok (.ireturn, 1) := by decide +kernel
theorem dL_household_19 : decode cL_household 19 = .ok (.iconst 0, 1) := by decide +kernel
theorem dL_household_20 : decode cL_household 20 = .ok (.ireturn, 1) := by decide +kernel
set_option maxRecDepth 20000 in
theorem ggL_join_X8_join : GoodIn wsL_join wsX8_join := goodIn_ca (goodIn_ca (goodIn_r _ [6, 7, 8, 9, 10, 11, 12, 13, 14, 15, 16, 17, 18, 19, 20, 21, 22, 23, 24, 25, 26, 27, 28, 29, 30, 31, 32, 33, 34, 35, 36, 37, 38, 39, 40, 41, 42, 43, 44, 45, 46, 47, 48, 49, 50, 51, 52, 53, 54, 55, 56, 57, 58, 59, 60, 61, 62, 63, 64, 65, 66, 67, 68, 69, 70, 71, 72, 73, 74, 75, 76, 77, 78, 79, 80, 81, 82, 83, 84, 85, 86, 87, 88, 89, 90, 91, 92, 93, 94, 95, 96, 97, 98, 99, 100, 101, 102, 103, 104, 105, 106, 107, 108, 109, 110, 111, 112, 113, 114, 115, 116, 117, 118, 119, 120, 121, 122, 123, 124, 125, 126, 127, 128, 129, 130, 131, 132, 133, 134, 135, 136, 137, 138, 139, 140, 141, 142, 143, 144, 145, 146, 147, 148, 149, 150, 151, 152, 153, 154, 155, 156, 157, 158, 159, 160, 161, 162, 163, 164, 165, 166, 167, 168, 169, 170, 171, 172, 173, 174, 175, 176, 177, 178, 179, 180, 181, 182, 183, 184, 185, 186, 187, 188, 189, 190, 191, 192, 193, 194, 195, 196, 197, 198] (by decide +kernel) (by decide +kernel)) (goodIn_sub (fun _ h => List.mem_cons_of_mem _ (List.mem_append_right _ h)) (by decide +kernel))) (goodIn_sub (fun _ h => List.mem_cons_of_mem _ (List.mem_append_left _ (List.mem_append_right _ h))) (by decide +kernel))
set_option maxRecDepth 20000 in
theorem gL_join_X8_join : GoodIn wsL_join (wsV RL 15 RX8 yX8_join wsX8_join) := goodIn_app (goodIn_of _ (by decide +kernel)) ggL_join_X8_join
theorem dL_join_0 : decode cL_join 0 = .ok (.aload_n 2, 1) := by decide +kernel
theorem dL_join_1 : decode cL_join 1 = .ok (.iconst 0, 1) := by decide +kernel
theorem dL_join_2 : decode cL_join 2 = .ok (.aload_n 0, 1) := by decide +kernel
theorem dL_join_3 : decode cL_join 3 = .ok (.iload_n 1, 1) := by decide +kernel
theorem dL_join_4 : decode cL_join 4 = .ok (.invokevirtual 15, 3) := by decide +kernel
theorem dL_join_7 : decode cL_join 7 = .ok (.i2l, 1) := by decide +kernel
theorem dL_join_8 : decode cL_join 8 = .ok (.lastore, 1) := by decide +kernel
theorem dL_join_9 : decode cL_join 9 = .ok (.goto 6, 3) := by decide +kernel
theorem dL_join_12 : decode cL_join 12 = .ok (.astore_n 3, 1) := by decide +kernel
theorem dL_join_13 : decode cL_join 13 = .ok (.iconst 1, 1) := by decide +kernel
theorem dL_join_14 : decode cL_join 14 = .ok (.ireturn, 1) := by decide +kernel
theorem dL_join_15 : decode cL_join 15 = .ok (.iconst 0, 1) := by decide +kernel
theorem dL_join_16 : decode cL_join 16 = .ok (.ireturn, 1) := by decide +kernel
set_option maxRecDepth 20000 in
theorem ggL_leave_X8_leave : GoodIn wsL_leave wsX8_leave := goodIn_ca (goodIn_ca (goodIn_r _ [6, 7, 8, 9, 10, 11, 12, 13, 14, 15, 16, 17, 18, 19, 20, 21, 22, 23, 24, 25, 26, 27, 28, 29, 30, 31, 32, 33, 34, 35, 36, 37, 38, 39, 40, 41, 42, 43, 44, 45, 46, 47, 48, 49, 50, 51, 52, 53, 54, 55, 56, 57, 58, 59, 60, 61, 62, 63, 64, 65, 66, 67, 68, 69, 70, 71, 72, 73, 74, 75, 76, 77, 78, 79, 80, 81, 82, 83, 84, 85, 86, 87, 88, 89, 90, 91, 92, 93, 94, 95, 96, 97, 98, 99, 100, 101, 102, 103, 104, 105, 106, 107, 108, 109, 110, 111, 112, 113, 114, 115, 116, 117, 118, 119, 120, 121, 122, 123, 124, 125, 126, 127, 128, 129, 130, 131, 132, 133, 134, 135, 136, 137, 138, 139, 140, 141, 142, 143, 144, 145, 146, 147, 148, 149, 150, 151, 152, 153, 154, 155] (by decide +kernel) (by decide +kernel)) (goodIn_sub (fun _ h => List.mem_cons_of_mem _ (List.mem_append_right _ h)) (by decide +kernel))) (goodIn_sub (fun _ h => List.mem_cons_of_mem _ (List.mem_append_left _ (List.mem_append_right _ h))) (by decide +kernel))
set_option maxRecDepth 20000 in
theorem gL_leave_X8_leave : GoodIn wsL_leave (wsV RL 19 RX8 yX8_leave wsX8_leave) := goodIn_app (goodIn_of _ (by decide +kernel)) ggL_leave_X8_leave
theorem dL_leave_0 : decode cL_leave 0 = .ok (.aload_n 2, 1) := by decide +kernel
theorem dL_leave_1 : decode cL_leave 1 = .ok (.iconst 0, 1) := by decide +kernel
theorem dL_leave_2 : decode cL_leave 2 = .ok (.aload_n 0, 1) := by decide +kernel
theorem dL_leave_3 : decode cL_leave 3 = .ok (.iload_n 1, 1) := by decide +kernel
theorem dL_leave_4 : decode cL_leave 4 = .ok (.invokevirtual 19, 3) := by decide +kernel
theorem dL_leave_7 : decode cL_leave 7 = .ok (.i2l, 1) := by decide +kernel
theorem dL_leave_8 : decode cL_leave 8 = .ok (.lastore, 1) := by decide +kernel
theorem dL_leave_9 : decode cL_leave 9 = .ok (.goto 6, 3) := by decide +kernel
theorem dL_leave_12 : decode cL_leave 12 = .ok (.astore_n 3, 1) := by decide +kernel
theorem dL_leave_13 : decode cL_leave 13 = .ok (.iconst 1, 1) := by decide +kernel
theorem dL_leave_14 : decode cL_leave 14 = .ok (.ireturn, 1) := by decide +kernel
theorem dL_leave_15 : decode cL_leave 15 = .ok (.iconst 0, 1) := by decide +kernel
theorem dL_leave_16 : decode cL_leave 16 = .ok (.ireturn, 1) := by decide +kernel
set_option maxRecDepth 20000 in
theorem ggL_draw_X8_draw : GoodIn wsL_draw wsX8_draw := goodIn_ca (goodIn_ca (goodIn_r _ [6, 7, 8, 9, 10, 11, 12, 13, 14, 15, 16, 17, 5, 18, 19, 20, 21, 22, 23, 24, 25, 26, 27, 28, 29, 30, 31, 32, 33, 34, 35, 36, 37, 38, 39, 40, 41, 42, 43, 44, 45, 46, 47, 48, 49, 50, 51, 52, 53, 54, 55, 56, 57, 58, 59, 60, 61, 62, 63, 64, 65, 66, 67, 68, 69, 70, 71, 72, 73, 74, 75, 76, 77, 78, 79, 80, 81, 82, 83, 84, 85, 86, 87, 88, 89, 90, 91, 92, 93, 94, 95, 96, 97, 98, 99, 100, 101, 102, 103, 104, 105, 106, 107, 108, 109, 110, 111, 112, 113, 114, 115, 116, 117, 118, 119, 120, 121, 122, 123, 124, 125, 126, 127, 128, 129, 130, 131, 132, 133, 134, 135, 136, 137, 138, 139, 140, 141, 142, 143, 144, 145, 146, 147, 148, 149, 150, 151, 152, 153, 154, 155, 156, 157, 158, 159, 160, 161, 162, 163, 164, 165, 166, 167, 168, 169, 170, 171, 172, 173, 174, 175, 176, 177, 178, 179, 180, 181, 182, 183, 184, 185, 186, 187, 188, 189, 190] (by decide +kernel) (by decide +kernel)) (goodIn_sub (fun _ h => List.mem_cons_of_mem _ (List.mem_append_right _ h)) (by decide +kernel))) (goodIn_sub (fun _ h => List.mem_cons_of_mem _ (List.mem_append_left _ (List.mem_append_right _ h))) (by decide +kernel))
set_option maxRecDepth 20000 in
theorem gL_draw_X8_draw : GoodIn wsL_draw (wsV RL 22 RX8 yX8_draw wsX8_draw) := goodIn_app (goodIn_of _ (by decide +kernel)) ggL_draw_X8_draw
theorem dL_draw_0 : decode cL_draw 0 = .ok (.aload_n 2, 1) := by decide +kernel
theorem dL_draw_1 : decode cL_draw 1 = .ok (.iconst 0, 1) := by decide +kernel
theorem dL_draw_2 : decode cL_draw 2 = .ok (.aload_n 0, 1) := by decide +kernel
theorem dL_draw_3 : decode cL_draw 3 = .ok (.iload_n 1, 1) := by decide +kernel
theorem dL_draw_4 : decode cL_draw 4 = .ok (.invokevirtual 22, 3) := by decide +kernel
theorem dL_draw_7 : decode cL_draw 7 = .ok (.i2l, 1) := by decide +kernel
theorem dL_draw_8 : decode cL_draw 8 = .ok (.lastore, 1) := by decide +kernel
theorem dL_draw_9 : decode cL_draw 9 = .ok (.goto 6, 3) := by decide +kernel
theorem dL_draw_12 : decode cL_draw 12 = .ok (.astore_n 3, 1) := by decide +kernel
theorem dL_draw_13 : decode cL_draw 13 = .ok (.iconst 1, 1) := by decide +kernel
theorem dL_draw_14 : decode cL_draw 14 = .ok (.ireturn, 1) := by decide +kernel
theorem dL_draw_15 : decode cL_draw 15 = .ok (.iconst 0, 1) := by decide +kernel
theorem dL_draw_16 : decode cL_draw 16 = .ok (.ireturn, 1) := by decide +kernel
set_option maxRecDepth 20000 in
theorem ggL_vote_X8_vote : GoodIn wsL_vote wsX8_vote := goodIn_ca (goodIn_ca (goodIn_r _ [6, 7, 8, 9, 10, 11, 12, 13, 14, 15, 16, 17, 18, 19, 20, 21, 22, 23, 24, 25, 26, 27, 28, 29, 30, 31, 32, 33, 34, 35, 36, 37, 38, 39, 40, 41, 42, 43, 44, 45, 46, 47, 48, 49, 50, 51, 52, 53, 54, 55, 56, 57, 58, 59, 60, 61, 62, 63, 64, 65, 66, 67, 68, 69, 70, 71, 72, 73, 74, 75, 76, 77, 78, 79, 80, 81, 82, 83, 84, 85, 86, 87, 88, 89, 90, 91, 92, 93, 94, 95, 96, 97, 98, 99, 100, 101, 102, 103, 104, 105, 106, 107, 108, 109, 110, 111, 112, 113, 114, 115, 116, 117, 118, 119, 120, 121, 122, 123, 124, 125, 126, 127, 128, 129, 130, 131, 132, 133, 134, 135, 136, 137, 138, 139, 140, 141, 142, 143, 144, 145, 146, 147, 148, 149, 150, 151, 152, 153, 154, 155, 156, 157, 158, 159, 160, 161, 162, 163, 164, 165, 166, 167, 168, 169, 170, 171, 172, 173, 174, 175, 176, 177, 178, 179] (by decide +kernel) (by decide +kernel)) (goodIn_sub (fun _ h => List.mem_cons_of_mem _ (List.mem_append_right _ h)) (by decide +kernel))) (goodIn_sub (fun _ h => List.mem_cons_of_mem _ (List.mem_append_left _ (List.mem_append_right _ h))) (by decide +kernel))
set_option maxRecDepth 20000 in
theorem gL_vote_X8_vote : GoodIn wsL_vote (wsV RL 25 RX8 yX8_vote wsX8_vote) := goodIn_app (goodIn_of _ (by decide +kernel)) ggL_vote_X8_vote
theorem dL_vote_0 : decode cL_vote 0 = .ok (.aload_n 1, 1) := by decide +kernel
theorem dL_vote_1 : decode cL_vote 1 = .ok (.iconst 0, 1) := by decide +kernel
theorem dL_vote_2 : decode cL_vote 2 = .ok (.aload_n 0, 1) := by decide +kernel
theorem dL_vote_3 : decode cL_vote 3 = .ok (.invokevirtual 25, 3) := by decide +kernel
theorem dL_vote_6 : decode cL_vote 6 = .ok (.i2l, 1) := by decide +kernel
theorem dL_vote_7 : decode cL_vote 7 = .ok (.lastore, 1) := by decide +kernel
theorem dL_vote_8 : decode cL_vote 8 = .ok (.goto 6, 3) := by decide +kernel
theorem dL_vote_11 : decode cL_vote 11 = .ok (.astore_n 2, 1) := by decide +kernel
theorem dL_vote_12 : decode cL_vote 12 = .ok (.iconst 1, 1) := by decide +kernel
theorem dL_vote_13 : decode cL_vote 13 = .ok (.ireturn, 1) := by decide +kernel
theorem dL_vote_14 : decode cL_vote 14 = .ok (.iconst 0, 1) := by decide +kernel
theorem dL_vote_15 : decode cL_vote 15 = .ok (.ireturn, 1) := by decide +kernel
set_option maxRecDepth 20000 in
theorem ggL_rain_X8_rain : GoodIn wsL_rain wsX8_rain := goodIn_ca (goodIn_ca (goodIn_r _ [6, 7, 8, 9, 10, 11, 12, 13, 14, 15, 16, 5, 17, 18, 19, 20, 21, 22, 23, 24, 25, 26, 27, 28, 29, 30, 31, 32, 33, 34, 35, 36, 37, 38, 39, 40, 41, 42, 43, 44, 45, 46, 47, 48, 49, 50, 51, 52, 53, 54, 55, 56, 57, 58, 59, 60, 61, 62, 63, 64, 65, 66, 67, 68, 69, 70, 71, 72, 73, 74, 75, 76, 77, 78, 79, 80, 81, 82, 83, 84, 85, 86, 87, 88, 89, 90, 91, 92, 93, 94, 95, 96, 97, 98, 99, 100, 101, 102, 103, 104, 105, 106, 107, 108, 109, 110, 111, 112, 113, 114, 115, 116, 117, 118, 119, 120, 121, 122, 123, 124, 125, 126, 127, 128, 129, 130, 131, 132, 133, 134, 135, 136, 137, 138, 139, 140, 141, 142, 143, 144] (by decide +kernel) (by decide +kernel)) (goodIn_sub (fun _ h => List.mem_cons_of_mem _ (List.mem_append_right _ h)) (by decide +kernel))) (goodIn_sub (fun _ h => List.mem_cons_of_mem _ (List.mem_append_left _ (List.mem_append_right _ h))) (by decide +kernel))
set_option maxRecDepth 20000 in
theorem gL_rain_X8_rain : GoodIn wsL_rain (wsV RL 29 RX8 yX8_rain wsX8_rain) := goodIn_app (goodIn_of _ (by decide +kernel)) ggL_rain_X8_rain
theorem dL_rain_0 : decode cL_rain 0 = .ok (.aload_n 2, 1) := by decide +kernel
theorem dL_rain_1 : decode cL_rain 1 = .ok (.iconst 0, 1) := by decide +kernel
theorem dL_rain_2 : decode cL_rain 2 = .ok (.aload_n 0, 1) := by decide +kernel
theorem dL_rain_3 : decode cL_rain 3 = .ok (.iload_n 1, 1) := by decide +kernel
theorem dL_rain_4 : decode cL_rain 4 = .ok (.invokevirtual 29, 3) := by decide +kernel
theorem dL_rain_7 : decode cL_rain 7 = .ok (.i2l, 1) := by decide +kernel
theorem dL_rain_8 : decode cL_rain 8 = .ok (.lastore, 1) := by decide +kernel
theorem dL_rain_9 : decode cL_rain 9 = .ok (.goto 6, 3) := by decide +kernel
theorem dL_rain_12 : decode cL_rain 12 = .ok (.astore_n 3, 1) := by decide +kernel
theorem dL_rain_13 : decode cL_rain 13 = .ok (.iconst 1, 1) := by decide +kernel
theorem dL_rain_14 : decode cL_rain 14 = .ok (.ireturn, 1) := by decide +kernel
theorem dL_rain_15 : decode cL_rain 15 = .ok (.iconst 0, 1) := by decide +kernel
theorem dL_rain_16 : decode cL_rain 16 = .ok (.ireturn, 1) := by decide +kernel
set_option maxRecDepth 20000 in
theorem ggL_night_X8_night : GoodIn wsL_night wsX8_night := goodIn_ca (goodIn_ca (goodIn_r _ [6, 7, 8, 9, 10, 11, 12, 13, 14, 15, 16, 5, 17, 18, 19, 20, 21, 22, 23, 24, 25, 26, 27, 28, 29, 30, 31, 32, 33, 34, 35, 36, 37, 38, 39, 40, 41, 42, 43, 44, 45, 46, 47, 48, 49, 50, 51, 52, 53, 54, 55, 56, 57, 58, 59, 60, 61, 62, 63, 64, 65, 66, 67, 68, 69, 70, 71, 72, 73, 74, 75, 76, 77, 78, 79, 80, 81, 82, 83, 84, 85, 86, 87, 88, 89, 90, 91, 92, 93, 94, 95, 96, 97, 98, 99, 100, 101, 102, 103, 104, 105, 106, 107, 108, 109, 110, 111, 112, 113, 114, 115, 116, 117, 118, 119, 120, 121, 122, 123, 124, 125, 126, 127, 128, 129, 130, 131, 132, 133, 134, 135, 136, 137, 138, 139, 140, 141, 142, 143, 144, 145, 146, 147, 148, 149, 150] (by decide +kernel) (by decide +kernel)) (goodIn_sub (fun _ h => List.mem_cons_of_mem _ (List.mem_append_right _ h)) (by decide +kernel))) (goodIn_sub (fun _ h => List.mem_cons_of_mem _ (List.mem_append_left _ (List.mem_append_right _ h))) (by decide +kernel))
set_option maxRecDepth 20000 in
theorem gL_night_X8_night : GoodIn wsL_night (wsV RL 32 RX8 yX8_night wsX8_night) := goodIn_app (goodIn_of _ (by decide +kernel)) ggL_night_X8_night
theorem dL_night_0 : decode cL_night 0 = .ok (.aload_n 2, 1) := by decide +kernel
theorem dL_night_1 : decode cL_night 1 = .ok (.iconst 0, 1) := by decide +kernel
theorem dL_night_2 : decode cL_night 2 = .ok (.aload_n 0, 1) := by decide +kernel
theorem dL_night_3 : decode cL_night 3 = .ok (.iload_n 1, 1) := by decide +kernel
theorem dL_night_4 : decode cL_night 4 = .ok (.invokevirtual 32, 3) := by decide +kernel
theorem dL_night_7 : decode cL_night 7 = .ok (.i2l, 1) := by decide +kernel
theorem dL_night_8 : decode cL_night 8 = .ok (.lastore, 1) := by decide +kernel
theorem dL_night_9 : decode cL_night 9 = .ok (.goto 6, 3) := by decide +kernel
theorem dL_night_12 : decode cL_night 12 = .ok (.astore_n 3, 1) := by decide +kernel
theorem dL_night_13 : decode cL_night 13 = .ok (.iconst 1, 1) := by decide +kernel
theorem dL_night_14 : decode cL_night 14 = .ok (.ireturn, 1) := by decide +kernel
theorem dL_night_15 : decode cL_night 15 = .ok (.iconst 0, 1) := by decide +kernel
theorem dL_night_16 : decode cL_night 16 = .ok (.ireturn, 1) := by decide +kernel
set_option maxRecDepth 20000 in
theorem ggL_collect_X8_collect : GoodIn wsL_collect wsX8_collect := goodIn_ca (goodIn_ca (goodIn_r _ [6, 7, 8, 9, 10, 11, 12, 13, 14, 15, 16, 17, 5, 18, 19, 20, 21, 22, 23, 24, 25, 26, 27, 28, 29, 30, 31, 32, 33, 34, 35, 36, 37, 38, 39, 40, 41, 42, 43, 44, 45, 46, 47, 48, 49, 50, 51, 52, 53, 54, 55, 56, 57, 58, 59, 60, 61, 62, 63, 64, 65, 66, 67, 68, 69, 70, 71, 72, 73, 74, 75, 76, 77, 78, 79, 80, 81, 82, 83, 84, 85, 86, 87, 88, 89, 90, 91, 92, 93, 94, 95, 96, 97, 98, 99, 100, 101, 102, 103, 104, 105, 106, 107, 108, 109, 110, 111, 112, 113, 114, 115, 116, 117, 118, 119, 120, 121, 122, 123, 124, 125, 126, 127, 128, 129, 130, 131, 132, 133, 134, 135, 136, 137, 138, 139, 140, 141] (by decide +kernel) (by decide +kernel)) (goodIn_sub (fun _ h => List.mem_cons_of_mem _ (List.mem_append_right _ h)) (by decide +kernel))) (goodIn_sub (fun _ h => List.mem_cons_of_mem _ (List.mem_append_left _ (List.mem_append_right _ h))) (by decide +kernel))
set_option maxRecDepth 20000 in
theorem gL_collect_X8_collect : GoodIn wsL_collect (wsV RL 35 RX8 yX8_collect wsX8_collect) := goodIn_app (goodIn_of _ (by decide +kernel)) ggL_collect_X8_collect
theorem dL_collect_0 : decode cL_collect 0 = .ok (.aload_n 2, 1) := by decide +kernel
theorem dL_collect_1 : decode cL_collect 1 = .ok (.iconst 0, 1) := by decide +kernel
theorem dL_collect_2 : decode cL_collect 2 = .ok (.aload_n 0, 1) := by decide +kernel
theorem dL_collect_3 : decode cL_collect 3 = .ok (.iload_n 1, 1) := by decide +kernel
theorem dL_collect_4 : decode cL_collect 4 = .ok (.invokevirtual 35, 3) := by decide +kernel
theorem dL_collect_7 : decode cL_collect 7 = .ok (.i2l, 1) := by decide +kernel
theorem dL_collect_8 : decode cL_collect 8 = .ok (.lastore, 1) := by decide +kernel
theorem dL_collect_9 : decode cL_collect 9 = .ok (.goto 6, 3) := by decide +kernel
theorem dL_collect_12 : decode cL_collect 12 = .ok (.astore_n 3, 1) := by decide +kernel
theorem dL_collect_13 : decode cL_collect 13 = .ok (.iconst 1, 1) := by decide +kernel
theorem dL_collect_14 : decode cL_collect 14 = .ok (.ireturn, 1) := by decide +kernel
theorem dL_collect_15 : decode cL_collect 15 = .ok (.iconst 0, 1) := by decide +kernel
theorem dL_collect_16 : decode cL_collect 16 = .ok (.ireturn, 1) := by decide +kernel
set_option maxRecDepth 20000 in
theorem ggL_leather_X8_leather : GoodIn wsL_leather wsX8_leather := goodIn_ca (goodIn_ca (goodIn_r _ [6, 7, 8, 9, 10, 11, 12, 13, 14, 15, 16, 17, 18, 19, 20, 21, 22, 23, 24, 25, 26, 27, 28, 29, 30, 31, 32, 33, 34, 35, 36, 37, 38, 39, 40, 41, 42, 43, 44, 45, 46, 47, 48, 49, 50, 51, 52, 53, 54, 55, 56, 57, 58, 59, 60, 61, 62, 63, 64, 65, 66, 67, 68, 69, 70, 71, 72, 73, 74, 75, 76, 77, 78, 79, 80, 81, 82, 83, 84, 85, 86, 87, 88, 89, 90, 91, 92, 93, 94, 95, 96, 97, 98, 99, 100, 101, 102, 103, 104, 105, 106, 107, 108, 109, 110, 111, 112, 113, 114, 115, 116, 117, 118, 119, 120, 121, 122, 123, 124, 125, 126, 127, 128, 129, 130, 131, 132, 133, 134, 135, 136, 137, 138, 139, 140, 141, 142, 143, 144, 145, 146, 147, 148, 149] (by decide +kernel) (by decide +kernel)) (goodIn_sub (fun _ h => List.mem_cons_of_mem _ (List.mem_append_right _ h)) (by decide +kernel))) (goodIn_sub (fun _ h => List.mem_cons_of_mem _ (List.mem_append_left _ (List.mem_append_right _ h))) (by decide +kernel))
set_option maxRecDepth 20000 in
theorem gL_leather_X8_leather : GoodIn wsL_leather (wsV RL 38 RX8 yX8_leather wsX8_leather) := goodIn_app (goodIn_of _ (by decide +kernel)) ggL_leather_X8_leather
theorem dL_leather_0 : decode cL_leather 0 = .ok (.aload_n 1, 1) := by decide +kernel
theorem dL_leather_1 : decode cL_leather 1 = .ok (.iconst 0, 1) := by decide +kernel
theorem dL_leather_2 : decode cL_leather 2 = .ok (.aload_n 0, 1) := by decide +kernel
theorem dL_leather_3 : decode cL_leather 3 = .ok (.invokevirtual 38, 3) := by decide +kernel
theorem dL_leather_6 : decode cL_leather 6 = .ok (.i2l, 1) := by decide +kernel
theorem dL_leather_7 : decode cL_leather 7 = .ok (.lastore, 1) := by decide +kernel
theorem dL_leather_8 : decode cL_leather 8 = .ok (.goto 6, 3) := by decide +kernel
theorem dL_leather_11 : decode cL_leather 11 = .ok (.astore_n 2, 1) := by decide +kernel
theorem dL_leather_12 : decode cL_leather 12 = .ok (.iconst 1, 1) := by decide +kernel
theorem dL_leather_13 : decode cL_leather 13 = .ok (.ireturn, 1) := by decide +kernel
theorem dL_leather_14 : decode cL_leather 14 = .ok (.iconst 0, 1) := by decide +kernel
theorem dL_leather_15 : decode cL_leather 15 = .ok (.ireturn, 1) := by decide +kernel
set_option maxRecDepth 20000 in
theorem ggL_householdOf_X8_householdOf : GoodIn wsL_householdOf wsX8_householdOf := goodIn_ca (goodIn_ca (goodIn_ca (goodIn_r _ [6, 7, 8, 9, 10, 11, 12, 13, 14, 15, 16, 17, 18, 19, 20, 21, 22, 23, 24, 25, 26, 27, 28, 29, 30, 31, 32, 33, 34, 35, 36, 37, 38, 39, 40, 41, 42, 43, 44, 45, 46, 47, 48, 49, 50, 51, 52, 53, 54, 55, 56, 57, 58, 59, 60, 61, 62, 63, 64, 65, 66, 67, 68, 69, 70, 71, 72, 73, 74, 75, 76, 77] (by decide +kernel) (by decide +kernel)) (goodIn_sub (fun _ h => List.mem_cons_of_mem _ (List.mem_append_left _ (List.mem_append_right _ h))) (by decide +kernel))) (goodIn_sub (fun _ h => List.mem_cons_of_mem _ (List.mem_append_left _ (List.mem_append_left _ (List.mem_append_right _ h)))) (by decide +kernel))) (goodIn_sub (fun _ h => List.mem_cons_of_mem _ (List.mem_append_right _ h)) (by decide +kernel))
set_option maxRecDepth 20000 in
theorem gL_householdOf_X8_householdOf : GoodIn wsL_householdOf (wsV RL 41 RX8 yX8_householdOf wsX8_householdOf) := goodIn_app (goodIn_of _ (by decide +kernel)) ggL_householdOf_X8_householdOf
theorem dL_householdOf_0 : decode cL_householdOf 0 = .ok (.aload_n 3, 1) := by decide +kernel
theorem dL_householdOf_1 : decode cL_householdOf 1 = .ok (.iconst 0, 1) := by decide +kernel
theorem dL_householdOf_2 : decode cL_householdOf 2 = .ok (.aload_n 0, 1) := by decide +kernel
theorem dL_householdOf_3 : decode cL_householdOf 3 = .ok (.iload_n 1, 1) := by decide +kernel
theorem dL_householdOf_4 : decode cL_householdOf 4 = .ok (.iload_n 2, 1) := by decide +kernel
theorem dL_householdOf_5 : decode cL_householdOf 5 = .ok (.invokevirtual 41, 3) := by decide +kernel
theorem dL_householdOf_8 : decode cL_householdOf 8 = .ok (.i2l, 1) := by decide +kernel
theorem dL_householdOf_9 : decode cL_householdOf 9 = .ok (.lastore, 1) := by decide +kernel
theorem dL_householdOf_10 : decode cL_householdOf 10 = .ok (.goto 11, 3) := by decide +kernel
theorem dL_householdOf_13 : decode cL_householdOf 13 = .ok (.astore 4, 2) := by decide +kernel
theorem dL_householdOf_15 : decode cL_householdOf 15 = .ok (.iconst 1, 1) := by decide +kernel
theorem dL_householdOf_16 : decode cL_householdOf 16 = .ok (.ireturn, 1) := by decide +kernel
theorem dL_householdOf_17 : decode cL_householdOf 17 = .ok (.astore 4, 2) := by decide +kernel
theorem dL_householdOf_19 : decode cL_householdOf 19 = .ok (.iconst 2, 1) := by decide +kernel
theorem dL_householdOf_20 : decode cL_householdOf 20 = .ok (.ireturn, 1) := by decide +kernel
theorem dL_householdOf_21 : decode cL_householdOf 21 = .ok (.iconst 0, 1) := by decide +kernel
theorem dL_householdOf_22 : decode cL_householdOf 22 = .ok (.ireturn, 1) := by decide +kernel
set_option maxRecDepth 20000 in
theorem ggL_at_X8_at : GoodIn wsL_at wsX8_at := goodIn_ca (goodIn_ca (goodIn_r _ [6, 7, 8, 9, 10, 11, 12, 13, 14, 15, 16, 17, 18, 19, 20, 21, 22, 23, 24, 25, 26, 27, 28, 29, 30, 31, 32] (by decide +kernel) (by decide +kernel)) (goodIn_sub (fun _ h => List.mem_cons_of_mem _ (List.mem_append_right _ h)) (by decide +kernel))) (goodIn_sub (fun _ h => List.mem_cons_of_mem _ (List.mem_append_left _ (List.mem_append_right _ h))) (by decide +kernel))
set_option maxRecDepth 20000 in
theorem gL_at_X8_at : GoodIn wsL_at (wsV RL 49 RX8 yX8_at wsX8_at) := goodIn_app (goodIn_of _ (by decide +kernel)) ggL_at_X8_at
theorem dL_at_0 : decode cL_at 0 = .ok (.aload_n 2, 1) := by decide +kernel
theorem dL_at_1 : decode cL_at 1 = .ok (.iconst 0, 1) := by decide +kernel
theorem dL_at_2 : decode cL_at 2 = .ok (.aload_n 0, 1) := by decide +kernel
theorem dL_at_3 : decode cL_at 3 = .ok (.iload_n 1, 1) := by decide +kernel
theorem dL_at_4 : decode cL_at 4 = .ok (.invokevirtual 49, 3) := by decide +kernel
theorem dL_at_7 : decode cL_at 7 = .ok (.i2l, 1) := by decide +kernel
theorem dL_at_8 : decode cL_at 8 = .ok (.lastore, 1) := by decide +kernel
theorem dL_at_9 : decode cL_at 9 = .ok (.goto 6, 3) := by decide +kernel
theorem dL_at_12 : decode cL_at 12 = .ok (.astore_n 3, 1) := by decide +kernel
theorem dL_at_13 : decode cL_at 13 = .ok (.iconst 1, 1) := by decide +kernel
theorem dL_at_14 : decode cL_at 14 = .ok (.ireturn, 1) := by decide +kernel
theorem dL_at_15 : decode cL_at 15 = .ok (.iconst 0, 1) := by decide +kernel
theorem dL_at_16 : decode cL_at 16 = .ok (.ireturn, 1) := by decide +kernel
set_option maxRecDepth 20000 in
theorem ggL_neighbours_X8_neighbours : GoodIn wsL_neighbours wsX8_neighbours := goodIn_ca (goodIn_ca (goodIn_r _ [6, 7, 8, 9, 10, 11, 12, 13, 14, 15, 16, 17, 18, 19, 20, 21, 22, 23, 24, 25, 26, 27, 28, 29, 30, 31, 32, 33, 34, 35, 36, 37, 38, 39, 40, 41, 42, 43, 44, 45, 46, 47, 48, 49, 50, 51] (by decide +kernel) (by decide +kernel)) (goodIn_sub (fun _ h => List.mem_cons_of_mem _ (List.mem_append_right _ h)) (by decide +kernel))) (goodIn_sub (fun _ h => List.mem_cons_of_mem _ (List.mem_append_left _ (List.mem_append_right _ h))) (by decide +kernel))
set_option maxRecDepth 20000 in
theorem gL_neighbours_X8_neighbours : GoodIn wsL_neighbours (wsV RL 52 RX8 yX8_neighbours wsX8_neighbours) := goodIn_app (goodIn_of _ (by decide +kernel)) ggL_neighbours_X8_neighbours
theorem dL_neighbours_0 : decode cL_neighbours 0 = .ok (.aload_n 2, 1) := by decide +kernel
theorem dL_neighbours_1 : decode cL_neighbours 1 = .ok (.iconst 0, 1) := by decide +kernel
theorem dL_neighbours_2 : decode cL_neighbours 2 = .ok (.aload_n 0, 1) := by decide +kernel
theorem dL_neighbours_3 : decode cL_neighbours 3 = .ok (.iload_n 1, 1) := by decide +kernel
theorem dL_neighbours_4 : decode cL_neighbours 4 = .ok (.invokevirtual 52, 3) := by decide +kernel
theorem dL_neighbours_7 : decode cL_neighbours 7 = .ok (.i2l, 1) := by decide +kernel
theorem dL_neighbours_8 : decode cL_neighbours 8 = .ok (.lastore, 1) := by decide +kernel
theorem dL_neighbours_9 : decode cL_neighbours 9 = .ok (.goto 6, 3) := by decide +kernel
theorem dL_neighbours_12 : decode cL_neighbours 12 = .ok (.astore_n 3, 1) := by decide +kernel
theorem dL_neighbours_13 : decode cL_neighbours 13 = .ok (.iconst 1, 1) := by decide +kernel
theorem dL_neighbours_14 : decode cL_neighbours 14 = .ok (.ireturn, 1) := by decide +kernel
theorem dL_neighbours_15 : decode cL_neighbours 15 = .ok (.iconst 0, 1) := by decide +kernel
theorem dL_neighbours_16 : decode cL_neighbours 16 = .ok (.ireturn, 1) := by decide +kernel
set_option maxRecDepth 20000 in
theorem ggL_quarrels_X8_quarrels : GoodIn wsL_quarrels wsX8_quarrels := goodIn_ca (goodIn_ca (goodIn_r _ [6, 7, 8, 9, 10, 11, 12, 13, 14, 15, 16, 17, 18, 19, 20, 21, 22, 23, 24, 25, 26, 27, 28, 29, 30, 31, 32, 33, 34, 35, 36, 37, 38, 39] (by decide +kernel) (by decide +kernel)) (goodIn_sub (fun _ h => List.mem_cons_of_mem _ (List.mem_append_right _ h)) (by decide +kernel))) (goodIn_sub (fun _ h => List.mem_cons_of_mem _ (List.mem_append_left _ (List.mem_append_right _ h))) (by decide +kernel))
set_option maxRecDepth 20000 in
theorem gL_quarrels_X8_quarrels : GoodIn wsL_quarrels (wsV RL 55 RX8 yX8_quarrels wsX8_quarrels) := goodIn_app (goodIn_of _ (by decide +kernel)) ggL_quarrels_X8_quarrels
theorem dL_quarrels_0 : decode cL_quarrels 0 = .ok (.aload_n 3, 1) := by decide +kernel
theorem dL_quarrels_1 : decode cL_quarrels 1 = .ok (.iconst 0, 1) := by decide +kernel
theorem dL_quarrels_2 : decode cL_quarrels 2 = .ok (.aload_n 0, 1) := by decide +kernel
theorem dL_quarrels_3 : decode cL_quarrels 3 = .ok (.iload_n 1, 1) := by decide +kernel
theorem dL_quarrels_4 : decode cL_quarrels 4 = .ok (.iload_n 2, 1) := by decide +kernel
theorem dL_quarrels_5 : decode cL_quarrels 5 = .ok (.invokevirtual 55, 3) := by decide +kernel
theorem dL_quarrels_8 : decode cL_quarrels 8 = .ok (.i2l, 1) := by decide +kernel
theorem dL_quarrels_9 : decode cL_quarrels 9 = .ok (.lastore, 1) := by decide +kernel
theorem dL_quarrels_10 : decode cL_quarrels 10 = .ok (.goto 7, 3) := by decide +kernel
theorem dL_quarrels_13 : decode cL_quarrels 13 = .ok (.astore 4, 2) := by decide +kernel
theorem dL_quarrels_15 : decode cL_quarrels 15 = .ok (.iconst 1, 1) := by decide +kernel
theorem dL_quarrels_16 : decode cL_quarrels 16 = .ok (.ireturn, 1) := by decide +kernel
theorem dL_quarrels_17 : decode cL_quarrels 17 = .ok (.iconst 0, 1) := by decide +kernel
theorem dL_quarrels_18 : decode cL_quarrels 18 = .ok (.ireturn, 1) := by decide +kernel
set_option maxRecDepth 20000 in
theorem ggL_wouldWin_X8_wouldWin : GoodIn wsL_wouldWin wsX8_wouldWin := goodIn_ca (goodIn_ca (goodIn_ca (goodIn_r _ [6, 7, 8, 9, 10, 11, 12, 13, 14, 15, 16, 17, 18, 19, 20, 21, 22, 23, 24, 25, 26, 27, 28, 29, 30, 31, 32, 33, 34, 35, 36, 37, 38, 39, 40, 41, 42, 43, 44, 45, 46, 47, 48, 49, 50, 51, 52, 53] (by decide +kernel) (by decide +kernel)) (goodIn_sub (fun _ h => List.mem_cons_of_mem _ (List.mem_append_left _ (List.mem_append_right _ h))) (by decide +kernel))) (goodIn_sub (fun _ h => List.mem_cons_of_mem _ (List.mem_append_right _ h)) (by decide +kernel))) (goodIn_sub (fun _ h => List.mem_cons_of_mem _ (List.mem_append_left _ (List.mem_append_left _ (List.mem_append_right _ h)))) (by decide +kernel))
set_option maxRecDepth 20000 in
theorem gL_wouldWin_X8_wouldWin : GoodIn wsL_wouldWin (wsV RL 58 RX8 yX8_wouldWin wsX8_wouldWin) := goodIn_app (goodIn_of _ (by decide +kernel)) ggL_wouldWin_X8_wouldWin
theorem dL_wouldWin_0 : decode cL_wouldWin 0 = .ok (.aload_n 3, 1) := by decide +kernel
theorem dL_wouldWin_1 : decode cL_wouldWin 1 = .ok (.iconst 0, 1) := by decide +kernel
theorem dL_wouldWin_2 : decode cL_wouldWin 2 = .ok (.aload_n 0, 1) := by decide +kernel
theorem dL_wouldWin_3 : decode cL_wouldWin 3 = .ok (.iload_n 1, 1) := by decide +kernel
theorem dL_wouldWin_4 : decode cL_wouldWin 4 = .ok (.iload_n 2, 1) := by decide +kernel
theorem dL_wouldWin_5 : decode cL_wouldWin 5 = .ok (.invokevirtual 58, 3) := by decide +kernel
theorem dL_wouldWin_8 : decode cL_wouldWin 8 = .ok (.i2l, 1) := by decide +kernel
theorem dL_wouldWin_9 : decode cL_wouldWin 9 = .ok (.lastore, 1) := by decide +kernel
theorem dL_wouldWin_10 : decode cL_wouldWin 10 = .ok (.goto 11, 3) := by decide +kernel
theorem dL_wouldWin_13 : decode cL_wouldWin 13 = .ok (.astore 4, 2) := by decide +kernel
theorem dL_wouldWin_15 : decode cL_wouldWin 15 = .ok (.iconst 1, 1) := by decide +kernel
theorem dL_wouldWin_16 : decode cL_wouldWin 16 = .ok (.ireturn, 1) := by decide +kernel
theorem dL_wouldWin_17 : decode cL_wouldWin 17 = .ok (.astore 4, 2) := by decide +kernel
theorem dL_wouldWin_19 : decode cL_wouldWin 19 = .ok (.iconst 2, 1) := by decide +kernel
theorem dL_wouldWin_20 : decode cL_wouldWin 20 = .ok (.ireturn, 1) := by decide +kernel
theorem dL_wouldWin_21 : decode cL_wouldWin 21 = .ok (.iconst 0, 1) := by decide +kernel
theorem dL_wouldWin_22 : decode cL_wouldWin 22 = .ok (.ireturn, 1) := by decide +kernel
set_option maxRecDepth 20000 in
theorem ggL_turnsBy_X8_turnsBy : GoodIn wsL_turnsBy wsX8_turnsBy := goodIn_ca (goodIn_ca (goodIn_ca (goodIn_r _ [6, 7, 8, 9, 10, 11, 12, 13, 14, 15, 16, 17, 18, 5, 19, 20, 21, 22, 23, 24, 25, 26, 27, 28, 29, 30, 31, 32, 33, 34, 35, 36, 37, 38, 39, 40, 41, 42, 43, 44, 45, 46, 47, 48, 49] (by decide +kernel) (by decide +kernel)) (goodIn_sub (fun _ h => List.mem_cons_of_mem _ (List.mem_append_left _ (List.mem_append_right _ h))) (by decide +kernel))) (goodIn_sub (fun _ h => List.mem_cons_of_mem _ (List.mem_append_right _ h)) (by decide +kernel))) (goodIn_sub (fun _ h => List.mem_cons_of_mem _ (List.mem_append_left _ (List.mem_append_left _ (List.mem_append_right _ h)))) (by decide +kernel))
set_option maxRecDepth 20000 in
theorem gL_turnsBy_X8_turnsBy : GoodIn wsL_turnsBy (wsV RL 61 RX8 yX8_turnsBy wsX8_turnsBy) := goodIn_app (goodIn_of _ (by decide +kernel)) ggL_turnsBy_X8_turnsBy
theorem dL_turnsBy_0 : decode cL_turnsBy 0 = .ok (.aload_n 3, 1) := by decide +kernel
theorem dL_turnsBy_1 : decode cL_turnsBy 1 = .ok (.iconst 0, 1) := by decide +kernel
theorem dL_turnsBy_2 : decode cL_turnsBy 2 = .ok (.aload_n 0, 1) := by decide +kernel
theorem dL_turnsBy_3 : decode cL_turnsBy 3 = .ok (.iload_n 1, 1) := by decide +kernel
theorem dL_turnsBy_4 : decode cL_turnsBy 4 = .ok (.iload_n 2, 1) := by decide +kernel
theorem dL_turnsBy_5 : decode cL_turnsBy 5 = .ok (.invokevirtual 61, 3) := by decide +kernel
theorem dL_turnsBy_8 : decode cL_turnsBy 8 = .ok (.i2l, 1) := by decide +kernel
theorem dL_turnsBy_9 : decode cL_turnsBy 9 = .ok (.lastore, 1) := by decide +kernel
theorem dL_turnsBy_10 : decode cL_turnsBy 10 = .ok (.goto 11, 3) := by decide +kernel
theorem dL_turnsBy_13 : decode cL_turnsBy 13 = .ok (.astore 4, 2) := by decide +kernel
theorem dL_turnsBy_15 : decode cL_turnsBy 15 = .ok (.iconst 1, 1) := by decide +kernel
theorem dL_turnsBy_16 : decode cL_turnsBy 16 = .ok (.ireturn, 1) := by decide +kernel
theorem dL_turnsBy_17 : decode cL_turnsBy 17 = .ok (.astore 4, 2) := by decide +kernel
theorem dL_turnsBy_19 : decode cL_turnsBy 19 = .ok (.iconst 2, 1) := by decide +kernel
theorem dL_turnsBy_20 : decode cL_turnsBy 20 = .ok (.ireturn, 1) := by decide +kernel
theorem dL_turnsBy_21 : decode cL_turnsBy 21 = .ok (.iconst 0, 1) := by decide +kernel
theorem dL_turnsBy_22 : decode cL_turnsBy 22 = .ok (.ireturn, 1) := by decide +kernel
set_option maxRecDepth 20000 in
theorem ggL_isFor_X8_isFor : GoodIn wsL_isFor wsX8_isFor := goodIn_ca (goodIn_ca (goodIn_r _ [6, 7, 8, 9, 10, 11, 12, 13, 14, 15, 16, 17, 18, 19, 20, 21, 22, 23, 24, 25, 26, 27, 28, 29, 30, 31, 32, 33, 34, 35, 36, 37, 38, 39, 40, 41, 42, 43, 44, 45, 46, 47, 48] (by decide +kernel) (by decide +kernel)) (goodIn_sub (fun _ h => List.mem_cons_of_mem _ (List.mem_append_right _ h)) (by decide +kernel))) (goodIn_sub (fun _ h => List.mem_cons_of_mem _ (List.mem_append_left _ (List.mem_append_right _ h))) (by decide +kernel))
set_option maxRecDepth 20000 in
theorem gL_isFor_X8_isFor : GoodIn wsL_isFor (wsV RL 64 RX8 yX8_isFor wsX8_isFor) := goodIn_app (goodIn_of _ (by decide +kernel)) ggL_isFor_X8_isFor
theorem dL_isFor_0 : decode cL_isFor 0 = .ok (.aload_n 2, 1) := by decide +kernel
theorem dL_isFor_1 : decode cL_isFor 1 = .ok (.iconst 0, 1) := by decide +kernel
theorem dL_isFor_2 : decode cL_isFor 2 = .ok (.aload_n 0, 1) := by decide +kernel
theorem dL_isFor_3 : decode cL_isFor 3 = .ok (.iload_n 1, 1) := by decide +kernel
theorem dL_isFor_4 : decode cL_isFor 4 = .ok (.invokevirtual 64, 3) := by decide +kernel
theorem dL_isFor_7 : decode cL_isFor 7 = .ok (.i2l, 1) := by decide +kernel
theorem dL_isFor_8 : decode cL_isFor 8 = .ok (.lastore, 1) := by decide +kernel
theorem dL_isFor_9 : decode cL_isFor 9 = .ok (.goto 6, 3) := by decide +kernel
theorem dL_isFor_12 : decode cL_isFor 12 = .ok (.astore_n 3, 1) := by decide +kernel
theorem dL_isFor_13 : decode cL_isFor 13 = .ok (.iconst 1, 1) := by decide +kernel
theorem dL_isFor_14 : decode cL_isFor 14 = .ok (.ireturn, 1) := by decide +kernel
theorem dL_isFor_15 : decode cL_isFor 15 = .ok (.iconst 0, 1) := by decide +kernel
theorem dL_isFor_16 : decode cL_isFor 16 = .ok (.ireturn, 1) := by decide +kernel
set_option maxRecDepth 20000 in
theorem ggL_membersFor_X8_membersFor : GoodIn wsL_membersFor wsX8_membersFor := goodIn_ca (goodIn_ca (goodIn_r _ [6, 7, 8, 9, 10, 11, 5, 12, 13, 14, 15, 16, 17, 18, 19, 20, 21, 22, 23, 24, 25, 26, 27, 28, 29, 30, 31, 32, 33, 34, 35, 36, 37, 38, 39, 40, 41, 42, 43, 44, 45, 46, 47, 48, 49, 50, 51, 52] (by decide +kernel) (by decide +kernel)) (goodIn_sub (fun _ h => List.mem_cons_of_mem _ (List.mem_append_right _ h)) (by decide +kernel))) (goodIn_sub (fun _ h => List.mem_cons_of_mem _ (List.mem_append_left _ (List.mem_append_right _ h))) (by decide +kernel))
set_option maxRecDepth 20000 in
theorem gL_membersFor_X8_membersFor : GoodIn wsL_membersFor (wsV RL 67 RX8 yX8_membersFor wsX8_membersFor) := goodIn_app (goodIn_of _ (by decide +kernel)) ggL_membersFor_X8_membersFor
theorem dL_membersFor_0 : decode cL_membersFor 0 = .ok (.aload_n 2, 1) := by decide +kernel
theorem dL_membersFor_1 : decode cL_membersFor 1 = .ok (.iconst 0, 1) := by decide +kernel
theorem dL_membersFor_2 : decode cL_membersFor 2 = .ok (.aload_n 0, 1) := by decide +kernel
theorem dL_membersFor_3 : decode cL_membersFor 3 = .ok (.iload_n 1, 1) := by decide +kernel
theorem dL_membersFor_4 : decode cL_membersFor 4 = .ok (.invokevirtual 67, 3) := by decide +kernel
theorem dL_membersFor_7 : decode cL_membersFor 7 = .ok (.i2l, 1) := by decide +kernel
theorem dL_membersFor_8 : decode cL_membersFor 8 = .ok (.lastore, 1) := by decide +kernel
theorem dL_membersFor_9 : decode cL_membersFor 9 = .ok (.goto 6, 3) := by decide +kernel
theorem dL_membersFor_12 : decode cL_membersFor 12 = .ok (.astore_n 3, 1) := by decide +kernel
theorem dL_membersFor_13 : decode cL_membersFor 13 = .ok (.iconst 1, 1) := by decide +kernel
theorem dL_membersFor_14 : decode cL_membersFor 14 = .ok (.ireturn, 1) := by decide +kernel
theorem dL_membersFor_15 : decode cL_membersFor 15 = .ok (.iconst 0, 1) := by decide +kernel
theorem dL_membersFor_16 : decode cL_membersFor 16 = .ok (.ireturn, 1) := by decide +kernel
set_option maxRecDepth 20000 in
theorem ggL_turnIn_X8_turnIn : GoodIn wsL_turnIn wsX8_turnIn := goodIn_ca (goodIn_ca (goodIn_ca (goodIn_r _ [6, 7, 8, 9, 10, 11, 12, 13, 14, 15, 16, 17, 18, 19, 20, 21, 22, 23, 24, 25, 26, 27, 28, 29, 30, 31, 32, 33, 34, 35, 36, 37, 38, 39, 40, 41, 42, 43, 44, 45, 46, 47, 48, 49] (by decide +kernel) (by decide +kernel)) (goodIn_sub (fun _ h => List.mem_cons_of_mem _ (List.mem_append_left _ (List.mem_append_right _ h))) (by decide +kernel))) (goodIn_sub (fun _ h => List.mem_cons_of_mem _ (List.mem_append_right _ h)) (by decide +kernel))) (goodIn_sub (fun _ h => List.mem_cons_of_mem _ (List.mem_append_left _ (List.mem_append_left _ (List.mem_append_right _ h)))) (by decide +kernel))
set_option maxRecDepth 20000 in
theorem gL_turnIn_X8_turnIn : GoodIn wsL_turnIn (wsV RL 70 RX8 yX8_turnIn wsX8_turnIn) := goodIn_app (goodIn_of _ (by decide +kernel)) ggL_turnIn_X8_turnIn
theorem dL_turnIn_0 : decode cL_turnIn 0 = .ok (.aload_n 2, 1) := by decide +kernel
theorem dL_turnIn_1 : decode cL_turnIn 1 = .ok (.iconst 0, 1) := by decide +kernel
theorem dL_turnIn_2 : decode cL_turnIn 2 = .ok (.aload_n 0, 1) := by decide +kernel
theorem dL_turnIn_3 : decode cL_turnIn 3 = .ok (.iload_n 1, 1) := by decide +kernel
theorem dL_turnIn_4 : decode cL_turnIn 4 = .ok (.invokevirtual 70, 3) := by decide +kernel
theorem dL_turnIn_7 : decode cL_turnIn 7 = .ok (.i2l, 1) := by decide +kernel
theorem dL_turnIn_8 : decode cL_turnIn 8 = .ok (.lastore, 1) := by decide +kernel
theorem dL_turnIn_9 : decode cL_turnIn 9 = .ok (.goto 9, 3) := by decide +kernel
theorem dL_turnIn_12 : decode cL_turnIn 12 = .ok (.astore_n 3, 1) := by decide +kernel
theorem dL_turnIn_13 : decode cL_turnIn 13 = .ok (.iconst 1, 1) := by decide +kernel
theorem dL_turnIn_14 : decode cL_turnIn 14 = .ok (.ireturn, 1) := by decide +kernel
theorem dL_turnIn_15 : decode cL_turnIn 15 = .ok (.astore_n 3, 1) := by decide +kernel
theorem dL_turnIn_16 : decode cL_turnIn 16 = .ok (.iconst 2, 1) := by decide +kernel
theorem dL_turnIn_17 : decode cL_turnIn 17 = .ok (.ireturn, 1) := by decide +kernel
theorem dL_turnIn_18 : decode cL_turnIn 18 = .ok (.iconst 0, 1) := by decide +kernel
theorem dL_turnIn_19 : decode cL_turnIn 19 = .ok (.ireturn, 1) := by decide +kernel
set_option maxRecDepth 20000 in
theorem ggL_wouldBring_X8_wouldBring : GoodIn wsL_wouldBring wsX8_wouldBring := goodIn_ca (goodIn_r _ [6, 7, 8, 9, 10, 11, 5, 12, 13, 14, 15, 16, 17, 18, 19, 20, 21, 22, 23, 24, 25, 26, 27, 28, 29, 30, 31, 32, 33, 34, 35, 36, 37, 38, 39, 40, 41, 42, 43, 44, 45, 46, 47, 48] (by decide +kernel) (by decide +kernel)) (goodIn_sub (fun _ h => List.mem_cons_of_mem _ (List.mem_append_right _ h)) (by decide +kernel))
set_option maxRecDepth 20000 in
theorem gL_wouldBring_X8_wouldBring : GoodIn wsL_wouldBring (wsV RL 75 RX8 yX8_wouldBring wsX8_wouldBring) := goodIn_app (goodIn_of _ (by decide +kernel)) ggL_wouldBring_X8_wouldBring
theorem dL_wouldBring_0 : decode cL_wouldBring 0 = .ok (.aload_n 2, 1) := by decide +kernel
theorem dL_wouldBring_1 : decode cL_wouldBring 1 = .ok (.iconst 0, 1) := by decide +kernel
theorem dL_wouldBring_2 : decode cL_wouldBring 2 = .ok (.aload_n 0, 1) := by decide +kernel
theorem dL_wouldBring_3 : decode cL_wouldBring 3 = .ok (.iload_n 1, 1) := by decide +kernel
theorem dL_wouldBring_4 : decode cL_wouldBring 4 = .ok (.invokevirtual 75, 3) := by decide +kernel
theorem dL_wouldBring_7 : decode cL_wouldBring 7 = .ok (.i2l, 1) := by decide +kernel
theorem dL_wouldBring_8 : decode cL_wouldBring 8 = .ok (.lastore, 1) := by decide +kernel
theorem dL_wouldBring_9 : decode cL_wouldBring 9 = .ok (.goto 6, 3) := by decide +kernel
theorem dL_wouldBring_12 : decode cL_wouldBring 12 = .ok (.astore_n 3, 1) := by decide +kernel
theorem dL_wouldBring_13 : decode cL_wouldBring 13 = .ok (.iconst 1, 1) := by decide +kernel
theorem dL_wouldBring_14 : decode cL_wouldBring 14 = .ok (.ireturn, 1) := by decide +kernel
theorem dL_wouldBring_15 : decode cL_wouldBring 15 = .ok (.iconst 0, 1) := by decide +kernel
theorem dL_wouldBring_16 : decode cL_wouldBring 16 = .ok (.ireturn, 1) := by decide +kernel
set_option maxRecDepth 20000 in
theorem ggL_wellIn_X8_wellIn : GoodIn wsL_wellIn wsX8_wellIn := goodIn_ca (goodIn_r _ [6, 7, 8, 9, 10, 11, 5, 12, 13, 14, 15, 16, 17, 18, 19, 20, 21, 22, 23, 24, 25, 26, 27, 28, 29, 30, 31, 32, 33, 34, 35, 36, 37, 38, 39, 40, 41, 42, 43, 44, 45, 46, 47, 48, 49, 50, 51, 52, 53] (by decide +kernel) (by decide +kernel)) (goodIn_sub (fun _ h => List.mem_cons_of_mem _ (List.mem_append_right _ h)) (by decide +kernel))
set_option maxRecDepth 20000 in
theorem gL_wellIn_X8_wellIn : GoodIn wsL_wellIn (wsV RL 78 RX8 yX8_wellIn wsX8_wellIn) := goodIn_app (goodIn_of _ (by decide +kernel)) ggL_wellIn_X8_wellIn
theorem dL_wellIn_0 : decode cL_wellIn 0 = .ok (.aload_n 3, 1) := by decide +kernel
theorem dL_wellIn_1 : decode cL_wellIn 1 = .ok (.iconst 0, 1) := by decide +kernel
theorem dL_wellIn_2 : decode cL_wellIn 2 = .ok (.aload_n 0, 1) := by decide +kernel
theorem dL_wellIn_3 : decode cL_wellIn 3 = .ok (.iload_n 1, 1) := by decide +kernel
theorem dL_wellIn_4 : decode cL_wellIn 4 = .ok (.iload_n 2, 1) := by decide +kernel
theorem dL_wellIn_5 : decode cL_wellIn 5 = .ok (.invokevirtual 78, 3) := by decide +kernel
theorem dL_wellIn_8 : decode cL_wellIn 8 = .ok (.i2l, 1) := by decide +kernel
theorem dL_wellIn_9 : decode cL_wellIn 9 = .ok (.lastore, 1) := by decide +kernel
theorem dL_wellIn_10 : decode cL_wellIn 10 = .ok (.goto 7, 3) := by decide +kernel
theorem dL_wellIn_13 : decode cL_wellIn 13 = .ok (.astore 4, 2) := by decide +kernel
theorem dL_wellIn_15 : decode cL_wellIn 15 = .ok (.iconst 1, 1) := by decide +kernel
theorem dL_wellIn_16 : decode cL_wellIn 16 = .ok (.ireturn, 1) := by decide +kernel
theorem dL_wellIn_17 : decode cL_wellIn 17 = .ok (.iconst 0, 1) := by decide +kernel
theorem dL_wellIn_18 : decode cL_wellIn 18 = .ok (.ireturn, 1) := by decide +kernel
set_option maxRecDepth 20000 in
theorem ggL_droughtIn_X8_droughtIn : GoodIn wsL_droughtIn wsX8_droughtIn := goodIn_ca (goodIn_ca (goodIn_r _ [6, 7, 8, 9, 10, 11, 12, 13, 5, 14, 15, 16, 17, 18, 19, 20, 21, 22, 23, 24, 25, 26, 27, 28, 29, 30, 31, 32, 33, 34, 35, 36, 37, 38, 39, 40, 41, 42, 43, 44, 45, 46, 47, 48, 49, 50, 51, 52, 53, 54, 55, 56] (by decide +kernel) (by decide +kernel)) (goodIn_sub (fun _ h => List.mem_cons_of_mem _ (List.mem_append_left _ (List.mem_append_right _ h))) (by decide +kernel))) (goodIn_sub (fun _ h => List.mem_cons_of_mem _ (List.mem_append_right _ h)) (by decide +kernel))
set_option maxRecDepth 20000 in
theorem gL_droughtIn_X8_droughtIn : GoodIn wsL_droughtIn (wsV RL 81 RX8 yX8_droughtIn wsX8_droughtIn) := goodIn_app (goodIn_of _ (by decide +kernel)) ggL_droughtIn_X8_droughtIn
theorem dL_droughtIn_0 : decode cL_droughtIn 0 = .ok (.aload_n 2, 1) := by decide +kernel
theorem dL_droughtIn_1 : decode cL_droughtIn 1 = .ok (.iconst 0, 1) := by decide +kernel
theorem dL_droughtIn_2 : decode cL_droughtIn 2 = .ok (.aload_n 0, 1) := by decide +kernel
theorem dL_droughtIn_3 : decode cL_droughtIn 3 = .ok (.iload_n 1, 1) := by decide +kernel
theorem dL_droughtIn_4 : decode cL_droughtIn 4 = .ok (.invokevirtual 81, 3) := by decide +kernel
theorem dL_droughtIn_7 : decode cL_droughtIn 7 = .ok (.i2l, 1) := by decide +kernel
theorem dL_droughtIn_8 : decode cL_droughtIn 8 = .ok (.lastore, 1) := by decide +kernel
theorem dL_droughtIn_9 : decode cL_droughtIn 9 = .ok (.goto 9, 3) := by decide +kernel
theorem dL_droughtIn_12 : decode cL_droughtIn 12 = .ok (.astore_n 3, 1) := by decide +kernel
theorem dL_droughtIn_13 : decode cL_droughtIn 13 = .ok (.iconst 1, 1) := by decide +kernel
theorem dL_droughtIn_14 : decode cL_droughtIn 14 = .ok (.ireturn, 1) := by decide +kernel
theorem dL_droughtIn_15 : decode cL_droughtIn 15 = .ok (.astore_n 3, 1) := by decide +kernel
theorem dL_droughtIn_16 : decode cL_droughtIn 16 = .ok (.iconst 2, 1) := by decide +kernel
theorem dL_droughtIn_17 : decode cL_droughtIn 17 = .ok (.ireturn, 1) := by decide +kernel
theorem dL_droughtIn_18 : decode cL_droughtIn 18 = .ok (.iconst 0, 1) := by decide +kernel
theorem dL_droughtIn_19 : decode cL_droughtIn 19 = .ok (.ireturn, 1) := by decide +kernel
set_option maxRecDepth 20000 in
theorem ggL_append_X8_append : GoodIn wsL_append wsX8_append := goodIn_ca (goodIn_ca (goodIn_r _ [6, 7, 8, 9, 10, 11, 12, 13, 14, 15, 16, 17, 18, 19, 20, 21, 22, 23, 24, 25, 26, 27, 28, 29, 30, 31, 32, 33] (by decide +kernel) (by decide +kernel)) (goodIn_sub (fun _ h => List.mem_cons_of_mem _ (List.mem_append_right _ h)) (by decide +kernel))) (goodIn_sub (fun _ h => List.mem_cons_of_mem _ (List.mem_append_left _ (List.mem_append_right _ h))) (by decide +kernel))
set_option maxRecDepth 20000 in
theorem gL_append_X8_append : GoodIn wsL_append (wsV RL 84 RX8 yX8_append wsX8_append) := goodIn_app (goodIn_of _ (by decide +kernel)) ggL_append_X8_append
theorem dL_append_0 : decode cL_append 0 = .ok (.aload_n 2, 1) := by decide +kernel
theorem dL_append_1 : decode cL_append 1 = .ok (.iconst 0, 1) := by decide +kernel
theorem dL_append_2 : decode cL_append 2 = .ok (.aload_n 0, 1) := by decide +kernel
theorem dL_append_3 : decode cL_append 3 = .ok (.iload_n 1, 1) := by decide +kernel
theorem dL_append_4 : decode cL_append 4 = .ok (.invokevirtual 84, 3) := by decide +kernel
theorem dL_append_7 : decode cL_append 7 = .ok (.i2l, 1) := by decide +kernel
theorem dL_append_8 : decode cL_append 8 = .ok (.lastore, 1) := by decide +kernel
theorem dL_append_9 : decode cL_append 9 = .ok (.goto 6, 3) := by decide +kernel
theorem dL_append_12 : decode cL_append 12 = .ok (.astore_n 3, 1) := by decide +kernel
theorem dL_append_13 : decode cL_append 13 = .ok (.iconst 1, 1) := by decide +kernel
theorem dL_append_14 : decode cL_append 14 = .ok (.ireturn, 1) := by decide +kernel
theorem dL_append_15 : decode cL_append 15 = .ok (.iconst 0, 1) := by decide +kernel
theorem dL_append_16 : decode cL_append 16 = .ok (.ireturn, 1) := by decide +kernel
set_option maxRecDepth 20000 in
theorem ggL_commands_X8_commands : GoodIn wsL_commands wsX8_commands := goodIn_ca (goodIn_ca (goodIn_ca (goodIn_r _ [6, 7, 8, 9, 10, 11, 12, 13, 14, 15, 16, 17, 18, 19, 20, 21, 22, 23, 24, 25, 26, 27, 28, 29, 30, 31, 32, 33, 34, 35, 36, 37, 38, 39, 40, 41, 42, 43, 44, 45, 46, 47, 48, 49, 50, 51, 52, 53, 54, 55, 56, 57, 58, 59, 60, 61, 62, 63, 64, 65, 66, 67, 68, 69, 70, 71, 72, 73, 74, 75, 76, 77, 78, 79, 80, 81, 82, 83, 84, 85, 86, 87, 88, 89, 90, 91, 92, 93, 94, 95, 96, 97, 98, 99, 100, 101, 102, 5, 103, 104, 105, 106, 107, 108, 109, 110, 111, 112, 113, 114, 115, 116, 117, 118, 119, 120, 121, 122, 123, 124, 125, 126, 127, 128, 129, 130, 131, 132, 133, 134, 135, 136, 137, 138, 139, 140, 141, 142, 143, 144, 145, 146, 147, 148, 149, 150, 151, 152, 153, 154, 155, 156, 157, 158, 159, 160, 161, 162, 163, 164, 165, 166, 167, 168, 169, 170, 171, 172, 173, 174, 175, 176, 177, 178, 179, 180, 181, 182, 183, 184, 185, 186, 187, 188, 189, 190, 191, 192, 193, 194, 195, 196, 197, 198, 199, 200, 201, 202, 203, 204, 205, 206, 207, 208, 209, 210, 211, 212, 213, 214, 215, 216, 217, 218, 219, 220, 221, 222, 223, 224, 225, 226, 227, 228, 229, 230, 231, 232, 233, 234, 235, 236, 237, 238, 239, 240, 241, 242, 243, 244, 245, 246, 247, 248, 249, 250, 251, 252, 253, 254, 255, 256, 257, 258, 259, 260, 261, 262, 263, 264, 265, 266, 267, 268, 269, 270, 271, 272, 273, 274, 275, 276, 277, 278, 279, 280, 281, 282, 283, 284, 285, 286, 287, 288, 289, 290, 291, 292, 293, 294, 295, 296, 297, 298, 299, 300, 301, 302, 303, 304, 305, 306, 307, 308, 309, 310, 311, 312, 313, 314] (by decide +kernel) (by decide +kernel)) (goodIn_sub (fun _ h => List.mem_cons_of_mem _ (List.mem_append_left _ (List.mem_append_right _ h))) (by decide +kernel))) (goodIn_sub (fun _ h => List.mem_cons_of_mem _ (List.mem_append_left _ (List.mem_append_left _ (List.mem_append_right _ h)))) (by decide +kernel))) (goodIn_sub (fun _ h => List.mem_cons_of_mem _ (List.mem_append_right _ h)) (by decide +kernel))
set_option maxRecDepth 20000 in
theorem gL_commands_X8_commands : GoodIn wsL_commands (wsV RL 90 RX8 yX8_commands wsX8_commands) := goodIn_app (goodIn_of _ (by decide +kernel)) ggL_commands_X8_commands
theorem dL_commands_0 : decode cL_commands 0 = .ok (.aload_n 1, 1) := by decide +kernel
theorem dL_commands_1 : decode cL_commands 1 = .ok (.iconst 0, 1) := by decide +kernel
theorem dL_commands_2 : decode cL_commands 2 = .ok (.aload_n 0, 1) := by decide +kernel
theorem dL_commands_3 : decode cL_commands 3 = .ok (.invokevirtual 90, 3) := by decide +kernel
theorem dL_commands_6 : decode cL_commands 6 = .ok (.i2l, 1) := by decide +kernel
theorem dL_commands_7 : decode cL_commands 7 = .ok (.lastore, 1) := by decide +kernel
theorem dL_commands_8 : decode cL_commands 8 = .ok (.goto 9, 3) := by decide +kernel
theorem dL_commands_11 : decode cL_commands 11 = .ok (.astore_n 2, 1) := by decide +kernel
theorem dL_commands_12 : decode cL_commands 12 = .ok (.iconst 1, 1) := by decide +kernel
theorem dL_commands_13 : decode cL_commands 13 = .ok (.ireturn, 1) := by decide +kernel
theorem dL_commands_14 : decode cL_commands 14 = .ok (.astore_n 2, 1) := by decide +kernel
theorem dL_commands_15 : decode cL_commands 15 = .ok (.iconst 2, 1) := by decide +kernel
theorem dL_commands_16 : decode cL_commands 16 = .ok (.ireturn, 1) := by decide +kernel
theorem dL_commands_17 : decode cL_commands 17 = .ok (.iconst 0, 1) := by decide +kernel
theorem dL_commands_18 : decode cL_commands 18 = .ok (.ireturn, 1) := by decide +kernel
set_option maxRecDepth 20000 in
theorem ggL_reason_X8_reason : GoodIn wsL_reason wsX8_reason := goodIn_ca (goodIn_ca (goodIn_r _ [6, 7, 8, 9, 10, 11, 12, 13, 5, 14, 15, 16, 17, 18, 19, 20, 21, 22, 23, 24, 25, 26, 27] (by decide +kernel) (by decide +kernel)) (goodIn_sub (fun _ h => List.mem_cons_of_mem _ (List.mem_append_left _ (List.mem_append_right _ h))) (by decide +kernel))) (goodIn_sub (fun _ h => List.mem_cons_of_mem _ (List.mem_append_right _ h)) (by decide +kernel))
set_option maxRecDepth 20000 in
theorem gL_reason_X8_reason : GoodIn wsL_reason (wsV RL 93 RX8 yX8_reason wsX8_reason) := goodIn_app (goodIn_of _ (by decide +kernel)) ggL_reason_X8_reason
theorem dL_reason_0 : decode cL_reason 0 = .ok (.aload_n 2, 1) := by decide +kernel
theorem dL_reason_1 : decode cL_reason 1 = .ok (.iconst 0, 1) := by decide +kernel
theorem dL_reason_2 : decode cL_reason 2 = .ok (.aload_n 0, 1) := by decide +kernel
theorem dL_reason_3 : decode cL_reason 3 = .ok (.iload_n 1, 1) := by decide +kernel
theorem dL_reason_4 : decode cL_reason 4 = .ok (.invokevirtual 93, 3) := by decide +kernel
theorem dL_reason_7 : decode cL_reason 7 = .ok (.i2l, 1) := by decide +kernel
theorem dL_reason_8 : decode cL_reason 8 = .ok (.lastore, 1) := by decide +kernel
theorem dL_reason_9 : decode cL_reason 9 = .ok (.goto 9, 3) := by decide +kernel
theorem dL_reason_12 : decode cL_reason 12 = .ok (.astore_n 3, 1) := by decide +kernel
theorem dL_reason_13 : decode cL_reason 13 = .ok (.iconst 1, 1) := by decide +kernel
theorem dL_reason_14 : decode cL_reason 14 = .ok (.ireturn, 1) := by decide +kernel
theorem dL_reason_15 : decode cL_reason 15 = .ok (.astore_n 3, 1) := by decide +kernel
theorem dL_reason_16 : decode cL_reason 16 = .ok (.iconst 2, 1) := by decide +kernel
theorem dL_reason_17 : decode cL_reason 17 = .ok (.ireturn, 1) := by decide +kernel
theorem dL_reason_18 : decode cL_reason 18 = .ok (.iconst 0, 1) := by decide +kernel
theorem dL_reason_19 : decode cL_reason 19 = .ok (.ireturn, 1) := by decide +kernel
set_option maxRecDepth 20000 in
theorem ggL_line_X8_line : GoodIn wsL_line wsX8_line := goodIn_ca (goodIn_ca (goodIn_r _ [6, 7, 8, 9, 10, 11, 12, 13, 14, 15, 16, 17, 18, 19, 20, 21, 22, 23, 24, 25, 26, 27, 28, 29, 30, 31, 32, 33, 34, 35, 36, 37, 38, 39, 40, 41, 42, 43, 44, 45, 46, 47, 48, 49, 50, 51, 52, 53, 54, 55, 56, 57, 58, 59, 60, 61, 62, 63, 64, 65, 66, 67, 68, 69, 70, 71, 72, 73, 74, 75, 76, 77, 78, 79, 80, 81, 82, 83, 84, 85, 86, 87, 88, 89, 90, 91, 92, 93, 94, 95, 96, 97, 98, 99, 100, 101, 102, 103, 104, 105, 106, 107, 108, 109, 110, 111, 112, 113, 114, 115, 116, 117, 118, 119, 120, 121, 122, 123, 124, 125, 126, 127, 128, 129, 130, 131, 132, 133, 134, 135, 136, 137, 138, 139, 140, 141, 142, 143, 144, 145, 146, 147, 148, 149, 150, 151, 152, 153, 154, 155, 156, 157, 158, 159, 160, 161, 162, 163, 164, 165, 166, 167, 168, 169, 170, 171, 172, 173, 174, 175, 176, 177, 178, 179, 180, 181, 182, 183, 184, 185, 186, 187, 188, 189, 190, 191, 192, 193, 194, 195, 196, 197, 198, 199, 200, 201, 202, 203, 204, 205, 206, 207, 208, 209, 210, 211, 212, 213, 214, 215, 216, 217, 218, 219, 220, 221, 222, 223, 224, 225, 226, 227, 228, 229, 230, 231, 232, 233, 234, 235, 236, 237, 238, 239, 240, 241, 242, 243, 244, 245, 246, 247, 248, 249, 250, 251, 252, 253, 254, 255, 256, 257, 258, 259, 260, 261, 262, 263, 264, 265, 266, 267, 268, 269, 270, 271, 272, 273, 274, 275, 276, 277, 278, 279, 280, 281, 282, 283, 284, 285, 286, 287, 288, 289, 290, 291, 292, 293, 294, 295, 296, 297, 298] (by decide +kernel) (by decide +kernel)) (goodIn_sub (fun _ h => List.mem_cons_of_mem _ (List.mem_append_right _ h)) (by decide +kernel))) (goodIn_sub (fun _ h => List.mem_cons_of_mem _ (List.mem_append_left _ (List.mem_append_right _ h))) (by decide +kernel))
set_option maxRecDepth 20000 in
theorem gL_line_X8_line : GoodIn wsL_line (wsV RL 96 RX8 yX8_line wsX8_line) := goodIn_app (goodIn_of _ (by decide +kernel)) ggL_line_X8_line
theorem dL_line_0 : decode cL_line 0 = .ok (.aload_n 2, 1) := by decide +kernel
theorem dL_line_1 : decode cL_line 1 = .ok (.iconst 0, 1) := by decide +kernel
theorem dL_line_2 : decode cL_line 2 = .ok (.aload_n 0, 1) := by decide +kernel
theorem dL_line_3 : decode cL_line 3 = .ok (.iload_n 1, 1) := by decide +kernel
theorem dL_line_4 : decode cL_line 4 = .ok (.invokevirtual 96, 3) := by decide +kernel
theorem dL_line_7 : decode cL_line 7 = .ok (.i2l, 1) := by decide +kernel
theorem dL_line_8 : decode cL_line 8 = .ok (.lastore, 1) := by decide +kernel
theorem dL_line_9 : decode cL_line 9 = .ok (.goto 6, 3) := by decide +kernel
theorem dL_line_12 : decode cL_line 12 = .ok (.astore_n 3, 1) := by decide +kernel
theorem dL_line_13 : decode cL_line 13 = .ok (.iconst 1, 1) := by decide +kernel
theorem dL_line_14 : decode cL_line 14 = .ok (.ireturn, 1) := by decide +kernel
theorem dL_line_15 : decode cL_line 15 = .ok (.iconst 0, 1) := by decide +kernel
theorem dL_line_16 : decode cL_line 16 = .ok (.ireturn, 1) := by decide +kernel
set_option maxRecDepth 20000 in
theorem ggL_character_X8_character : GoodIn wsL_character wsX8_character := goodIn_ca (goodIn_r _ [6, 7, 8, 9, 10, 11, 12, 13, 14, 15, 16, 17, 18, 19, 20, 21, 22, 23, 5, 24, 25, 26, 27, 28, 29, 30, 31, 32, 33, 34, 35, 36, 37, 38, 39, 40, 41, 42, 43, 44, 45, 46, 47, 48, 49, 50, 51, 52, 53, 54, 55, 56, 57, 58, 59, 60, 61, 62, 63, 64, 65, 66, 67, 68, 69, 70] (by decide +kernel) (by decide +kernel)) (goodIn_sub (fun _ h => List.mem_cons_of_mem _ (List.mem_append_right _ h)) (by decide +kernel))
set_option maxRecDepth 20000 in
theorem gL_character_X8_character : GoodIn wsL_character (wsV RL 99 RX8 yX8_character wsX8_character) := goodIn_app (goodIn_of _ (by decide +kernel)) ggL_character_X8_character
theorem dL_character_0 : decode cL_character 0 = .ok (.aload_n 2, 1) := by decide +kernel
theorem dL_character_1 : decode cL_character 1 = .ok (.iconst 0, 1) := by decide +kernel
theorem dL_character_2 : decode cL_character 2 = .ok (.aload_n 0, 1) := by decide +kernel
theorem dL_character_3 : decode cL_character 3 = .ok (.iload_n 1, 1) := by decide +kernel
theorem dL_character_4 : decode cL_character 4 = .ok (.invokevirtual 99, 3) := by decide +kernel
theorem dL_character_7 : decode cL_character 7 = .ok (.i2l, 1) := by decide +kernel
theorem dL_character_8 : decode cL_character 8 = .ok (.lastore, 1) := by decide +kernel
theorem dL_character_9 : decode cL_character 9 = .ok (.goto 6, 3) := by decide +kernel
theorem dL_character_12 : decode cL_character 12 = .ok (.astore_n 3, 1) := by decide +kernel
theorem dL_character_13 : decode cL_character 13 = .ok (.iconst 1, 1) := by decide +kernel
theorem dL_character_14 : decode cL_character 14 = .ok (.ireturn, 1) := by decide +kernel
theorem dL_character_15 : decode cL_character 15 = .ok (.iconst 0, 1) := by decide +kernel
theorem dL_character_16 : decode cL_character 16 = .ok (.ireturn, 1) := by decide +kernel
set_option maxRecDepth 20000 in
theorem ggL_meanTemper_X8_meanTemper : GoodIn wsL_meanTemper wsX8_meanTemper := goodIn_ca (goodIn_ca (goodIn_r _ [6, 7, 8, 9, 10, 11, 12, 13, 14, 15, 16, 17, 18, 19, 20, 21, 22, 23, 24, 25, 26, 27, 28, 29, 30, 31, 32, 33, 34, 35, 36, 37, 38, 39, 40] (by decide +kernel) (by decide +kernel)) (goodIn_sub (fun _ h => List.mem_cons_of_mem _ (List.mem_append_right _ h)) (by decide +kernel))) (goodIn_sub (fun _ h => List.mem_cons_of_mem _ (List.mem_append_left _ (List.mem_append_right _ h))) (by decide +kernel))
set_option maxRecDepth 20000 in
theorem gL_meanTemper_X8_meanTemper : GoodIn wsL_meanTemper (wsV RL 103 RX8 yX8_meanTemper wsX8_meanTemper) := goodIn_app (goodIn_of _ (by decide +kernel)) ggL_meanTemper_X8_meanTemper
theorem dL_meanTemper_0 : decode cL_meanTemper 0 = .ok (.aload_n 1, 1) := by decide +kernel
theorem dL_meanTemper_1 : decode cL_meanTemper 1 = .ok (.iconst 0, 1) := by decide +kernel
theorem dL_meanTemper_2 : decode cL_meanTemper 2 = .ok (.aload_n 0, 1) := by decide +kernel
theorem dL_meanTemper_3 : decode cL_meanTemper 3 = .ok (.invokevirtual 103, 3) := by decide +kernel
theorem dL_meanTemper_6 : decode cL_meanTemper 6 = .ok (.f2d, 1) := by decide +kernel
theorem dL_meanTemper_7 : decode cL_meanTemper 7 = .ok (.dastore, 1) := by decide +kernel
theorem dL_meanTemper_8 : decode cL_meanTemper 8 = .ok (.goto 6, 3) := by decide +kernel
theorem dL_meanTemper_11 : decode cL_meanTemper 11 = .ok (.astore_n 2, 1) := by decide +kernel
theorem dL_meanTemper_12 : decode cL_meanTemper 12 = .ok (.iconst 1, 1) := by decide +kernel
theorem dL_meanTemper_13 : decode cL_meanTemper 13 = .ok (.ireturn, 1) := by decide +kernel
theorem dL_meanTemper_14 : decode cL_meanTemper 14 = .ok (.iconst 0, 1) := by decide +kernel
theorem dL_meanTemper_15 : decode cL_meanTemper 15 = .ok (.ireturn, 1) := by decide +kernel
set_option maxRecDepth 20000 in
theorem ggL_share_X8_share : GoodIn wsL_share wsX8_share := goodIn_ca (goodIn_ca (goodIn_ca (goodIn_r _ [6, 7, 8, 9, 10, 11, 12, 13, 14, 15, 16, 17, 18, 19, 20, 21, 22, 23, 24, 25, 26, 27, 28, 29, 30, 31, 32, 33, 34, 35, 36, 37, 38, 39, 40, 41, 42, 43, 44, 45, 46, 47, 48, 49] (by decide +kernel) (by decide +kernel)) (goodIn_sub (fun _ h => List.mem_cons_of_mem _ (List.mem_append_left _ (List.mem_append_right _ h))) (by decide +kernel))) (goodIn_sub (fun _ h => List.mem_cons_of_mem _ (List.mem_append_right _ h)) (by decide +kernel))) (goodIn_sub (fun _ h => List.mem_cons_of_mem _ (List.mem_append_left _ (List.mem_append_left _ (List.mem_append_right _ h)))) (by decide +kernel))
set_option maxRecDepth 20000 in
theorem gL_share_X8_share : GoodIn wsL_share (wsV RL 109 RX8 yX8_share wsX8_share) := goodIn_app (goodIn_of _ (by decide +kernel)) ggL_share_X8_share
theorem dL_share_0 : decode cL_share 0 = .ok (.aload_n 2, 1) := by decide +kernel
theorem dL_share_1 : decode cL_share 1 = .ok (.iconst 0, 1) := by decide +kernel
theorem dL_share_2 : decode cL_share 2 = .ok (.aload_n 0, 1) := by decide +kernel
theorem dL_share_3 : decode cL_share 3 = .ok (.iload_n 1, 1) := by decide +kernel
theorem dL_share_4 : decode cL_share 4 = .ok (.invokevirtual 109, 3) := by decide +kernel
theorem dL_share_7 : decode cL_share 7 = .ok (.dastore, 1) := by decide +kernel
theorem dL_share_8 : decode cL_share 8 = .ok (.goto 9, 3) := by decide +kernel
theorem dL_share_11 : decode cL_share 11 = .ok (.astore_n 3, 1) := by decide +kernel
theorem dL_share_12 : decode cL_share 12 = .ok (.iconst 1, 1) := by decide +kernel
theorem dL_share_13 : decode cL_share 13 = .ok (.ireturn, 1) := by decide +kernel
theorem dL_share_14 : decode cL_share 14 = .ok (.astore_n 3, 1) := by decide +kernel
theorem dL_share_15 : decode cL_share 15 = .ok (.iconst 2, 1) := by decide +kernel
theorem dL_share_16 : decode cL_share 16 = .ok (.ireturn, 1) := by decide +kernel
theorem dL_share_17 : decode cL_share 17 = .ok (.iconst 0, 1) := by decide +kernel
theorem dL_share_18 : decode cL_share 18 = .ok (.ireturn, 1) := by decide +kernel
set_option maxRecDepth 20000 in
theorem ggL_account_X8_account : GoodIn wsL_account wsX8_account := goodIn_ca (goodIn_r _ [6, 7, 8, 9, 10, 11, 12, 13, 14, 15, 16, 17, 18, 19, 20, 21, 22, 23, 24, 25, 26, 27, 28, 29, 30, 31, 32, 33, 34, 35, 36, 37, 38, 39, 40, 41, 42, 43, 44, 45, 46, 47, 48, 49, 50, 51, 52, 53, 54, 55, 56, 57, 58, 59, 60] (by decide +kernel) (by decide +kernel)) (goodIn_sub (fun _ h => List.mem_cons_of_mem _ (List.mem_append_right _ h)) (by decide +kernel))
set_option maxRecDepth 20000 in
theorem gL_account_X8_account : GoodIn wsL_account (wsV RL 113 RX8 yX8_account wsX8_account) := goodIn_app (goodIn_of _ (by decide +kernel)) ggL_account_X8_account
theorem dL_account_0 : decode cL_account 0 = .ok (.aload_n 2, 1) := by decide +kernel
theorem dL_account_1 : decode cL_account 1 = .ok (.iconst 0, 1) := by decide +kernel
theorem dL_account_2 : decode cL_account 2 = .ok (.aload_n 0, 1) := by decide +kernel
theorem dL_account_3 : decode cL_account 3 = .ok (.iload_n 1, 1) := by decide +kernel
theorem dL_account_4 : decode cL_account 4 = .ok (.invokevirtual 113, 3) := by decide +kernel
theorem dL_account_7 : decode cL_account 7 = .ok (.i2l, 1) := by decide +kernel
theorem dL_account_8 : decode cL_account 8 = .ok (.lastore, 1) := by decide +kernel
theorem dL_account_9 : decode cL_account 9 = .ok (.goto 6, 3) := by decide +kernel
theorem dL_account_12 : decode cL_account 12 = .ok (.astore_n 3, 1) := by decide +kernel
theorem dL_account_13 : decode cL_account 13 = .ok (.iconst 1, 1) := by decide +kernel
theorem dL_account_14 : decode cL_account 14 = .ok (.ireturn, 1) := by decide +kernel
theorem dL_account_15 : decode cL_account 15 = .ok (.iconst 0, 1) := by decide +kernel
theorem dL_account_16 : decode cL_account 16 = .ok (.ireturn, 1) := by decide +kernel
set_option maxRecDepth 20000 in
theorem ggL_undo_X8_undo : GoodIn wsL_undo wsX8_undo := goodIn_ca (goodIn_ca (goodIn_r _ [6, 7, 8, 9, 10, 11, 12, 13, 14, 15, 16, 17, 18, 19, 20, 21, 22, 23, 24, 25, 26, 27, 28, 29, 30, 31, 32, 33, 34, 35, 36, 37, 38, 39, 40, 41, 42, 43, 44, 45, 46, 47, 48, 49, 50, 51, 52, 53, 54, 55, 56, 57, 58, 59, 60, 61, 62, 63, 64, 65, 66, 67, 68, 69, 70, 71, 72, 73, 74, 75, 76, 77, 78, 79, 80, 81, 82, 83, 84, 85, 86, 87, 88, 89, 90, 91, 92, 93, 94, 95, 96, 97, 98, 99, 100, 101, 102, 103, 104, 105, 106, 107, 108, 109, 110, 111, 112, 113, 114, 115, 116, 117, 118, 119] (by decide +kernel) (by decide +kernel)) (goodIn_sub (fun _ h => List.mem_cons_of_mem _ (List.mem_append_right _ h)) (by decide +kernel))) (goodIn_sub (fun _ h => List.mem_cons_of_mem _ (List.mem_append_left _ (List.mem_append_right _ h))) (by decide +kernel))
set_option maxRecDepth 20000 in
theorem gL_undo_X8_undo : GoodIn wsL_undo (wsV RL 116 RX8 yX8_undo wsX8_undo) := goodIn_app (goodIn_of _ (by decide +kernel)) ggL_undo_X8_undo
theorem dL_undo_0 : decode cL_undo 0 = .ok (.aload_n 1, 1) := by decide +kernel
theorem dL_undo_1 : decode cL_undo 1 = .ok (.iconst 0, 1) := by decide +kernel
theorem dL_undo_2 : decode cL_undo 2 = .ok (.aload_n 0, 1) := by decide +kernel
theorem dL_undo_3 : decode cL_undo 3 = .ok (.invokevirtual 116, 3) := by decide +kernel
theorem dL_undo_6 : decode cL_undo 6 = .ok (.i2l, 1) := by decide +kernel
theorem dL_undo_7 : decode cL_undo 7 = .ok (.lastore, 1) := by decide +kernel
theorem dL_undo_8 : decode cL_undo 8 = .ok (.goto 6, 3) := by decide +kernel
theorem dL_undo_11 : decode cL_undo 11 = .ok (.astore_n 2, 1) := by decide +kernel
theorem dL_undo_12 : decode cL_undo 12 = .ok (.iconst 1, 1) := by decide +kernel
theorem dL_undo_13 : decode cL_undo 13 = .ok (.ireturn, 1) := by decide +kernel
theorem dL_undo_14 : decode cL_undo 14 = .ok (.iconst 0, 1) := by decide +kernel
theorem dL_undo_15 : decode cL_undo 15 = .ok (.ireturn, 1) := by decide +kernel
set_option maxRecDepth 20000 in
theorem ggL_restore_X8_restore : GoodIn wsL_restore wsX8_restore := goodIn_ca (goodIn_ca (goodIn_r _ [6, 7, 8, 9, 10, 11, 12, 13, 14, 15, 16, 17, 18, 19, 20, 21, 22, 23, 24, 25, 26, 27, 28, 29, 30, 31, 32, 33, 34, 35, 36, 37, 38, 39, 40, 41, 42, 43, 44, 45, 46, 47, 48, 49, 50, 51, 52, 53, 54, 55, 56, 57, 58, 59, 60, 61, 62, 63, 64, 65, 66, 67, 68, 69, 70, 71, 72, 73, 74, 75, 76, 77, 78, 79, 80, 81, 82, 83, 84, 85, 86, 87, 88, 89, 90, 91, 92, 93, 94, 95, 96, 97, 98, 99, 100, 101, 102, 103, 104, 105, 106, 107, 108, 109, 110, 111, 112, 113, 114, 115, 116, 117, 118, 119] (by decide +kernel) (by decide +kernel)) (goodIn_sub (fun _ h => List.mem_cons_of_mem _ (List.mem_append_right _ h)) (by decide +kernel))) (goodIn_sub (fun _ h => List.mem_cons_of_mem _ (List.mem_append_left _ (List.mem_append_right _ h))) (by decide +kernel))
set_option maxRecDepth 20000 in
theorem gL_restore_X8_restore : GoodIn wsL_restore (wsV RL 119 RX8 yX8_restore wsX8_restore) := goodIn_app (goodIn_of _ (by decide +kernel)) ggL_restore_X8_restore
theorem dL_restore_0 : decode cL_restore 0 = .ok (.aload_n 1, 1) := by decide +kernel
theorem dL_restore_1 : decode cL_restore 1 = .ok (.iconst 0, 1) := by decide +kernel
theorem dL_restore_2 : decode cL_restore 2 = .ok (.aload_n 0, 1) := by decide +kernel
theorem dL_restore_3 : decode cL_restore 3 = .ok (.invokevirtual 119, 3) := by decide +kernel
theorem dL_restore_6 : decode cL_restore 6 = .ok (.i2l, 1) := by decide +kernel
theorem dL_restore_7 : decode cL_restore 7 = .ok (.lastore, 1) := by decide +kernel
theorem dL_restore_8 : decode cL_restore 8 = .ok (.goto 6, 3) := by decide +kernel
theorem dL_restore_11 : decode cL_restore 11 = .ok (.astore_n 2, 1) := by decide +kernel
theorem dL_restore_12 : decode cL_restore 12 = .ok (.iconst 1, 1) := by decide +kernel
theorem dL_restore_13 : decode cL_restore 13 = .ok (.ireturn, 1) := by decide +kernel
theorem dL_restore_14 : decode cL_restore 14 = .ok (.iconst 0, 1) := by decide +kernel
theorem dL_restore_15 : decode cL_restore 15 = .ok (.ireturn, 1) := by decide +kernel
