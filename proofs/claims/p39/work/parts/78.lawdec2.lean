set_option maxRecDepth 20000 in
theorem ggL_areSumsRight_X8_account : GoodIn wsL_areSumsRight wsX8_account := goodIn_ca (goodIn_r _ [10, 11, 12, 13, 14, 15, 130, 131, 132, 133, 134, 135, 136, 137, 138, 139, 140, 141, 142, 143, 144, 145, 146, 147, 148, 149, 150, 151, 152, 153, 154, 155, 156, 157, 158, 159, 160, 161, 162, 163, 164, 165, 166, 167, 168, 169, 170, 171, 172, 173, 174, 175, 176, 177, 178] (by decide +kernel) (by decide +kernel)) (goodIn_sub (fun _ h => List.mem_cons_of_mem _ (List.mem_append_left _ (List.mem_append_left _ (List.mem_append_right _ h)))) (by decide +kernel))
set_option maxRecDepth 20000 in
theorem gL_areSumsRight_X8_account : GoodIn wsL_areSumsRight (wsV RL 33 RX8 yX8_account wsX8_account) := goodIn_app (goodIn_of _ (by decide +kernel)) ggL_areSumsRight_X8_account
set_option maxRecDepth 20000 in
theorem ggL_areSumsRight_L_isHouseholdRight : GoodIn wsL_areSumsRight wsL_isHouseholdRight := goodIn_ca (goodIn_ca (goodIn_ca (goodIn_r _ [19, 20, 21, 4, 22, 23, 24, 25, 9, 26, 27, 28, 11, 12, 13, 29, 30, 31, 32, 33, 34, 35, 36, 37, 38, 39, 40, 41, 42, 43, 18, 44, 45, 46, 47, 48, 49, 50, 51, 52, 53, 54, 55, 56, 57, 58, 59, 60, 61, 62, 63, 64, 65, 66, 6, 7, 8, 10, 14, 15, 67, 68, 69, 70, 71, 72, 73, 74, 75, 76, 77, 78, 79, 80, 81, 82, 83, 84, 85, 86, 87, 130, 131, 132, 133, 134, 135, 136, 137, 138, 139, 140, 141, 142, 143, 144, 145, 146, 147, 148, 149, 150, 151, 152, 153, 154, 157, 158, 159, 160, 161, 162, 163, 164, 155, 156, 165, 166, 167, 168, 169, 170, 171, 172, 173, 174, 175, 176, 177, 178] (by decide +kernel) (by decide +kernel)) (goodIn_sub (fun _ h => List.mem_cons_of_mem _ (List.mem_append_left _ (List.mem_append_right _ h))) (by decide +kernel))) (goodIn_sub (fun _ h => List.mem_cons_of_mem _ (List.mem_append_left _ (List.mem_append_left _ (List.mem_append_right _ h)))) (by decide +kernel))) (goodIn_sub (fun _ h => List.mem_cons_of_mem _ (List.mem_append_right _ h)) (by decide +kernel))
set_option maxRecDepth 20000 in
theorem gL_areSumsRight_L_isHouseholdRight : GoodIn wsL_areSumsRight (va_wsS RL 98 yL_isHouseholdRight wsL_isHouseholdRight) := goodIn_app (goodIn_of _ (by decide +kernel)) ggL_areSumsRight_L_isHouseholdRight
set_option maxRecDepth 20000 in
theorem ggL_areSumsRight_X8_householdOf : GoodIn wsL_areSumsRight wsX8_householdOf := goodIn_ca (goodIn_ca (goodIn_r _ [48, 27, 28, 11, 12, 13, 29, 30, 31, 32, 33, 49, 50, 51, 52, 53, 54, 55, 37, 38, 39, 40, 41, 56, 57, 58, 59, 21, 4, 22, 60, 61, 62, 63, 64, 65, 66, 130, 131, 132, 133, 134, 135, 136, 137, 138, 139, 140, 141, 142, 143, 144, 145, 146, 147, 148, 149, 150, 151, 152, 153, 154, 157, 158, 159, 160, 161, 162, 163, 164, 155, 156] (by decide +kernel) (by decide +kernel)) (goodIn_sub (fun _ h => List.mem_cons_of_mem _ (List.mem_append_left _ (List.mem_append_right _ h))) (by decide +kernel))) (goodIn_sub (fun _ h => List.mem_cons_of_mem _ (List.mem_append_left _ (List.mem_append_left _ (List.mem_append_right _ h)))) (by decide +kernel))
set_option maxRecDepth 20000 in
theorem gL_areSumsRight_X8_householdOf : GoodIn wsL_areSumsRight (wsV RL 63 RX8 yX8_householdOf wsX8_householdOf) := goodIn_app (goodIn_of _ (by decide +kernel)) ggL_areSumsRight_X8_householdOf
set_option maxRecDepth 20000 in
theorem ggL_areSumsRight_X8_isFor : GoodIn wsL_areSumsRight wsX8_isFor := goodIn_ca (goodIn_r _ [70, 27, 28, 13, 29, 30, 31, 32, 33, 71, 72, 73, 74, 37, 38, 39, 40, 41, 130, 131, 132, 133, 134, 135, 136, 137, 138, 139, 140, 141, 142, 143, 144, 145, 146, 147, 148, 149, 150, 151, 152, 153, 154] (by decide +kernel) (by decide +kernel)) (goodIn_sub (fun _ h => List.mem_cons_of_mem _ (List.mem_append_left _ (List.mem_append_right _ h))) (by decide +kernel))
set_option maxRecDepth 20000 in
theorem gL_areSumsRight_X8_isFor : GoodIn wsL_areSumsRight (wsV RL 92 RX8 yX8_isFor wsX8_isFor) := goodIn_app (goodIn_of _ (by decide +kernel)) ggL_areSumsRight_X8_isFor
set_option maxRecDepth 20000 in
theorem ggL_areSumsRight_X8_quarrels : GoodIn wsL_areSumsRight wsX8_quarrels := goodIn_ca (goodIn_r _ [91, 27, 28, 13, 29, 30, 31, 32, 33, 130, 131, 132, 133, 134, 135, 136, 137, 138, 139, 140, 141, 142, 143, 144, 145, 146, 147, 148, 149, 150, 151, 152, 153, 154] (by decide +kernel) (by decide +kernel)) (goodIn_sub (fun _ h => List.mem_cons_of_mem _ (List.mem_append_left _ (List.mem_append_right _ h))) (by decide +kernel))
set_option maxRecDepth 20000 in
theorem gL_areSumsRight_X8_quarrels : GoodIn wsL_areSumsRight (wsV RL 67 RX8 yX8_quarrels wsX8_quarrels) := goodIn_app (goodIn_of _ (by decide +kernel)) ggL_areSumsRight_X8_quarrels
set_option maxRecDepth 20000 in
theorem ggL_areSumsRight_X8_neighbours : GoodIn wsL_areSumsRight wsX8_neighbours := goodIn_ca (goodIn_r _ [95, 27, 28, 13, 29, 30, 31, 32, 33, 96, 97, 98, 99, 100, 101, 102, 103, 104, 3, 4, 5, 130, 131, 132, 133, 134, 135, 136, 137, 138, 139, 140, 141, 142, 143, 144, 145, 146, 147, 148, 149, 150, 151, 152, 153, 154] (by decide +kernel) (by decide +kernel)) (goodIn_sub (fun _ h => List.mem_cons_of_mem _ (List.mem_append_left _ (List.mem_append_right _ h))) (by decide +kernel))
set_option maxRecDepth 20000 in
theorem gL_areSumsRight_X8_neighbours : GoodIn wsL_areSumsRight (wsV RL 105 RX8 yX8_neighbours wsX8_neighbours) := goodIn_app (goodIn_of _ (by decide +kernel)) ggL_areSumsRight_X8_neighbours
set_option maxRecDepth 20000 in
theorem ggL_areSumsRight_X8_possible : GoodIn wsL_areSumsRight wsX8_possible := goodIn_r _ [108, 13, 109, 50, 110, 111, 112, 113, 56, 57, 58, 53, 59, 21, 4, 22, 60, 49, 51, 52, 54, 55, 37, 30, 38, 39, 40, 41, 130, 131, 132, 133, 134, 135, 136, 137, 138, 139, 140, 141, 142, 143, 144, 145, 155, 156, 146, 147, 148, 149, 150, 151, 152, 153, 154, 157, 158, 159, 160, 161, 162, 163, 164] (by decide +kernel) (by decide +kernel)
set_option maxRecDepth 20000 in
theorem gL_areSumsRight_X8_possible : GoodIn wsL_areSumsRight (wsV RL 108 RX8 yX8_possible wsX8_possible) := goodIn_app (goodIn_of _ (by decide +kernel)) ggL_areSumsRight_X8_possible
set_option maxRecDepth 20000 in
theorem ggL_areSumsRight_X8_water : GoodIn wsL_areSumsRight wsX8_water := goodIn_r _ [117, 13, 130, 131, 132, 133, 134, 135, 136, 137, 138, 139, 140, 141, 142, 143, 144, 145, 157, 158, 159, 160, 161, 162, 163, 164] (by decide +kernel) (by decide +kernel)
set_option maxRecDepth 20000 in
theorem gL_areSumsRight_X8_water : GoodIn wsL_areSumsRight (wsV RL 111 RX8 yX8_water wsX8_water) := goodIn_app (goodIn_of _ (by decide +kernel)) ggL_areSumsRight_X8_water
set_option maxRecDepth 20000 in
theorem ggL_areSumsRight_X8_waterAgain : GoodIn wsL_areSumsRight wsX8_waterAgain := goodIn_r _ [121, 13, 130, 131, 132, 133, 134, 135, 136, 137, 138, 139, 140, 141, 142, 143, 144, 145, 157, 158, 159, 160, 161, 162, 163, 164] (by decide +kernel) (by decide +kernel)
set_option maxRecDepth 20000 in
theorem gL_areSumsRight_X8_waterAgain : GoodIn wsL_areSumsRight (wsV RL 114 RX8 yX8_waterAgain wsX8_waterAgain) := goodIn_app (goodIn_of _ (by decide +kernel)) ggL_areSumsRight_X8_waterAgain
set_option maxRecDepth 20000 in
theorem ggL_areSumsRight_X8_membersFor : GoodIn wsL_areSumsRight wsX8_membersFor := goodIn_ca (goodIn_r _ [125, 11, 12, 13, 34, 35, 9, 36, 126, 30, 127, 128, 33, 40, 129, 71, 72, 73, 74, 37, 38, 39, 41, 130, 131, 132, 133, 134, 135, 136, 137, 138, 139, 140, 141, 142, 143, 144, 145, 146, 147, 148, 149, 150, 151, 152, 153, 154] (by decide +kernel) (by decide +kernel)) (goodIn_sub (fun _ h => List.mem_cons_of_mem _ (List.mem_append_left _ (List.mem_append_left _ (List.mem_append_right _ h)))) (by decide +kernel))
set_option maxRecDepth 20000 in
theorem gL_areSumsRight_X8_membersFor : GoodIn wsL_areSumsRight (wsV RL 117 RX8 yX8_membersFor wsX8_membersFor) := goodIn_app (goodIn_of _ (by decide +kernel)) ggL_areSumsRight_X8_membersFor
theorem dL_areSumsRight_0 : decode cL_areSumsRight 0 = .ok (.iconst 0, 1) := by decide +kernel
theorem dL_areSumsRight_1 : decode cL_areSumsRight 1 = .ok (.istore_n 1, 1) := by decide +kernel
theorem dL_areSumsRight_2 : decode cL_areSumsRight 2 = .ok (.iconst 0, 1) := by decide +kernel
theorem dL_areSumsRight_3 : decode cL_areSumsRight 3 = .ok (.istore_n 2, 1) := by decide +kernel
theorem dL_areSumsRight_4 : decode cL_areSumsRight 4 = .ok (.iconst 0, 1) := by decide +kernel
theorem dL_areSumsRight_5 : decode cL_areSumsRight 5 = .ok (.istore_n 3, 1) := by decide +kernel
theorem dL_areSumsRight_6 : decode cL_areSumsRight 6 = .ok (.iconst 0, 1) := by decide +kernel
theorem dL_areSumsRight_7 : decode cL_areSumsRight 7 = .ok (.istore 4, 2) := by decide +kernel
theorem dL_areSumsRight_9 : decode cL_areSumsRight 9 = .ok (.iconst 4, 1) := by decide +kernel
theorem dL_areSumsRight_10 : decode cL_areSumsRight 10 = .ok (.newarray .int, 2) := by decide +kernel
theorem dL_areSumsRight_12 : decode cL_areSumsRight 12 = .ok (.astore 5, 2) := by decide +kernel
theorem dL_areSumsRight_14 : decode cL_areSumsRight 14 = .ok (.iconst 0, 1) := by decide +kernel
theorem dL_areSumsRight_15 : decode cL_areSumsRight 15 = .ok (.istore 6, 2) := by decide +kernel
theorem dL_areSumsRight_17 : decode cL_areSumsRight 17 = .ok (.iload 6, 2) := by decide +kernel
theorem dL_areSumsRight_19 : decode cL_areSumsRight 19 = .ok (.aload_n 0, 1) := by decide +kernel
theorem dL_areSumsRight_20 : decode cL_areSumsRight 20 = .ok (.iconst 1, 1) := by decide +kernel
theorem dL_areSumsRight_21 : decode cL_areSumsRight 21 = .ok (.invokevirtual 33, 3) := by decide +kernel
theorem dL_areSumsRight_24 : decode cL_areSumsRight 24 = .ok (.if_icmp .ge 206, 3) := by decide +kernel
theorem dL_areSumsRight_27 : decode cL_areSumsRight 27 = .ok (.aload_n 0, 1) := by decide +kernel
theorem dL_areSumsRight_28 : decode cL_areSumsRight 28 = .ok (.iload 6, 2) := by decide +kernel
theorem dL_areSumsRight_30 : decode cL_areSumsRight 30 = .ok (.invokestatic 98, 3) := by decide +kernel
theorem dL_areSumsRight_33 : decode cL_areSumsRight 33 = .ok (.ifCond .ne 5, 3) := by decide +kernel
theorem dL_areSumsRight_36 : decode cL_areSumsRight 36 = .ok (.iconst 0, 1) := by decide +kernel
theorem dL_areSumsRight_37 : decode cL_areSumsRight 37 = .ok (.ireturn, 1) := by decide +kernel
theorem dL_areSumsRight_38 : decode cL_areSumsRight 38 = .ok (.iload_n 1, 1) := by decide +kernel
theorem dL_areSumsRight_39 : decode cL_areSumsRight 39 = .ok (.aload_n 0, 1) := by decide +kernel
theorem dL_areSumsRight_40 : decode cL_areSumsRight 40 = .ok (.iload 6, 2) := by decide +kernel
theorem dL_areSumsRight_42 : decode cL_areSumsRight 42 = .ok (.bipush 8, 2) := by decide +kernel
theorem dL_areSumsRight_44 : decode cL_areSumsRight 44 = .ok (.invokevirtual 63, 3) := by decide +kernel
theorem dL_areSumsRight_47 : decode cL_areSumsRight 47 = .ok (.ifCond .lt 7, 3) := by decide +kernel
theorem dL_areSumsRight_50 : decode cL_areSumsRight 50 = .ok (.iconst 1, 1) := by decide +kernel
theorem dL_areSumsRight_51 : decode cL_areSumsRight 51 = .ok (.goto 4, 3) := by decide +kernel
theorem dL_areSumsRight_54 : decode cL_areSumsRight 54 = .ok (.iconst 0, 1) := by decide +kernel
theorem dL_areSumsRight_55 : decode cL_areSumsRight 55 = .ok (.iadd, 1) := by decide +kernel
theorem dL_areSumsRight_56 : decode cL_areSumsRight 56 = .ok (.istore_n 1, 1) := by decide +kernel
theorem dL_areSumsRight_57 : decode cL_areSumsRight 57 = .ok (.iload 4, 2) := by decide +kernel
theorem dL_areSumsRight_59 : decode cL_areSumsRight 59 = .ok (.aload_n 0, 1) := by decide +kernel
theorem dL_areSumsRight_60 : decode cL_areSumsRight 60 = .ok (.iload 6, 2) := by decide +kernel
theorem dL_areSumsRight_62 : decode cL_areSumsRight 62 = .ok (.bipush 8, 2) := by decide +kernel
theorem dL_areSumsRight_64 : decode cL_areSumsRight 64 = .ok (.invokevirtual 63, 3) := by decide +kernel
theorem dL_areSumsRight_67 : decode cL_areSumsRight 67 = .ok (.ifCond .lt 13, 3) := by decide +kernel
theorem dL_areSumsRight_70 : decode cL_areSumsRight 70 = .ok (.aload_n 0, 1) := by decide +kernel
theorem dL_areSumsRight_71 : decode cL_areSumsRight 71 = .ok (.iload 6, 2) := by decide +kernel
theorem dL_areSumsRight_73 : decode cL_areSumsRight 73 = .ok (.iconst 4, 1) := by decide +kernel
theorem dL_areSumsRight_74 : decode cL_areSumsRight 74 = .ok (.invokevirtual 63, 3) := by decide +kernel
theorem dL_areSumsRight_77 : decode cL_areSumsRight 77 = .ok (.goto 4, 3) := by decide +kernel
theorem dL_areSumsRight_80 : decode cL_areSumsRight 80 = .ok (.iconst 0, 1) := by decide +kernel
theorem dL_areSumsRight_81 : decode cL_areSumsRight 81 = .ok (.iadd, 1) := by decide +kernel
theorem dL_areSumsRight_82 : decode cL_areSumsRight 82 = .ok (.istore 4, 2) := by decide +kernel
theorem dL_areSumsRight_84 : decode cL_areSumsRight 84 = .ok (.iload_n 2, 1) := by decide +kernel
theorem dL_areSumsRight_85 : decode cL_areSumsRight 85 = .ok (.aload_n 0, 1) := by decide +kernel
theorem dL_areSumsRight_86 : decode cL_areSumsRight 86 = .ok (.iload 6, 2) := by decide +kernel
theorem dL_areSumsRight_88 : decode cL_areSumsRight 88 = .ok (.bipush 7, 2) := by decide +kernel
theorem dL_areSumsRight_90 : decode cL_areSumsRight 90 = .ok (.invokevirtual 63, 3) := by decide +kernel
theorem dL_areSumsRight_93 : decode cL_areSumsRight 93 = .ok (.iadd, 1) := by decide +kernel
theorem dL_areSumsRight_94 : decode cL_areSumsRight 94 = .ok (.istore_n 2, 1) := by decide +kernel
theorem dL_areSumsRight_95 : decode cL_areSumsRight 95 = .ok (.aload 5, 2) := by decide +kernel
theorem dL_areSumsRight_97 : decode cL_areSumsRight 97 = .ok (.aload_n 0, 1) := by decide +kernel
theorem dL_areSumsRight_98 : decode cL_areSumsRight 98 = .ok (.iload 6, 2) := by decide +kernel
theorem dL_areSumsRight_100 : decode cL_areSumsRight 100 = .ok (.invokevirtual 92, 3) := by decide +kernel
theorem dL_areSumsRight_103 : decode cL_areSumsRight 103 = .ok (.dup2, 1) := by decide +kernel
theorem dL_areSumsRight_104 : decode cL_areSumsRight 104 = .ok (.iaload, 1) := by decide +kernel
theorem dL_areSumsRight_105 : decode cL_areSumsRight 105 = .ok (.aload_n 0, 1) := by decide +kernel
theorem dL_areSumsRight_106 : decode cL_areSumsRight 106 = .ok (.iload 6, 2) := by decide +kernel
theorem dL_areSumsRight_108 : decode cL_areSumsRight 108 = .ok (.iconst 0, 1) := by decide +kernel
theorem dL_areSumsRight_109 : decode cL_areSumsRight 109 = .ok (.invokevirtual 63, 3) := by decide +kernel
theorem dL_areSumsRight_112 : decode cL_areSumsRight 112 = .ok (.iadd, 1) := by decide +kernel
theorem dL_areSumsRight_113 : decode cL_areSumsRight 113 = .ok (.iastore, 1) := by decide +kernel
theorem dL_areSumsRight_114 : decode cL_areSumsRight 114 = .ok (.iconst 0, 1) := by decide +kernel
theorem dL_areSumsRight_115 : decode cL_areSumsRight 115 = .ok (.istore 7, 2) := by decide +kernel
theorem dL_areSumsRight_117 : decode cL_areSumsRight 117 = .ok (.iload 7, 2) := by decide +kernel
theorem dL_areSumsRight_119 : decode cL_areSumsRight 119 = .ok (.aload_n 0, 1) := by decide +kernel
theorem dL_areSumsRight_120 : decode cL_areSumsRight 120 = .ok (.iconst 1, 1) := by decide +kernel
theorem dL_areSumsRight_121 : decode cL_areSumsRight 121 = .ok (.invokevirtual 33, 3) := by decide +kernel
theorem dL_areSumsRight_124 : decode cL_areSumsRight 124 = .ok (.if_icmp .ge 100, 3) := by decide +kernel
theorem dL_areSumsRight_127 : decode cL_areSumsRight 127 = .ok (.iload_n 3, 1) := by decide +kernel
theorem dL_areSumsRight_128 : decode cL_areSumsRight 128 = .ok (.aload_n 0, 1) := by decide +kernel
theorem dL_areSumsRight_129 : decode cL_areSumsRight 129 = .ok (.iload 6, 2) := by decide +kernel
theorem dL_areSumsRight_131 : decode cL_areSumsRight 131 = .ok (.iload 7, 2) := by decide +kernel
theorem dL_areSumsRight_133 : decode cL_areSumsRight 133 = .ok (.invokevirtual 67, 3) := by decide +kernel
theorem dL_areSumsRight_136 : decode cL_areSumsRight 136 = .ok (.iadd, 1) := by decide +kernel
theorem dL_areSumsRight_137 : decode cL_areSumsRight 137 = .ok (.istore_n 3, 1) := by decide +kernel
theorem dL_areSumsRight_138 : decode cL_areSumsRight 138 = .ok (.iload 7, 2) := by decide +kernel
theorem dL_areSumsRight_140 : decode cL_areSumsRight 140 = .ok (.iload 6, 2) := by decide +kernel
theorem dL_areSumsRight_142 : decode cL_areSumsRight 142 = .ok (.if_icmp .eq 29, 3) := by decide +kernel
theorem dL_areSumsRight_145 : decode cL_areSumsRight 145 = .ok (.aload_n 0, 1) := by decide +kernel
theorem dL_areSumsRight_146 : decode cL_areSumsRight 146 = .ok (.iload 6, 2) := by decide +kernel
theorem dL_areSumsRight_148 : decode cL_areSumsRight 148 = .ok (.iconst 1, 1) := by decide +kernel
theorem dL_areSumsRight_149 : decode cL_areSumsRight 149 = .ok (.invokevirtual 63, 3) := by decide +kernel
theorem dL_areSumsRight_152 : decode cL_areSumsRight 152 = .ok (.aload_n 0, 1) := by decide +kernel
theorem dL_areSumsRight_153 : decode cL_areSumsRight 153 = .ok (.iload 7, 2) := by decide +kernel
theorem dL_areSumsRight_155 : decode cL_areSumsRight 155 = .ok (.iconst 1, 1) := by decide +kernel
theorem dL_areSumsRight_156 : decode cL_areSumsRight 156 = .ok (.invokevirtual 63, 3) := by decide +kernel
theorem dL_areSumsRight_159 : decode cL_areSumsRight 159 = .ok (.isub, 1) := by decide +kernel
theorem dL_areSumsRight_160 : decode cL_areSumsRight 160 = .ok (.invokestatic 102, 3) := by decide +kernel
theorem dL_areSumsRight_163 : decode cL_areSumsRight 163 = .ok (.iconst 2, 1) := by decide +kernel
theorem dL_areSumsRight_164 : decode cL_areSumsRight 164 = .ok (.if_icmp .gt 7, 3) := by decide +kernel
theorem dL_areSumsRight_167 : decode cL_areSumsRight 167 = .ok (.iconst 1, 1) := by decide +kernel
theorem dL_areSumsRight_168 : decode cL_areSumsRight 168 = .ok (.goto 4, 3) := by decide +kernel
theorem dL_areSumsRight_171 : decode cL_areSumsRight 171 = .ok (.iconst 0, 1) := by decide +kernel
theorem dL_areSumsRight_172 : decode cL_areSumsRight 172 = .ok (.istore 8, 2) := by decide +kernel
theorem dL_areSumsRight_174 : decode cL_areSumsRight 174 = .ok (.aload_n 0, 1) := by decide +kernel
theorem dL_areSumsRight_175 : decode cL_areSumsRight 175 = .ok (.iload 6, 2) := by decide +kernel
theorem dL_areSumsRight_177 : decode cL_areSumsRight 177 = .ok (.invokevirtual 105, 3) := by decide +kernel
theorem dL_areSumsRight_180 : decode cL_areSumsRight 180 = .ok (.iload 7, 2) := by decide +kernel
theorem dL_areSumsRight_182 : decode cL_areSumsRight 182 = .ok (.ishr, 1) := by decide +kernel
theorem dL_areSumsRight_183 : decode cL_areSumsRight 183 = .ok (.iconst 1, 1) := by decide +kernel
theorem dL_areSumsRight_184 : decode cL_areSumsRight 184 = .ok (.iand, 1) := by decide +kernel
theorem dL_areSumsRight_185 : decode cL_areSumsRight 185 = .ok (.iload 8, 2) := by decide +kernel
theorem dL_areSumsRight_187 : decode cL_areSumsRight 187 = .ok (.ifCond .eq 7, 3) := by decide +kernel
theorem dL_areSumsRight_190 : decode cL_areSumsRight 190 = .ok (.iconst 1, 1) := by decide +kernel
theorem dL_areSumsRight_191 : decode cL_areSumsRight 191 = .ok (.goto 4, 3) := by decide +kernel
theorem dL_areSumsRight_194 : decode cL_areSumsRight 194 = .ok (.iconst 0, 1) := by decide +kernel
theorem dL_areSumsRight_195 : decode cL_areSumsRight 195 = .ok (.if_icmp .ne 21, 3) := by decide +kernel
theorem dL_areSumsRight_198 : decode cL_areSumsRight 198 = .ok (.iload 7, 2) := by decide +kernel
theorem dL_areSumsRight_200 : decode cL_areSumsRight 200 = .ok (.iload 6, 2) := by decide +kernel
theorem dL_areSumsRight_202 : decode cL_areSumsRight 202 = .ok (.if_icmp .ne 16, 3) := by decide +kernel
theorem dL_areSumsRight_205 : decode cL_areSumsRight 205 = .ok (.aload_n 0, 1) := by decide +kernel
theorem dL_areSumsRight_206 : decode cL_areSumsRight 206 = .ok (.iload 6, 2) := by decide +kernel
theorem dL_areSumsRight_208 : decode cL_areSumsRight 208 = .ok (.iload 7, 2) := by decide +kernel
theorem dL_areSumsRight_210 : decode cL_areSumsRight 210 = .ok (.invokevirtual 67, 3) := by decide +kernel
theorem dL_areSumsRight_213 : decode cL_areSumsRight 213 = .ok (.ifCond .eq 5, 3) := by decide +kernel
theorem dL_areSumsRight_216 : decode cL_areSumsRight 216 = .ok (.iconst 0, 1) := by decide +kernel
theorem dL_areSumsRight_217 : decode cL_areSumsRight 217 = .ok (.ireturn, 1) := by decide +kernel
theorem dL_areSumsRight_218 : decode cL_areSumsRight 218 = .ok (.iinc 7 1, 3) := by decide +kernel
theorem dL_areSumsRight_221 : decode cL_areSumsRight 221 = .ok (.goto (-104), 3) := by decide +kernel
theorem dL_areSumsRight_224 : decode cL_areSumsRight 224 = .ok (.iinc 6 1, 3) := by decide +kernel
theorem dL_areSumsRight_227 : decode cL_areSumsRight 227 = .ok (.goto (-210), 3) := by decide +kernel
theorem dL_areSumsRight_230 : decode cL_areSumsRight 230 = .ok (.iload_n 1, 1) := by decide +kernel
theorem dL_areSumsRight_231 : decode cL_areSumsRight 231 = .ok (.aload_n 0, 1) := by decide +kernel
theorem dL_areSumsRight_232 : decode cL_areSumsRight 232 = .ok (.iconst 2, 1) := by decide +kernel
theorem dL_areSumsRight_233 : decode cL_areSumsRight 233 = .ok (.invokevirtual 33, 3) := by decide +kernel
theorem dL_areSumsRight_236 : decode cL_areSumsRight 236 = .ok (.if_icmp .ne 70, 3) := by decide +kernel
theorem dL_areSumsRight_239 : decode cL_areSumsRight 239 = .ok (.iload_n 2, 1) := by decide +kernel
theorem dL_areSumsRight_240 : decode cL_areSumsRight 240 = .ok (.aload_n 0, 1) := by decide +kernel
theorem dL_areSumsRight_241 : decode cL_areSumsRight 241 = .ok (.iconst 4, 1) := by decide +kernel
theorem dL_areSumsRight_242 : decode cL_areSumsRight 242 = .ok (.invokevirtual 33, 3) := by decide +kernel
theorem dL_areSumsRight_245 : decode cL_areSumsRight 245 = .ok (.if_icmp .ne 61, 3) := by decide +kernel
theorem dL_areSumsRight_248 : decode cL_areSumsRight 248 = .ok (.iload_n 3, 1) := by decide +kernel
theorem dL_areSumsRight_249 : decode cL_areSumsRight 249 = .ok (.aload_n 0, 1) := by decide +kernel
theorem dL_areSumsRight_250 : decode cL_areSumsRight 250 = .ok (.bipush 7, 2) := by decide +kernel
theorem dL_areSumsRight_252 : decode cL_areSumsRight 252 = .ok (.invokevirtual 33, 3) := by decide +kernel
theorem dL_areSumsRight_255 : decode cL_areSumsRight 255 = .ok (.if_icmp .ne 51, 3) := by decide +kernel
theorem dL_areSumsRight_258 : decode cL_areSumsRight 258 = .ok (.iload 4, 2) := by decide +kernel
theorem dL_areSumsRight_260 : decode cL_areSumsRight 260 = .ok (.aload_n 0, 1) := by decide +kernel
theorem dL_areSumsRight_261 : decode cL_areSumsRight 261 = .ok (.invokevirtual 108, 3) := by decide +kernel
theorem dL_areSumsRight_264 : decode cL_areSumsRight 264 = .ok (.if_icmp .ne 42, 3) := by decide +kernel
theorem dL_areSumsRight_267 : decode cL_areSumsRight 267 = .ok (.aload_n 0, 1) := by decide +kernel
theorem dL_areSumsRight_268 : decode cL_areSumsRight 268 = .ok (.invokevirtual 111, 3) := by decide +kernel
theorem dL_areSumsRight_271 : decode cL_areSumsRight 271 = .ok (.aload_n 0, 1) := by decide +kernel
theorem dL_areSumsRight_272 : decode cL_areSumsRight 272 = .ok (.invokevirtual 114, 3) := by decide +kernel
theorem dL_areSumsRight_275 : decode cL_areSumsRight 275 = .ok (.if_icmp .ne 31, 3) := by decide +kernel
theorem dL_areSumsRight_278 : decode cL_areSumsRight 278 = .ok (.aload_n 0, 1) := by decide +kernel
theorem dL_areSumsRight_279 : decode cL_areSumsRight 279 = .ok (.invokevirtual 111, 3) := by decide +kernel
theorem dL_areSumsRight_282 : decode cL_areSumsRight 282 = .ok (.aload_n 0, 1) := by decide +kernel
theorem dL_areSumsRight_283 : decode cL_areSumsRight 283 = .ok (.iconst 3, 1) := by decide +kernel
theorem dL_areSumsRight_284 : decode cL_areSumsRight 284 = .ok (.invokevirtual 33, 3) := by decide +kernel
theorem dL_areSumsRight_287 : decode cL_areSumsRight 287 = .ok (.aload_n 0, 1) := by decide +kernel
theorem dL_areSumsRight_288 : decode cL_areSumsRight 288 = .ok (.iconst 4, 1) := by decide +kernel
theorem dL_areSumsRight_289 : decode cL_areSumsRight 289 = .ok (.invokevirtual 33, 3) := by decide +kernel
theorem dL_areSumsRight_292 : decode cL_areSumsRight 292 = .ok (.iadd, 1) := by decide +kernel
theorem dL_areSumsRight_293 : decode cL_areSumsRight 293 = .ok (.aload_n 0, 1) := by decide +kernel
theorem dL_areSumsRight_294 : decode cL_areSumsRight 294 = .ok (.iconst 5, 1) := by decide +kernel
theorem dL_areSumsRight_295 : decode cL_areSumsRight 295 = .ok (.invokevirtual 33, 3) := by decide +kernel
theorem dL_areSumsRight_298 : decode cL_areSumsRight 298 = .ok (.iadd, 1) := by decide +kernel
theorem dL_areSumsRight_299 : decode cL_areSumsRight 299 = .ok (.if_icmp .ne 7, 3) := by decide +kernel
theorem dL_areSumsRight_302 : decode cL_areSumsRight 302 = .ok (.iconst 1, 1) := by decide +kernel
theorem dL_areSumsRight_303 : decode cL_areSumsRight 303 = .ok (.goto 4, 3) := by decide +kernel
theorem dL_areSumsRight_306 : decode cL_areSumsRight 306 = .ok (.iconst 0, 1) := by decide +kernel
theorem dL_areSumsRight_307 : decode cL_areSumsRight 307 = .ok (.istore 6, 2) := by decide +kernel
theorem dL_areSumsRight_309 : decode cL_areSumsRight 309 = .ok (.iconst 0, 1) := by decide +kernel
theorem dL_areSumsRight_310 : decode cL_areSumsRight 310 = .ok (.istore 7, 2) := by decide +kernel
theorem dL_areSumsRight_312 : decode cL_areSumsRight 312 = .ok (.iload 7, 2) := by decide +kernel
theorem dL_areSumsRight_314 : decode cL_areSumsRight 314 = .ok (.iconst 4, 1) := by decide +kernel
theorem dL_areSumsRight_315 : decode cL_areSumsRight 315 = .ok (.if_icmp .ge 35, 3) := by decide +kernel
theorem dL_areSumsRight_318 : decode cL_areSumsRight 318 = .ok (.iload 6, 2) := by decide +kernel
theorem dL_areSumsRight_320 : decode cL_areSumsRight 320 = .ok (.ifCond .eq 21, 3) := by decide +kernel
theorem dL_areSumsRight_323 : decode cL_areSumsRight 323 = .ok (.aload_n 0, 1) := by decide +kernel
theorem dL_areSumsRight_324 : decode cL_areSumsRight 324 = .ok (.iload 7, 2) := by decide +kernel
theorem dL_areSumsRight_326 : decode cL_areSumsRight 326 = .ok (.invokevirtual 117, 3) := by decide +kernel
theorem dL_areSumsRight_329 : decode cL_areSumsRight 329 = .ok (.aload 5, 2) := by decide +kernel
theorem dL_areSumsRight_331 : decode cL_areSumsRight 331 = .ok (.iload 7, 2) := by decide +kernel
theorem dL_areSumsRight_333 : decode cL_areSumsRight 333 = .ok (.iaload, 1) := by decide +kernel
theorem dL_areSumsRight_334 : decode cL_areSumsRight 334 = .ok (.if_icmp .ne 7, 3) := by decide +kernel
theorem dL_areSumsRight_337 : decode cL_areSumsRight 337 = .ok (.iconst 1, 1) := by decide +kernel
theorem dL_areSumsRight_338 : decode cL_areSumsRight 338 = .ok (.goto 4, 3) := by decide +kernel
theorem dL_areSumsRight_341 : decode cL_areSumsRight 341 = .ok (.iconst 0, 1) := by decide +kernel
theorem dL_areSumsRight_342 : decode cL_areSumsRight 342 = .ok (.istore 6, 2) := by decide +kernel
theorem dL_areSumsRight_344 : decode cL_areSumsRight 344 = .ok (.iinc 7 1, 3) := by decide +kernel
theorem dL_areSumsRight_347 : decode cL_areSumsRight 347 = .ok (.goto (-35), 3) := by decide +kernel
theorem dL_areSumsRight_350 : decode cL_areSumsRight 350 = .ok (.iload 6, 2) := by decide +kernel
theorem dL_areSumsRight_352 : decode cL_areSumsRight 352 = .ok (.ifCond .eq 57, 3) := by decide +kernel
theorem dL_areSumsRight_355 : decode cL_areSumsRight 355 = .ok (.aload_n 0, 1) := by decide +kernel
theorem dL_areSumsRight_356 : decode cL_areSumsRight 356 = .ok (.iconst 3, 1) := by decide +kernel
theorem dL_areSumsRight_357 : decode cL_areSumsRight 357 = .ok (.invokevirtual 33, 3) := by decide +kernel
theorem dL_areSumsRight_360 : decode cL_areSumsRight 360 = .ok (.ifCond .lt 49, 3) := by decide +kernel
theorem dL_areSumsRight_363 : decode cL_areSumsRight 363 = .ok (.aload_n 0, 1) := by decide +kernel
theorem dL_areSumsRight_364 : decode cL_areSumsRight 364 = .ok (.iconst 3, 1) := by decide +kernel
theorem dL_areSumsRight_365 : decode cL_areSumsRight 365 = .ok (.invokevirtual 33, 3) := by decide +kernel
theorem dL_areSumsRight_368 : decode cL_areSumsRight 368 = .ok (.sipush 999, 3) := by decide +kernel
theorem dL_areSumsRight_371 : decode cL_areSumsRight 371 = .ok (.if_icmp .gt 38, 3) := by decide +kernel
theorem dL_areSumsRight_374 : decode cL_areSumsRight 374 = .ok (.aload_n 0, 1) := by decide +kernel
theorem dL_areSumsRight_375 : decode cL_areSumsRight 375 = .ok (.bipush 8, 2) := by decide +kernel
theorem dL_areSumsRight_377 : decode cL_areSumsRight 377 = .ok (.invokevirtual 33, 3) := by decide +kernel
theorem dL_areSumsRight_380 : decode cL_areSumsRight 380 = .ok (.ifCond .lt 29, 3) := by decide +kernel
theorem dL_areSumsRight_383 : decode cL_areSumsRight 383 = .ok (.aload_n 0, 1) := by decide +kernel
theorem dL_areSumsRight_384 : decode cL_areSumsRight 384 = .ok (.bipush 8, 2) := by decide +kernel
theorem dL_areSumsRight_386 : decode cL_areSumsRight 386 = .ok (.invokevirtual 33, 3) := by decide +kernel
theorem dL_areSumsRight_389 : decode cL_areSumsRight 389 = .ok (.bipush 50, 2) := by decide +kernel
theorem dL_areSumsRight_391 : decode cL_areSumsRight 391 = .ok (.if_icmp .gt 18, 3) := by decide +kernel
theorem dL_areSumsRight_394 : decode cL_areSumsRight 394 = .ok (.aload_n 0, 1) := by decide +kernel
theorem dL_areSumsRight_395 : decode cL_areSumsRight 395 = .ok (.bipush 13, 2) := by decide +kernel
theorem dL_areSumsRight_397 : decode cL_areSumsRight 397 = .ok (.invokevirtual 33, 3) := by decide +kernel
theorem dL_areSumsRight_400 : decode cL_areSumsRight 400 = .ok (.bipush 20, 2) := by decide +kernel
theorem dL_areSumsRight_402 : decode cL_areSumsRight 402 = .ok (.if_icmp .gt 7, 3) := by decide +kernel
theorem dL_areSumsRight_405 : decode cL_areSumsRight 405 = .ok (.iconst 1, 1) := by decide +kernel
theorem dL_areSumsRight_406 : decode cL_areSumsRight 406 = .ok (.goto 4, 3) := by decide +kernel
theorem dL_areSumsRight_409 : decode cL_areSumsRight 409 = .ok (.iconst 0, 1) := by decide +kernel
theorem dL_areSumsRight_410 : decode cL_areSumsRight 410 = .ok (.ireturn, 1) := by decide +kernel
