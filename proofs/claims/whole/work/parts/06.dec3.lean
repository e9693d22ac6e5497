theorem dX9_joins_63 : decode cX9_joins 63 = .ok (.iconst 0, 1) := by decide +kernel
theorem dX9_joins_64 : decode cX9_joins 64 = .ok (.bipush 6, 2) := by decide +kernel
theorem dX9_joins_66 : decode cX9_joins 66 = .ok (.aload_n 0, 1) := by decide +kernel
theorem dX9_joins_67 : decode cX9_joins 67 = .ok (.iload_n 1, 1) := by decide +kernel
theorem dX9_joins_68 : decode cX9_joins 68 = .ok (.iconst 3, 1) := by decide +kernel
theorem dX9_joins_69 : decode cX9_joins 69 = .ok (.invokevirtual 77, 3) := by decide +kernel
theorem dX9_joins_72 : decode cX9_joins 72 = .ok (.invokevirtual 96, 3) := by decide +kernel
theorem dX9_joins_75 : decode cX9_joins 75 = .ok (.aload_n 0, 1) := by decide +kernel
theorem dX9_joins_76 : decode cX9_joins 76 = .ok (.getfield 44, 3) := by decide +kernel
theorem dX9_joins_79 : decode cX9_joins 79 = .ok (.ifCond .eq 5, 3) := by decide +kernel
theorem dX9_joins_82 : decode cX9_joins 82 = .ok (.iconst 0, 1) := by decide +kernel
theorem dX9_joins_83 : decode cX9_joins 83 = .ok (.ireturn, 1) := by decide +kernel
theorem dX9_joins_84 : decode cX9_joins 84 = .ok (.aload_n 0, 1) := by decide +kernel
theorem dX9_joins_85 : decode cX9_joins 85 = .ok (.getfield 9, 3) := by decide +kernel
theorem dX9_joins_88 : decode cX9_joins 88 = .ok (.bipush 49, 2) := by decide +kernel
theorem dX9_joins_90 : decode cX9_joins 90 = .ok (.iaload, 1) := by decide +kernel
theorem dX9_joins_91 : decode cX9_joins 91 = .ok (.ifCond .le 70, 3) := by decide +kernel
theorem dX9_joins_94 : decode cX9_joins 94 = .ok (.aload_n 0, 1) := by decide +kernel
theorem dX9_joins_95 : decode cX9_joins 95 = .ok (.aload_n 0, 1) := by decide +kernel
theorem dX9_joins_96 : decode cX9_joins 96 = .ok (.getfield 9, 3) := by decide +kernel
theorem dX9_joins_99 : decode cX9_joins 99 = .ok (.bipush 50, 2) := by decide +kernel
theorem dX9_joins_101 : decode cX9_joins 101 = .ok (.aload_n 0, 1) := by decide +kernel
theorem dX9_joins_102 : decode cX9_joins 102 = .ok (.getfield 9, 3) := by decide +kernel
theorem dX9_joins_105 : decode cX9_joins 105 = .ok (.bipush 49, 2) := by decide +kernel
theorem dX9_joins_107 : decode cX9_joins 107 = .ok (.iaload, 1) := by decide +kernel
theorem dX9_joins_108 : decode cX9_joins 108 = .ok (.iadd, 1) := by decide +kernel
theorem dX9_joins_109 : decode cX9_joins 109 = .ok (.iconst 1, 1) := by decide +kernel
theorem dX9_joins_110 : decode cX9_joins 110 = .ok (.isub, 1) := by decide +kernel
theorem dX9_joins_111 : decode cX9_joins 111 = .ok (.iaload, 1) := by decide +kernel
theorem dX9_joins_112 : decode cX9_joins 112 = .ok (.iload_n 1, 1) := by decide +kernel
theorem dX9_joins_113 : decode cX9_joins 113 = .ok (.invokevirtual 137, 3) := by decide +kernel
theorem dX9_joins_116 : decode cX9_joins 116 = .ok (.ifCond .eq 45, 3) := by decide +kernel
theorem dX9_joins_119 : decode cX9_joins 119 = .ok (.aload_n 0, 1) := by decide +kernel
theorem dX9_joins_120 : decode cX9_joins 120 = .ok (.aload_n 0, 1) := by decide +kernel
theorem dX9_joins_121 : decode cX9_joins 121 = .ok (.getfield 9, 3) := by decide +kernel
theorem dX9_joins_124 : decode cX9_joins 124 = .ok (.bipush 50, 2) := by decide +kernel
theorem dX9_joins_126 : decode cX9_joins 126 = .ok (.aload_n 0, 1) := by decide +kernel
theorem dX9_joins_127 : decode cX9_joins 127 = .ok (.getfield 9, 3) := by decide +kernel
theorem dX9_joins_130 : decode cX9_joins 130 = .ok (.bipush 49, 2) := by decide +kernel
theorem dX9_joins_132 : decode cX9_joins 132 = .ok (.iaload, 1) := by decide +kernel
theorem dX9_joins_133 : decode cX9_joins 133 = .ok (.iadd, 1) := by decide +kernel
theorem dX9_joins_134 : decode cX9_joins 134 = .ok (.iconst 1, 1) := by decide +kernel
theorem dX9_joins_135 : decode cX9_joins 135 = .ok (.isub, 1) := by decide +kernel
theorem dX9_joins_136 : decode cX9_joins 136 = .ok (.iaload, 1) := by decide +kernel
theorem dX9_joins_137 : decode cX9_joins 137 = .ok (.iload_n 1, 1) := by decide +kernel
theorem dX9_joins_138 : decode cX9_joins 138 = .ok (.invokevirtual 140, 3) := by decide +kernel
theorem dX9_joins_141 : decode cX9_joins 141 = .ok (.iload_n 1, 1) := by decide +kernel
theorem dX9_joins_142 : decode cX9_joins 142 = .ok (.if_icmp .eq 5, 3) := by decide +kernel
theorem dX9_joins_145 : decode cX9_joins 145 = .ok (.iconst (-1), 1) := by decide +kernel
theorem dX9_joins_146 : decode cX9_joins 146 = .ok (.ireturn, 1) := by decide +kernel
theorem dX9_joins_147 : decode cX9_joins 147 = .ok (.aload_n 0, 1) := by decide +kernel
theorem dX9_joins_148 : decode cX9_joins 148 = .ok (.getfield 9, 3) := by decide +kernel
theorem dX9_joins_151 : decode cX9_joins 151 = .ok (.bipush 49, 2) := by decide +kernel
theorem dX9_joins_153 : decode cX9_joins 153 = .ok (.dup2, 1) := by decide +kernel
theorem dX9_joins_154 : decode cX9_joins 154 = .ok (.iaload, 1) := by decide +kernel
theorem dX9_joins_155 : decode cX9_joins 155 = .ok (.iconst 1, 1) := by decide +kernel
theorem dX9_joins_156 : decode cX9_joins 156 = .ok (.isub, 1) := by decide +kernel
theorem dX9_joins_157 : decode cX9_joins 157 = .ok (.iastore, 1) := by decide +kernel
theorem dX9_joins_158 : decode cX9_joins 158 = .ok (.goto (-74), 3) := by decide +kernel
theorem dX9_joins_161 : decode cX9_joins 161 = .ok (.aload_n 0, 1) := by decide +kernel
theorem dX9_joins_162 : decode cX9_joins 162 = .ok (.iload_n 1, 1) := by decide +kernel
theorem dX9_joins_163 : decode cX9_joins 163 = .ok (.invokevirtual 143, 3) := by decide +kernel
theorem dX9_joins_166 : decode cX9_joins 166 = .ok (.aload_n 0, 1) := by decide +kernel
theorem dX9_joins_167 : decode cX9_joins 167 = .ok (.getfield 9, 3) := by decide +kernel
theorem dX9_joins_170 : decode cX9_joins 170 = .ok (.bipush 49, 2) := by decide +kernel
theorem dX9_joins_172 : decode cX9_joins 172 = .ok (.iaload, 1) := by decide +kernel
theorem dX9_joins_173 : decode cX9_joins 173 = .ok (.iconst 1, 1) := by decide +kernel
theorem dX9_joins_174 : decode cX9_joins 174 = .ok (.isub, 1) := by decide +kernel
theorem dX9_joins_175 : decode cX9_joins 175 = .ok (.ireturn, 1) := by decide +kernel
set_option maxRecDepth 20000 in
theorem ggX9_join_X9_begins : GoodIn wsX9_join wsX9_begins := goodIn_ca (goodIn_r _ [5, 6, 7, 8, 9, 10, 4, 11, 104, 105, 106, 107, 108, 109, 110, 111, 112, 113, 114, 115, 116, 117, 118, 119, 120, 121, 122, 123, 124, 125, 126, 127] (by decide +kernel) (by decide +kernel)) (goodIn_sub (fun _ h => List.mem_cons_of_mem _ (List.mem_append_right _ h)) (by decide +kernel))
set_option maxRecDepth 20000 in
theorem gX9_join_X9_begins : GoodIn wsX9_join (wsV RX9 93 RX9 yX9_begins wsX9_begins) := goodIn_app (goodIn_of _ (by decide +kernel)) ggX9_join_X9_begins
set_option maxRecDepth 20000 in
theorem ggX9_join_X9_joins : GoodIn wsX9_join wsX9_joins := goodIn_ca (goodIn_r _ [15, 8, 6, 16, 17, 18, 4, 19, 20, 21, 22, 23, 24, 25, 26, 27, 28, 29, 30, 31, 32, 33, 34, 35, 36, 37, 38, 39, 40, 41, 42, 43, 44, 45, 46, 47, 48, 49, 50, 51, 52, 53, 54, 55, 56, 57, 58, 59, 60, 61, 62, 63, 64, 65, 66, 67, 68, 69, 70, 71, 72, 73, 74, 75, 76, 77, 78, 79, 80, 81, 82, 83, 84, 85, 86, 87, 88, 89, 104, 105, 106, 107, 108, 109, 110, 111, 112, 113, 114, 115, 116, 117, 118, 119, 120, 121, 122, 123, 124, 125, 126, 127] (by decide +kernel) (by decide +kernel)) (goodIn_sub (fun _ h => List.mem_cons_of_mem _ (List.mem_append_right _ h)) (by decide +kernel))
set_option maxRecDepth 20000 in
theorem gX9_join_X9_joins : GoodIn wsX9_join (wsV RX9 147 RX9 yX9_joins wsX9_joins) := goodIn_app (goodIn_of _ (by decide +kernel)) ggX9_join_X9_joins
set_option maxRecDepth 20000 in
theorem ggX9_join_X9_ends : GoodIn wsX9_join wsX9_ends := goodIn_ca (goodIn_r _ [93, 8, 94, 95, 27, 96, 97, 7, 6, 9, 10, 4, 11, 98, 99, 100, 101, 102, 103, 104, 105, 106, 107, 108, 109, 110, 111, 112, 113, 114, 115, 116, 117, 118, 119, 120, 121, 122, 123, 124, 125, 126, 127] (by decide +kernel) (by decide +kernel)) (goodIn_sub (fun _ h => List.mem_cons_of_mem _ (List.mem_append_right _ h)) (by decide +kernel))
set_option maxRecDepth 20000 in
theorem gX9_join_X9_ends : GoodIn wsX9_join (wsV RX9 104 RX9 yX9_ends wsX9_ends) := goodIn_app (goodIn_of _ (by decide +kernel)) ggX9_join_X9_ends
theorem dX9_join_0 : decode cX9_join 0 = .ok (.aload_n 0, 1) := by decide +kernel
theorem dX9_join_1 : decode cX9_join 1 = .ok (.invokevirtual 93, 3) := by decide +kernel
theorem dX9_join_4 : decode cX9_join 4 = .ok (.aload_n 0, 1) := by decide +kernel
theorem dX9_join_5 : decode cX9_join 5 = .ok (.aload_n 0, 1) := by decide +kernel
theorem dX9_join_6 : decode cX9_join 6 = .ok (.iload_n 1, 1) := by decide +kernel
theorem dX9_join_7 : decode cX9_join 7 = .ok (.invokevirtual 147, 3) := by decide +kernel
theorem dX9_join_10 : decode cX9_join 10 = .ok (.iconst 1, 1) := by decide +kernel
theorem dX9_join_11 : decode cX9_join 11 = .ok (.iconst 0, 1) := by decide +kernel
theorem dX9_join_12 : decode cX9_join 12 = .ok (.invokevirtual 104, 3) := by decide +kernel
theorem dX9_join_15 : decode cX9_join 15 = .ok (.ireturn, 1) := by decide +kernel
set_option maxRecDepth 20000 in
theorem ggX9_leaves_X9_isHousehold : GoodIn wsX9_leaves wsX9_isHousehold := goodIn_ca (goodIn_r _ [6, 7, 8, 9, 5, 10, 24, 25, 26, 27, 28, 29, 30, 31, 32, 33, 34, 35, 36, 37, 38, 39, 40, 41, 42, 43, 44, 45, 46, 47] (by decide +kernel) (by decide +kernel)) (goodIn_sub (fun _ h => List.mem_cons_of_mem _ (List.mem_append_right _ h)) (by decide +kernel))
set_option maxRecDepth 20000 in
theorem gX9_leaves_X9_isHousehold : GoodIn wsX9_leaves (wsV RX9 127 RX9 yX9_isHousehold wsX9_isHousehold) := goodIn_app (goodIn_of _ (by decide +kernel)) ggX9_leaves_X9_isHousehold
set_option maxRecDepth 20000 in
theorem ggX9_leaves_X9_hinders : GoodIn wsX9_leaves wsX9_hinders := goodIn_r _ [14, 1, 15, 24, 25, 26, 27, 28, 29, 30, 31, 32, 33, 34, 35, 36, 37, 38, 39, 40, 41, 42, 43, 44, 45, 46, 47] (by decide +kernel) (by decide +kernel)
set_option maxRecDepth 20000 in
theorem gX9_leaves_X9_hinders : GoodIn wsX9_leaves (wsV RX9 96 RX9 yX9_hinders wsX9_hinders) := goodIn_app (goodIn_of _ (by decide +kernel)) ggX9_leaves_X9_hinders
set_option maxRecDepth 20000 in
theorem ggX9_leaves_X9_placeOf : GoodIn wsX9_leaves wsX9_placeOf := goodIn_ca (goodIn_r _ [19, 7, 24, 25, 26, 27, 28, 29, 30, 31, 32, 33, 34, 35, 36, 37, 38, 39, 40, 41, 42, 43, 44, 45, 46, 47] (by decide +kernel) (by decide +kernel)) (goodIn_sub (fun _ h => List.mem_cons_of_mem _ (List.mem_append_right _ h)) (by decide +kernel))
set_option maxRecDepth 20000 in
theorem gX9_leaves_X9_placeOf : GoodIn wsX9_leaves (wsV RX9 131 RX9 yX9_placeOf wsX9_placeOf) := goodIn_app (goodIn_of _ (by decide +kernel)) ggX9_leaves_X9_placeOf
set_option maxRecDepth 20000 in
theorem ggX9_leaves_X9_goesFrom : GoodIn wsX9_leaves wsX9_goesFrom := goodIn_ca (goodIn_r _ [23, 7, 24, 25, 26, 27, 28, 29, 30, 31, 32, 33, 34, 35, 36, 37, 38, 39, 40, 41, 42, 43, 44, 45, 46, 47] (by decide +kernel) (by decide +kernel)) (goodIn_sub (fun _ h => List.mem_cons_of_mem _ (List.mem_append_right _ h)) (by decide +kernel))
set_option maxRecDepth 20000 in
theorem gX9_leaves_X9_goesFrom : GoodIn wsX9_leaves (wsV RX9 150 RX9 yX9_goesFrom wsX9_goesFrom) := goodIn_app (goodIn_of _ (by decide +kernel)) ggX9_leaves_X9_goesFrom
theorem dX9_leaves_0 : decode cX9_leaves 0 = .ok (.aload_n 0, 1) := by decide +kernel
theorem dX9_leaves_1 : decode cX9_leaves 1 = .ok (.aload_n 0, 1) := by decide +kernel
theorem dX9_leaves_2 : decode cX9_leaves 2 = .ok (.iload_n 1, 1) := by decide +kernel
theorem dX9_leaves_3 : decode cX9_leaves 3 = .ok (.invokevirtual 127, 3) := by decide +kernel
theorem dX9_leaves_6 : decode cX9_leaves 6 = .ok (.ifCond .ne 7, 3) := by decide +kernel
theorem dX9_leaves_9 : decode cX9_leaves 9 = .ok (.iconst 1, 1) := by decide +kernel
theorem dX9_leaves_10 : decode cX9_leaves 10 = .ok (.goto 4, 3) := by decide +kernel
theorem dX9_leaves_13 : decode cX9_leaves 13 = .ok (.iconst 0, 1) := by decide +kernel
theorem dX9_leaves_14 : decode cX9_leaves 14 = .ok (.iconst 3, 1) := by decide +kernel
theorem dX9_leaves_15 : decode cX9_leaves 15 = .ok (.iload_n 1, 1) := by decide +kernel
theorem dX9_leaves_16 : decode cX9_leaves 16 = .ok (.invokevirtual 96, 3) := by decide +kernel
theorem dX9_leaves_19 : decode cX9_leaves 19 = .ok (.aload_n 0, 1) := by decide +kernel
theorem dX9_leaves_20 : decode cX9_leaves 20 = .ok (.getfield 44, 3) := by decide +kernel
theorem dX9_leaves_23 : decode cX9_leaves 23 = .ok (.ifCond .ne 11, 3) := by decide +kernel
theorem dX9_leaves_26 : decode cX9_leaves 26 = .ok (.aload_n 0, 1) := by decide +kernel
theorem dX9_leaves_27 : decode cX9_leaves 27 = .ok (.iload_n 1, 1) := by decide +kernel
theorem dX9_leaves_28 : decode cX9_leaves 28 = .ok (.invokevirtual 131, 3) := by decide +kernel
theorem dX9_leaves_31 : decode cX9_leaves 31 = .ok (.goto 4, 3) := by decide +kernel
theorem dX9_leaves_34 : decode cX9_leaves 34 = .ok (.iconst (-1), 1) := by decide +kernel
theorem dX9_leaves_35 : decode cX9_leaves 35 = .ok (.istore_n 2, 1) := by decide +kernel
theorem dX9_leaves_36 : decode cX9_leaves 36 = .ok (.aload_n 0, 1) := by decide +kernel
theorem dX9_leaves_37 : decode cX9_leaves 37 = .ok (.iload_n 2, 1) := by decide +kernel
theorem dX9_leaves_38 : decode cX9_leaves 38 = .ok (.iconst (-1), 1) := by decide +kernel
theorem dX9_leaves_39 : decode cX9_leaves 39 = .ok (.if_icmp .ne 7, 3) := by decide +kernel
theorem dX9_leaves_42 : decode cX9_leaves 42 = .ok (.iconst 1, 1) := by decide +kernel
theorem dX9_leaves_43 : decode cX9_leaves 43 = .ok (.goto 4, 3) := by decide +kernel
theorem dX9_leaves_46 : decode cX9_leaves 46 = .ok (.iconst 0, 1) := by decide +kernel
theorem dX9_leaves_47 : decode cX9_leaves 47 = .ok (.iconst 5, 1) := by decide +kernel
theorem dX9_leaves_48 : decode cX9_leaves 48 = .ok (.iconst 0, 1) := by decide +kernel
theorem dX9_leaves_49 : decode cX9_leaves 49 = .ok (.invokevirtual 96, 3) := by decide +kernel
theorem dX9_leaves_52 : decode cX9_leaves 52 = .ok (.aload_n 0, 1) := by decide +kernel
theorem dX9_leaves_53 : decode cX9_leaves 53 = .ok (.getfield 44, 3) := by decide +kernel
theorem dX9_leaves_56 : decode cX9_leaves 56 = .ok (.ifCond .ne 8, 3) := by decide +kernel
theorem dX9_leaves_59 : decode cX9_leaves 59 = .ok (.aload_n 0, 1) := by decide +kernel
theorem dX9_leaves_60 : decode cX9_leaves 60 = .ok (.iload_n 2, 1) := by decide +kernel
theorem dX9_leaves_61 : decode cX9_leaves 61 = .ok (.invokevirtual 150, 3) := by decide +kernel
theorem dX9_leaves_64 : decode cX9_leaves 64 = .ok (.iload_n 2, 1) := by decide +kernel
theorem dX9_leaves_65 : decode cX9_leaves 65 = .ok (.ireturn, 1) := by decide +kernel
set_option maxRecDepth 20000 in
theorem ggX9_leave_X9_begins : GoodIn wsX9_leave wsX9_begins := goodIn_ca (goodIn_r _ [5, 6, 7, 8, 9, 10, 4, 11, 50, 51, 52, 53, 54, 55, 56, 57, 58, 59, 60, 61, 62, 63, 64, 65, 66, 67, 68, 69, 70, 71, 72, 73] (by decide +kernel) (by decide +kernel)) (goodIn_sub (fun _ h => List.mem_cons_of_mem _ (List.mem_append_right _ h)) (by decide +kernel))
set_option maxRecDepth 20000 in
theorem gX9_leave_X9_begins : GoodIn wsX9_leave (wsV RX9 93 RX9 yX9_begins wsX9_begins) := goodIn_app (goodIn_of _ (by decide +kernel)) ggX9_leave_X9_begins
set_option maxRecDepth 20000 in
theorem ggX9_leave_X9_leaves : GoodIn wsX9_leave wsX9_leaves := goodIn_ca (goodIn_r _ [15, 8, 16, 17, 18, 4, 19, 6, 20, 21, 22, 23, 24, 25, 26, 27, 28, 29, 30, 31, 32, 33, 34, 35, 50, 51, 52, 53, 54, 55, 56, 57, 58, 59, 60, 61, 62, 63, 64, 65, 66, 67, 68, 69, 70, 71, 72, 73] (by decide +kernel) (by decide +kernel)) (goodIn_sub (fun _ h => List.mem_cons_of_mem _ (List.mem_append_right _ h)) (by decide +kernel))
set_option maxRecDepth 20000 in
theorem gX9_leave_X9_leaves : GoodIn wsX9_leave (wsV RX9 153 RX9 yX9_leaves wsX9_leaves) := goodIn_app (goodIn_of _ (by decide +kernel)) ggX9_leave_X9_leaves
set_option maxRecDepth 20000 in
theorem ggX9_leave_X9_ends : GoodIn wsX9_leave wsX9_ends := goodIn_ca (goodIn_r _ [39, 8, 40, 41, 27, 42, 43, 7, 6, 9, 10, 4, 11, 44, 45, 46, 47, 48, 49, 50, 51, 52, 53, 54, 55, 56, 57, 58, 59, 60, 61, 62, 63, 64, 65, 66, 67, 68, 69, 70, 71, 72, 73] (by decide +kernel) (by decide +kernel)) (goodIn_sub (fun _ h => List.mem_cons_of_mem _ (List.mem_append_right _ h)) (by decide +kernel))
set_option maxRecDepth 20000 in
theorem gX9_leave_X9_ends : GoodIn wsX9_leave (wsV RX9 104 RX9 yX9_ends wsX9_ends) := goodIn_app (goodIn_of _ (by decide +kernel)) ggX9_leave_X9_ends
theorem dX9_leave_0 : decode cX9_leave 0 = .ok (.aload_n 0, 1) := by decide +kernel
theorem dX9_leave_1 : decode cX9_leave 1 = .ok (.invokevirtual 93, 3) := by decide +kernel
theorem dX9_leave_4 : decode cX9_leave 4 = .ok (.aload_n 0, 1) := by decide +kernel
theorem dX9_leave_5 : decode cX9_leave 5 = .ok (.aload_n 0, 1) := by decide +kernel
theorem dX9_leave_6 : decode cX9_leave 6 = .ok (.iload_n 1, 1) := by decide +kernel
theorem dX9_leave_7 : decode cX9_leave 7 = .ok (.invokevirtual 153, 3) := by decide +kernel
theorem dX9_leave_10 : decode cX9_leave 10 = .ok (.iconst 1, 1) := by decide +kernel
theorem dX9_leave_11 : decode cX9_leave 11 = .ok (.iconst 0, 1) := by decide +kernel
theorem dX9_leave_12 : decode cX9_leave 12 = .ok (.invokevirtual 104, 3) := by decide +kernel
theorem dX9_leave_15 : decode cX9_leave 15 = .ok (.ireturn, 1) := by decide +kernel
set_option maxRecDepth 20000 in
theorem ggX9_allLeft_X9_left : GoodIn wsX9_allLeft wsX9_left := goodIn_ca (goodIn_r _ [10, 2, 3, 4, 5, 11, 12, 13, 9, 14, 1, 15, 16, 17, 18, 19, 20, 21, 22, 23, 24, 25, 26, 27, 28, 29, 30, 31, 32, 33, 34, 35, 36, 37, 38, 39, 40, 41, 42, 43, 44, 45, 46] (by decide +kernel) (by decide +kernel)) (goodIn_sub (fun _ h => List.mem_cons_of_mem _ (List.mem_append_right _ h)) (by decide +kernel))
set_option maxRecDepth 20000 in
theorem gX9_allLeft_X9_left : GoodIn wsX9_allLeft (wsV RX9 134 RX9 yX9_left wsX9_left) := goodIn_app (goodIn_of _ (by decide +kernel)) ggX9_allLeft_X9_left
theorem dX9_allLeft_0 : decode cX9_allLeft 0 = .ok (.iconst 0, 1) := by decide +kernel
theorem dX9_allLeft_1 : decode cX9_allLeft 1 = .ok (.istore_n 1, 1) := by decide +kernel
theorem dX9_allLeft_2 : decode cX9_allLeft 2 = .ok (.iconst 0, 1) := by decide +kernel
theorem dX9_allLeft_3 : decode cX9_allLeft 3 = .ok (.istore_n 2, 1) := by decide +kernel
theorem dX9_allLeft_4 : decode cX9_allLeft 4 = .ok (.iload_n 2, 1) := by decide +kernel
theorem dX9_allLeft_5 : decode cX9_allLeft 5 = .ok (.aload_n 0, 1) := by decide +kernel
theorem dX9_allLeft_6 : decode cX9_allLeft 6 = .ok (.getfield 9, 3) := by decide +kernel
theorem dX9_allLeft_9 : decode cX9_allLeft 9 = .ok (.bipush 49, 2) := by decide +kernel
theorem dX9_allLeft_11 : decode cX9_allLeft 11 = .ok (.iaload, 1) := by decide +kernel
theorem dX9_allLeft_12 : decode cX9_allLeft 12 = .ok (.if_icmp .ge 29, 3) := by decide +kernel
theorem dX9_allLeft_15 : decode cX9_allLeft 15 = .ok (.iload_n 1, 1) := by decide +kernel
theorem dX9_allLeft_16 : decode cX9_allLeft 16 = .ok (.iconst 1, 1) := by decide +kernel
theorem dX9_allLeft_17 : decode cX9_allLeft 17 = .ok (.aload_n 0, 1) := by decide +kernel
theorem dX9_allLeft_18 : decode cX9_allLeft 18 = .ok (.aload_n 0, 1) := by decide +kernel
theorem dX9_allLeft_19 : decode cX9_allLeft 19 = .ok (.getfield 9, 3) := by decide +kernel
theorem dX9_allLeft_22 : decode cX9_allLeft 22 = .ok (.bipush 50, 2) := by decide +kernel
theorem dX9_allLeft_24 : decode cX9_allLeft 24 = .ok (.iload_n 2, 1) := by decide +kernel
theorem dX9_allLeft_25 : decode cX9_allLeft 25 = .ok (.iadd, 1) := by decide +kernel
theorem dX9_allLeft_26 : decode cX9_allLeft 26 = .ok (.iaload, 1) := by decide +kernel
theorem dX9_allLeft_27 : decode cX9_allLeft 27 = .ok (.invokevirtual 134, 3) := by decide +kernel
theorem dX9_allLeft_30 : decode cX9_allLeft 30 = .ok (.invokestatic 88, 3) := by decide +kernel
theorem dX9_allLeft_33 : decode cX9_allLeft 33 = .ok (.iadd, 1) := by decide +kernel
theorem dX9_allLeft_34 : decode cX9_allLeft 34 = .ok (.istore_n 1, 1) := by decide +kernel
theorem dX9_allLeft_35 : decode cX9_allLeft 35 = .ok (.iinc 2 1, 3) := by decide +kernel
theorem dX9_allLeft_38 : decode cX9_allLeft 38 = .ok (.goto (-34), 3) := by decide +kernel
theorem dX9_allLeft_41 : decode cX9_allLeft 41 = .ok (.iload_n 1, 1) := by decide +kernel
theorem dX9_allLeft_42 : decode cX9_allLeft 42 = .ok (.ireturn, 1) := by decide +kernel
theorem dX9_brings_0 : decode cX9_brings 0 = .ok (.bipush 10, 2) := by decide +kernel
theorem dX9_brings_2 : decode cX9_brings 2 = .ok (.bipush 50, 2) := by decide +kernel
theorem dX9_brings_4 : decode cX9_brings 4 = .ok (.iload_n 0, 1) := by decide +kernel
theorem dX9_brings_5 : decode cX9_brings 5 = .ok (.invokestatic 121, 3) := by decide +kernel
theorem dX9_brings_8 : decode cX9_brings 8 = .ok (.bipush 10, 2) := by decide +kernel
theorem dX9_brings_10 : decode cX9_brings 10 = .ok (.idiv, 1) := by decide +kernel
theorem dX9_brings_11 : decode cX9_brings 11 = .ok (.isub, 1) := by decide +kernel
theorem dX9_brings_12 : decode cX9_brings 12 = .ok (.ireturn, 1) := by decide +kernel
set_option maxRecDepth 20000 in
theorem ggX9_allBring_X9_brings : GoodIn wsX9_allBring wsX9_brings := goodIn_r _ [5, 6, 7, 8, 9] (by decide +kernel) (by decide +kernel)
set_option maxRecDepth 20000 in
theorem gX9_allBring_X9_brings : GoodIn wsX9_allBring (va_wsS RX9 156 yX9_brings wsX9_brings) := goodIn_app (goodIn_of _ (by decide +kernel)) ggX9_allBring_X9_brings
theorem dX9_allBring_0 : decode cX9_allBring 0 = .ok (.iconst 0, 1) := by decide +kernel
theorem dX9_allBring_1 : decode cX9_allBring 1 = .ok (.istore_n 2, 1) := by decide +kernel
theorem dX9_allBring_2 : decode cX9_allBring 2 = .ok (.iconst 0, 1) := by decide +kernel
theorem dX9_allBring_3 : decode cX9_allBring 3 = .ok (.istore_n 3, 1) := by decide +kernel
theorem dX9_allBring_4 : decode cX9_allBring 4 = .ok (.iload_n 3, 1) := by decide +kernel
theorem dX9_allBring_5 : decode cX9_allBring 5 = .ok (.iload_n 1, 1) := by decide +kernel
theorem dX9_allBring_6 : decode cX9_allBring 6 = .ok (.if_icmp .ge 25, 3) := by decide +kernel
theorem dX9_allBring_9 : decode cX9_allBring 9 = .ok (.iload_n 2, 1) := by decide +kernel
theorem dX9_allBring_10 : decode cX9_allBring 10 = .ok (.aload_n 0, 1) := by decide +kernel
theorem dX9_allBring_11 : decode cX9_allBring 11 = .ok (.getfield 9, 3) := by decide +kernel
theorem dX9_allBring_14 : decode cX9_allBring 14 = .ok (.sipush 205, 3) := by decide +kernel
theorem dX9_allBring_17 : decode cX9_allBring 17 = .ok (.iaload, 1) := by decide +kernel
theorem dX9_allBring_18 : decode cX9_allBring 18 = .ok (.iload_n 3, 1) := by decide +kernel
theorem dX9_allBring_19 : decode cX9_allBring 19 = .ok (.iadd, 1) := by decide +kernel
theorem dX9_allBring_20 : decode cX9_allBring 20 = .ok (.invokestatic 156, 3) := by decide +kernel
theorem dX9_allBring_23 : decode cX9_allBring 23 = .ok (.iadd, 1) := by decide +kernel
theorem dX9_allBring_24 : decode cX9_allBring 24 = .ok (.istore_n 2, 1) := by decide +kernel
theorem dX9_allBring_25 : decode cX9_allBring 25 = .ok (.iinc 3 1, 3) := by decide +kernel
theorem dX9_allBring_28 : decode cX9_allBring 28 = .ok (.goto (-24), 3) := by decide +kernel
theorem dX9_allBring_31 : decode cX9_allBring 31 = .ok (.iload_n 2, 1) := by decide +kernel
theorem dX9_allBring_32 : decode cX9_allBring 32 = .ok (.ireturn, 1) := by decide +kernel
set_option maxRecDepth 20000 in
theorem ggX9_drawsOne_X9_brings : GoodIn wsX9_drawsOne wsX9_brings := goodIn_r _ [9, 2, 3, 4, 5] (by decide +kernel) (by decide +kernel)
set_option maxRecDepth 20000 in
theorem gX9_drawsOne_X9_brings : GoodIn wsX9_drawsOne (va_wsS RX9 156 yX9_brings wsX9_brings) := goodIn_app (goodIn_of _ (by decide +kernel)) ggX9_drawsOne_X9_brings
set_option maxRecDepth 20000 in
theorem ggX9_drawsOne_X9_goesFrom : GoodIn wsX9_drawsOne wsX9_goesFrom := goodIn_ca (goodIn_r _ [13, 1, 45, 46, 47, 48, 49, 50, 51, 52, 53, 54, 55, 56, 57, 58, 59, 60, 61, 62, 63, 64, 65, 66, 67, 68] (by decide +kernel) (by decide +kernel)) (goodIn_sub (fun _ h => List.mem_cons_of_mem _ (List.mem_append_right _ h)) (by decide +kernel))
set_option maxRecDepth 20000 in
theorem gX9_drawsOne_X9_goesFrom : GoodIn wsX9_drawsOne (wsV RX9 150 RX9 yX9_goesFrom wsX9_goesFrom) := goodIn_app (goodIn_of _ (by decide +kernel)) ggX9_drawsOne_X9_goesFrom
set_option maxRecDepth 20000 in
theorem ggX9_drawsOne_X9_of : GoodIn wsX9_drawsOne wsX9_of := goodIn_ca (goodIn_r _ [17, 1, 45, 46, 47, 48, 49, 50, 51, 52, 53, 54, 55, 56, 57, 58, 59, 60, 61, 62, 63, 64, 65, 66, 67, 68] (by decide +kernel) (by decide +kernel)) (goodIn_sub (fun _ h => List.mem_cons_of_mem _ (List.mem_append_right _ h)) (by decide +kernel))
set_option maxRecDepth 20000 in
theorem gX9_drawsOne_X9_of : GoodIn wsX9_drawsOne (wsV RX9 77 RX9 yX9_of wsX9_of) := goodIn_app (goodIn_of _ (by decide +kernel)) ggX9_drawsOne_X9_of
set_option maxRecDepth 20000 in
theorem ggX9_drawsOne_X9_becomes : GoodIn wsX9_drawsOne wsX9_becomes := goodIn_ca (goodIn_r _ [21, 1, 45, 46, 47, 48, 49, 50, 51, 52, 53, 54, 55, 56, 57, 58, 59, 60, 61, 62, 63, 64, 65, 66, 67, 68] (by decide +kernel) (by decide +kernel)) (goodIn_sub (fun _ h => List.mem_cons_of_mem _ (List.mem_append_right _ h)) (by decide +kernel))
set_option maxRecDepth 20000 in
theorem gX9_drawsOne_X9_becomes : GoodIn wsX9_drawsOne (wsV RX9 100 RX9 yX9_becomes wsX9_becomes) := goodIn_app (goodIn_of _ (by decide +kernel)) ggX9_drawsOne_X9_becomes
set_option maxRecDepth 20000 in
theorem ggX9_drawsOne_X9_notes : GoodIn wsX9_drawsOne wsX9_notes := goodIn_ca (goodIn_r _ [25, 1, 45, 46, 47, 48, 49, 50, 51, 52, 53, 54, 55, 56, 57, 58, 59, 60, 61, 62, 63, 64, 65, 66, 67, 68] (by decide +kernel) (by decide +kernel)) (goodIn_sub (fun _ h => List.mem_cons_of_mem _ (List.mem_append_right _ h)) (by decide +kernel))
set_option maxRecDepth 20000 in
theorem gX9_drawsOne_X9_notes : GoodIn wsX9_drawsOne (wsV RX9 124 RX9 yX9_notes wsX9_notes) := goodIn_app (goodIn_of _ (by decide +kernel)) ggX9_drawsOne_X9_notes
set_option maxRecDepth 20000 in
theorem ggX9_drawsOne_X9_left : GoodIn wsX9_drawsOne wsX9_left := goodIn_ca (goodIn_r _ [29, 30, 31, 4, 32, 33, 34, 35, 8, 36, 1, 37, 38, 39, 40, 14, 15, 16, 17, 45, 46, 47, 48, 49, 50, 51, 52, 53, 54, 55, 56, 57, 58, 59, 60, 61, 62, 63, 64, 65, 66, 67, 68] (by decide +kernel) (by decide +kernel)) (goodIn_sub (fun _ h => List.mem_cons_of_mem _ (List.mem_append_right _ h)) (by decide +kernel))
set_option maxRecDepth 20000 in
theorem gX9_drawsOne_X9_left : GoodIn wsX9_drawsOne (wsV RX9 134 RX9 yX9_left wsX9_left) := goodIn_app (goodIn_of _ (by decide +kernel)) ggX9_drawsOne_X9_left
set_option maxRecDepth 20000 in
theorem ggX9_drawsOne_X9_comesTo : GoodIn wsX9_drawsOne wsX9_comesTo := goodIn_ca (goodIn_r _ [44, 1, 45, 46, 47, 48, 49, 50, 51, 52, 53, 54, 55, 56, 57, 58, 59, 60, 61, 62, 63, 64, 65, 66, 67, 68] (by decide +kernel) (by decide +kernel)) (goodIn_sub (fun _ h => List.mem_cons_of_mem _ (List.mem_append_right _ h)) (by decide +kernel))
set_option maxRecDepth 20000 in
theorem gX9_drawsOne_X9_comesTo : GoodIn wsX9_drawsOne (wsV RX9 143 RX9 yX9_comesTo wsX9_comesTo) := goodIn_app (goodIn_of _ (by decide +kernel)) ggX9_drawsOne_X9_comesTo
theorem dX9_drawsOne_0 : decode cX9_drawsOne 0 = .ok (.aload_n 0, 1) := by decide +kernel
theorem dX9_drawsOne_1 : decode cX9_drawsOne 1 = .ok (.getfield 9, 3) := by decide +kernel
theorem dX9_drawsOne_4 : decode cX9_drawsOne 4 = .ok (.bipush 50, 2) := by decide +kernel
theorem dX9_drawsOne_6 : decode cX9_drawsOne 6 = .ok (.iaload, 1) := by decide +kernel
theorem dX9_drawsOne_7 : decode cX9_drawsOne 7 = .ok (.istore_n 1, 1) := by decide +kernel
theorem dX9_drawsOne_8 : decode cX9_drawsOne 8 = .ok (.aload_n 0, 1) := by decide +kernel
theorem dX9_drawsOne_9 : decode cX9_drawsOne 9 = .ok (.getfield 9, 3) := by decide +kernel
theorem dX9_drawsOne_12 : decode cX9_drawsOne 12 = .ok (.sipush 205, 3) := by decide +kernel
theorem dX9_drawsOne_15 : decode cX9_drawsOne 15 = .ok (.iaload, 1) := by decide +kernel
theorem dX9_drawsOne_16 : decode cX9_drawsOne 16 = .ok (.invokestatic 156, 3) := by decide +kernel
theorem dX9_drawsOne_19 : decode cX9_drawsOne 19 = .ok (.istore_n 2, 1) := by decide +kernel
theorem dX9_drawsOne_20 : decode cX9_drawsOne 20 = .ok (.aload_n 0, 1) := by decide +kernel
theorem dX9_drawsOne_21 : decode cX9_drawsOne 21 = .ok (.iconst 0, 1) := by decide +kernel
theorem dX9_drawsOne_22 : decode cX9_drawsOne 22 = .ok (.invokevirtual 150, 3) := by decide +kernel
theorem dX9_drawsOne_25 : decode cX9_drawsOne 25 = .ok (.aload_n 0, 1) := by decide +kernel
theorem dX9_drawsOne_26 : decode cX9_drawsOne 26 = .ok (.getfield 9, 3) := by decide +kernel
theorem dX9_drawsOne_29 : decode cX9_drawsOne 29 = .ok (.sipush 204, 3) := by decide +kernel
theorem dX9_drawsOne_32 : decode cX9_drawsOne 32 = .ok (.dup2, 1) := by decide +kernel
theorem dX9_drawsOne_33 : decode cX9_drawsOne 33 = .ok (.iaload, 1) := by decide +kernel
theorem dX9_drawsOne_34 : decode cX9_drawsOne 34 = .ok (.iload_n 2, 1) := by decide +kernel
theorem dX9_drawsOne_35 : decode cX9_drawsOne 35 = .ok (.isub, 1) := by decide +kernel
theorem dX9_drawsOne_36 : decode cX9_drawsOne 36 = .ok (.iastore, 1) := by decide +kernel
theorem dX9_drawsOne_37 : decode cX9_drawsOne 37 = .ok (.aload_n 0, 1) := by decide +kernel
theorem dX9_drawsOne_38 : decode cX9_drawsOne 38 = .ok (.getfield 9, 3) := by decide +kernel
theorem dX9_drawsOne_41 : decode cX9_drawsOne 41 = .ok (.sipush 210, 3) := by decide +kernel
theorem dX9_drawsOne_44 : decode cX9_drawsOne 44 = .ok (.dup2, 1) := by decide +kernel
theorem dX9_drawsOne_45 : decode cX9_drawsOne 45 = .ok (.iaload, 1) := by decide +kernel
theorem dX9_drawsOne_46 : decode cX9_drawsOne 46 = .ok (.iload_n 2, 1) := by decide +kernel
theorem dX9_drawsOne_47 : decode cX9_drawsOne 47 = .ok (.iadd, 1) := by decide +kernel
theorem dX9_drawsOne_48 : decode cX9_drawsOne 48 = .ok (.iastore, 1) := by decide +kernel
theorem dX9_drawsOne_49 : decode cX9_drawsOne 49 = .ok (.aload_n 0, 1) := by decide +kernel
theorem dX9_drawsOne_50 : decode cX9_drawsOne 50 = .ok (.getfield 9, 3) := by decide +kernel
theorem dX9_drawsOne_53 : decode cX9_drawsOne 53 = .ok (.sipush 212, 3) := by decide +kernel
theorem dX9_drawsOne_56 : decode cX9_drawsOne 56 = .ok (.dup2, 1) := by decide +kernel
theorem dX9_drawsOne_57 : decode cX9_drawsOne 57 = .ok (.iaload, 1) := by decide +kernel
theorem dX9_drawsOne_58 : decode cX9_drawsOne 58 = .ok (.iconst 1, 1) := by decide +kernel
theorem dX9_drawsOne_59 : decode cX9_drawsOne 59 = .ok (.iadd, 1) := by decide +kernel
theorem dX9_drawsOne_60 : decode cX9_drawsOne 60 = .ok (.iastore, 1) := by decide +kernel
theorem dX9_drawsOne_61 : decode cX9_drawsOne 61 = .ok (.aload_n 0, 1) := by decide +kernel
theorem dX9_drawsOne_62 : decode cX9_drawsOne 62 = .ok (.getfield 9, 3) := by decide +kernel
theorem dX9_drawsOne_65 : decode cX9_drawsOne 65 = .ok (.sipush 205, 3) := by decide +kernel
theorem dX9_drawsOne_68 : decode cX9_drawsOne 68 = .ok (.bipush 50, 2) := by decide +kernel
theorem dX9_drawsOne_70 : decode cX9_drawsOne 70 = .ok (.aload_n 0, 1) := by decide +kernel
theorem dX9_drawsOne_71 : decode cX9_drawsOne 71 = .ok (.getfield 9, 3) := by decide +kernel
theorem dX9_drawsOne_74 : decode cX9_drawsOne 74 = .ok (.sipush 205, 3) := by decide +kernel
theorem dX9_drawsOne_77 : decode cX9_drawsOne 77 = .ok (.iaload, 1) := by decide +kernel
theorem dX9_drawsOne_78 : decode cX9_drawsOne 78 = .ok (.iconst 1, 1) := by decide +kernel
theorem dX9_drawsOne_79 : decode cX9_drawsOne 79 = .ok (.iadd, 1) := by decide +kernel
theorem dX9_drawsOne_80 : decode cX9_drawsOne 80 = .ok (.invokestatic 121, 3) := by decide +kernel
theorem dX9_drawsOne_83 : decode cX9_drawsOne 83 = .ok (.iastore, 1) := by decide +kernel
theorem dX9_drawsOne_84 : decode cX9_drawsOne 84 = .ok (.aload_n 0, 1) := by decide +kernel
theorem dX9_drawsOne_85 : decode cX9_drawsOne 85 = .ok (.iload_n 1, 1) := by decide +kernel
theorem dX9_drawsOne_86 : decode cX9_drawsOne 86 = .ok (.iconst 3, 1) := by decide +kernel
theorem dX9_drawsOne_87 : decode cX9_drawsOne 87 = .ok (.aload_n 0, 1) := by decide +kernel
theorem dX9_drawsOne_88 : decode cX9_drawsOne 88 = .ok (.iload_n 1, 1) := by decide +kernel
theorem dX9_drawsOne_89 : decode cX9_drawsOne 89 = .ok (.iconst 3, 1) := by decide +kernel
theorem dX9_drawsOne_90 : decode cX9_drawsOne 90 = .ok (.invokevirtual 77, 3) := by decide +kernel
theorem dX9_drawsOne_93 : decode cX9_drawsOne 93 = .ok (.iconst 1, 1) := by decide +kernel
theorem dX9_drawsOne_94 : decode cX9_drawsOne 94 = .ok (.iadd, 1) := by decide +kernel
theorem dX9_drawsOne_95 : decode cX9_drawsOne 95 = .ok (.invokevirtual 100, 3) := by decide +kernel
theorem dX9_drawsOne_98 : decode cX9_drawsOne 98 = .ok (.aload_n 0, 1) := by decide +kernel
theorem dX9_drawsOne_99 : decode cX9_drawsOne 99 = .ok (.iload_n 1, 1) := by decide +kernel
theorem dX9_drawsOne_100 : decode cX9_drawsOne 100 = .ok (.iconst 5, 1) := by decide +kernel
theorem dX9_drawsOne_101 : decode cX9_drawsOne 101 = .ok (.aload_n 0, 1) := by decide +kernel
theorem dX9_drawsOne_102 : decode cX9_drawsOne 102 = .ok (.iload_n 1, 1) := by decide +kernel
theorem dX9_drawsOne_103 : decode cX9_drawsOne 103 = .ok (.iconst 5, 1) := by decide +kernel
theorem dX9_drawsOne_104 : decode cX9_drawsOne 104 = .ok (.invokevirtual 77, 3) := by decide +kernel
theorem dX9_drawsOne_107 : decode cX9_drawsOne 107 = .ok (.iload_n 2, 1) := by decide +kernel
theorem dX9_drawsOne_108 : decode cX9_drawsOne 108 = .ok (.iadd, 1) := by decide +kernel
theorem dX9_drawsOne_109 : decode cX9_drawsOne 109 = .ok (.invokevirtual 100, 3) := by decide +kernel
theorem dX9_drawsOne_112 : decode cX9_drawsOne 112 = .ok (.aload_n 0, 1) := by decide +kernel
theorem dX9_drawsOne_113 : decode cX9_drawsOne 113 = .ok (.iconst 0, 1) := by decide +kernel
theorem dX9_drawsOne_114 : decode cX9_drawsOne 114 = .ok (.iload_n 1, 1) := by decide +kernel
theorem dX9_drawsOne_115 : decode cX9_drawsOne 115 = .ok (.iload_n 2, 1) := by decide +kernel
theorem dX9_drawsOne_116 : decode cX9_drawsOne 116 = .ok (.invokevirtual 124, 3) := by decide +kernel
theorem dX9_drawsOne_119 : decode cX9_drawsOne 119 = .ok (.aload_n 0, 1) := by decide +kernel
theorem dX9_drawsOne_120 : decode cX9_drawsOne 120 = .ok (.iload_n 1, 1) := by decide +kernel
theorem dX9_drawsOne_121 : decode cX9_drawsOne 121 = .ok (.invokevirtual 134, 3) := by decide +kernel
theorem dX9_drawsOne_124 : decode cX9_drawsOne 124 = .ok (.ifCond .le 8, 3) := by decide +kernel
theorem dX9_drawsOne_127 : decode cX9_drawsOne 127 = .ok (.aload_n 0, 1) := by decide +kernel
theorem dX9_drawsOne_128 : decode cX9_drawsOne 128 = .ok (.iload_n 1, 1) := by decide +kernel
theorem dX9_drawsOne_129 : decode cX9_drawsOne 129 = .ok (.invokevirtual 143, 3) := by decide +kernel
theorem dX9_drawsOne_132 : decode cX9_drawsOne 132 = .ok (.iload_n 2, 1) := by decide +kernel
theorem dX9_drawsOne_133 : decode cX9_drawsOne 133 = .ok (.ireturn, 1) := by decide +kernel
set_option maxRecDepth 20000 in
theorem ggX9_draws_X9_isIn : GoodIn wsX9_draws wsX9_isIn := goodIn_r _ [6] (by decide +kernel) (by decide +kernel)
set_option maxRecDepth 20000 in
theorem gX9_draws_X9_isIn : GoodIn wsX9_draws (va_wsS RX9 69 yX9_isIn wsX9_isIn) := goodIn_app (goodIn_of _ (by decide +kernel)) ggX9_draws_X9_isIn
set_option maxRecDepth 20000 in
theorem ggX9_draws_X9_hinders : GoodIn wsX9_draws wsX9_hinders := goodIn_r _ [10, 1, 11, 66, 67, 68, 69, 70, 71, 72, 73, 74, 75, 76, 77, 78, 79, 80, 81, 82, 83, 84, 85, 86, 87, 88, 89] (by decide +kernel) (by decide +kernel)
set_option maxRecDepth 20000 in
theorem gX9_draws_X9_hinders : GoodIn wsX9_draws (wsV RX9 96 RX9 yX9_hinders wsX9_hinders) := goodIn_app (goodIn_of _ (by decide +kernel)) ggX9_draws_X9_hinders
set_option maxRecDepth 20000 in
theorem ggX9_draws_X9_allLeft : GoodIn wsX9_draws wsX9_allLeft := goodIn_ca (goodIn_r _ [15, 2, 16, 17, 18, 19, 20, 21, 22, 5, 23, 24, 25, 26, 27, 28, 29, 30, 31, 32, 33, 34, 35, 66, 67, 68, 69, 70, 71, 72, 73, 74, 75, 76, 77, 78, 79, 80, 81, 82, 83, 84, 85, 86, 87, 88, 89] (by decide +kernel) (by decide +kernel)) (goodIn_sub (fun _ h => List.mem_cons_of_mem _ (List.mem_append_right _ h)) (by decide +kernel))
set_option maxRecDepth 20000 in
theorem gX9_draws_X9_allLeft : GoodIn wsX9_draws (wsV RX9 159 RX9 yX9_allLeft wsX9_allLeft) := goodIn_app (goodIn_of _ (by decide +kernel)) ggX9_draws_X9_allLeft
set_option maxRecDepth 20000 in
theorem ggX9_draws_X9_allBring : GoodIn wsX9_draws wsX9_allBring := goodIn_ca (goodIn_r _ [39, 2, 40, 41, 5, 42, 43, 44, 18, 45, 66, 67, 68, 69, 70, 71, 72, 73, 74, 75, 76, 77, 78, 79, 80, 81, 82, 83, 84, 85, 86, 87, 88, 89] (by decide +kernel) (by decide +kernel)) (goodIn_sub (fun _ h => List.mem_cons_of_mem _ (List.mem_append_right _ h)) (by decide +kernel))
set_option maxRecDepth 20000 in
theorem gX9_draws_X9_allBring : GoodIn wsX9_draws (wsV RX9 163 RX9 yX9_allBring wsX9_allBring) := goodIn_app (goodIn_of _ (by decide +kernel)) ggX9_draws_X9_allBring
set_option maxRecDepth 20000 in
theorem ggX9_draws_X9_drawsOne : GoodIn wsX9_draws wsX9_drawsOne := goodIn_ca (goodIn_r _ [49, 2, 43, 44, 18, 45, 40, 41, 5, 42, 50, 51, 52, 53, 32, 33, 34, 35, 54, 55, 56, 57, 58, 59, 60, 61, 20, 21, 22, 23, 16, 17, 19, 24, 25, 26, 27, 28, 29, 30, 31, 62, 63, 64, 65, 66, 67, 68, 69, 70, 71, 72, 73, 74, 75, 76, 77, 78, 79, 80, 81, 82, 83, 84, 85, 86, 87, 88, 89] (by decide +kernel) (by decide +kernel)) (goodIn_sub (fun _ h => List.mem_cons_of_mem _ (List.mem_append_right _ h)) (by decide +kernel))
set_option maxRecDepth 20000 in
theorem gX9_draws_X9_drawsOne : GoodIn wsX9_draws (wsV RX9 166 RX9 yX9_drawsOne wsX9_drawsOne) := goodIn_app (goodIn_of _ (by decide +kernel)) ggX9_draws_X9_drawsOne
theorem dX9_draws_0 : decode cX9_draws 0 = .ok (.aload_n 0, 1) := by decide +kernel
theorem dX9_draws_1 : decode cX9_draws 1 = .ok (.iload_n 1, 1) := by decide +kernel
theorem dX9_draws_2 : decode cX9_draws 2 = .ok (.iconst 1, 1) := by decide +kernel
theorem dX9_draws_3 : decode cX9_draws 3 = .ok (.bipush 50, 2) := by decide +kernel
theorem dX9_draws_5 : decode cX9_draws 5 = .ok (.invokestatic 69, 3) := by decide +kernel
theorem dX9_draws_8 : decode cX9_draws 8 = .ok (.ifCond .ne 7, 3) := by decide +kernel
theorem dX9_draws_11 : decode cX9_draws 11 = .ok (.iconst 1, 1) := by decide +kernel
theorem dX9_draws_12 : decode cX9_draws 12 = .ok (.goto 4, 3) := by decide +kernel
theorem dX9_draws_15 : decode cX9_draws 15 = .ok (.iconst 0, 1) := by decide +kernel
theorem dX9_draws_16 : decode cX9_draws 16 = .ok (.iconst 1, 1) := by decide +kernel
theorem dX9_draws_17 : decode cX9_draws 17 = .ok (.iconst 0, 1) := by decide +kernel
theorem dX9_draws_18 : decode cX9_draws 18 = .ok (.invokevirtual 96, 3) := by decide +kernel
theorem dX9_draws_21 : decode cX9_draws 21 = .ok (.aload_n 0, 1) := by decide +kernel
theorem dX9_draws_22 : decode cX9_draws 22 = .ok (.aload_n 0, 1) := by decide +kernel
theorem dX9_draws_23 : decode cX9_draws 23 = .ok (.invokevirtual 159, 3) := by decide +kernel
theorem dX9_draws_26 : decode cX9_draws 26 = .ok (.iload_n 1, 1) := by decide +kernel
theorem dX9_draws_27 : decode cX9_draws 27 = .ok (.if_icmp .ge 7, 3) := by decide +kernel
theorem dX9_draws_30 : decode cX9_draws 30 = .ok (.iconst 1, 1) := by decide +kernel
theorem dX9_draws_31 : decode cX9_draws 31 = .ok (.goto 4, 3) := by decide +kernel
theorem dX9_draws_34 : decode cX9_draws 34 = .ok (.iconst 0, 1) := by decide +kernel
theorem dX9_draws_35 : decode cX9_draws 35 = .ok (.bipush 7, 2) := by decide +kernel
theorem dX9_draws_37 : decode cX9_draws 37 = .ok (.aload_n 0, 1) := by decide +kernel
theorem dX9_draws_38 : decode cX9_draws 38 = .ok (.invokevirtual 159, 3) := by decide +kernel
theorem dX9_draws_41 : decode cX9_draws 41 = .ok (.invokevirtual 96, 3) := by decide +kernel
theorem dX9_draws_44 : decode cX9_draws 44 = .ok (.aload_n 0, 1) := by decide +kernel
theorem dX9_draws_45 : decode cX9_draws 45 = .ok (.getfield 44, 3) := by decide +kernel
theorem dX9_draws_48 : decode cX9_draws 48 = .ok (.ifCond .ne 38, 3) := by decide +kernel
theorem dX9_draws_51 : decode cX9_draws 51 = .ok (.aload_n 0, 1) := by decide +kernel
theorem dX9_draws_52 : decode cX9_draws 52 = .ok (.aload_n 0, 1) := by decide +kernel
theorem dX9_draws_53 : decode cX9_draws 53 = .ok (.iload_n 1, 1) := by decide +kernel
theorem dX9_draws_54 : decode cX9_draws 54 = .ok (.invokevirtual 163, 3) := by decide +kernel
theorem dX9_draws_57 : decode cX9_draws 57 = .ok (.aload_n 0, 1) := by decide +kernel
theorem dX9_draws_58 : decode cX9_draws 58 = .ok (.getfield 9, 3) := by decide +kernel
theorem dX9_draws_61 : decode cX9_draws 61 = .ok (.sipush 204, 3) := by decide +kernel
theorem dX9_draws_64 : decode cX9_draws 64 = .ok (.iaload, 1) := by decide +kernel
theorem dX9_draws_65 : decode cX9_draws 65 = .ok (.if_icmp .le 7, 3) := by decide +kernel
theorem dX9_draws_68 : decode cX9_draws 68 = .ok (.iconst 1, 1) := by decide +kernel
theorem dX9_draws_69 : decode cX9_draws 69 = .ok (.goto 4, 3) := by decide +kernel
theorem dX9_draws_72 : decode cX9_draws 72 = .ok (.iconst 0, 1) := by decide +kernel
theorem dX9_draws_73 : decode cX9_draws 73 = .ok (.bipush 8, 2) := by decide +kernel
theorem dX9_draws_75 : decode cX9_draws 75 = .ok (.aload_n 0, 1) := by decide +kernel
theorem dX9_draws_76 : decode cX9_draws 76 = .ok (.getfield 9, 3) := by decide +kernel
theorem dX9_draws_79 : decode cX9_draws 79 = .ok (.sipush 204, 3) := by decide +kernel
theorem dX9_draws_82 : decode cX9_draws 82 = .ok (.iaload, 1) := by decide +kernel
theorem dX9_draws_83 : decode cX9_draws 83 = .ok (.invokevirtual 96, 3) := by decide +kernel
theorem dX9_draws_86 : decode cX9_draws 86 = .ok (.iconst 0, 1) := by decide +kernel
theorem dX9_draws_87 : decode cX9_draws 87 = .ok (.istore_n 2, 1) := by decide +kernel
theorem dX9_draws_88 : decode cX9_draws 88 = .ok (.iconst 0, 1) := by decide +kernel
theorem dX9_draws_89 : decode cX9_draws 89 = .ok (.istore_n 3, 1) := by decide +kernel
theorem dX9_draws_90 : decode cX9_draws 90 = .ok (.iload_n 3, 1) := by decide +kernel
theorem dX9_draws_91 : decode cX9_draws 91 = .ok (.iload_n 1, 1) := by decide +kernel
theorem dX9_draws_92 : decode cX9_draws 92 = .ok (.if_icmp .ge 23, 3) := by decide +kernel
theorem dX9_draws_95 : decode cX9_draws 95 = .ok (.aload_n 0, 1) := by decide +kernel
theorem dX9_draws_96 : decode cX9_draws 96 = .ok (.getfield 44, 3) := by decide +kernel
theorem dX9_draws_99 : decode cX9_draws 99 = .ok (.ifCond .ne 16, 3) := by decide +kernel
theorem dX9_draws_102 : decode cX9_draws 102 = .ok (.iload_n 2, 1) := by decide +kernel
theorem dX9_draws_103 : decode cX9_draws 103 = .ok (.aload_n 0, 1) := by decide +kernel
theorem dX9_draws_104 : decode cX9_draws 104 = .ok (.invokevirtual 166, 3) := by decide +kernel
theorem dX9_draws_107 : decode cX9_draws 107 = .ok (.iadd, 1) := by decide +kernel
theorem dX9_draws_108 : decode cX9_draws 108 = .ok (.istore_n 2, 1) := by decide +kernel
theorem dX9_draws_109 : decode cX9_draws 109 = .ok (.iinc 3 1, 3) := by decide +kernel
theorem dX9_draws_112 : decode cX9_draws 112 = .ok (.goto (-22), 3) := by decide +kernel
theorem dX9_draws_115 : decode cX9_draws 115 = .ok (.iload_n 2, 1) := by decide +kernel
theorem dX9_draws_116 : decode cX9_draws 116 = .ok (.ireturn, 1) := by decide +kernel
set_option maxRecDepth 20000 in
theorem ggX9_draw_X9_begins : GoodIn wsX9_draw wsX9_begins := goodIn_ca (goodIn_r _ [5, 6, 7, 8, 9, 10, 4, 11, 92, 93, 94, 95, 96, 97, 98, 99, 100, 101, 102, 103, 104, 105, 106, 107, 108, 109, 110, 111, 112, 113, 114, 115] (by decide +kernel) (by decide +kernel)) (goodIn_sub (fun _ h => List.mem_cons_of_mem _ (List.mem_append_right _ h)) (by decide +kernel))
set_option maxRecDepth 20000 in
theorem gX9_draw_X9_begins : GoodIn wsX9_draw (wsV RX9 93 RX9 yX9_begins wsX9_begins) := goodIn_app (goodIn_of _ (by decide +kernel)) ggX9_draw_X9_begins
set_option maxRecDepth 20000 in
theorem ggX9_draw_X9_draws : GoodIn wsX9_draw wsX9_draws := goodIn_ca (goodIn_r _ [15, 8, 6, 16, 17, 4, 18, 19, 20, 21, 22, 23, 24, 25, 26, 27, 28, 29, 30, 31, 32, 33, 34, 35, 36, 37, 38, 39, 40, 41, 42, 43, 44, 45, 46, 47, 48, 49, 50, 51, 52, 53, 54, 55, 56, 57, 58, 59, 60, 61, 62, 63, 64, 65, 66, 67, 68, 69, 70, 71, 72, 73, 74, 75, 76, 77, 92, 93, 94, 95, 96, 97, 98, 99, 100, 101, 102, 103, 104, 105, 106, 107, 108, 109, 110, 111, 112, 113, 114, 115] (by decide +kernel) (by decide +kernel)) (goodIn_sub (fun _ h => List.mem_cons_of_mem _ (List.mem_append_right _ h)) (by decide +kernel))
set_option maxRecDepth 20000 in
theorem gX9_draw_X9_draws : GoodIn wsX9_draw (wsV RX9 169 RX9 yX9_draws wsX9_draws) := goodIn_app (goodIn_of _ (by decide +kernel)) ggX9_draw_X9_draws
set_option maxRecDepth 20000 in
theorem ggX9_draw_X9_ends : GoodIn wsX9_draw wsX9_ends := goodIn_ca (goodIn_r _ [81, 8, 82, 83, 23, 84, 85, 7, 6, 9, 10, 4, 11, 86, 87, 88, 89, 90, 91, 92, 93, 94, 95, 96, 97, 98, 99, 100, 101, 102, 103, 104, 105, 106, 107, 108, 109, 110, 111, 112, 113, 114, 115] (by decide +kernel) (by decide +kernel)) (goodIn_sub (fun _ h => List.mem_cons_of_mem _ (List.mem_append_right _ h)) (by decide +kernel))
set_option maxRecDepth 20000 in
theorem gX9_draw_X9_ends : GoodIn wsX9_draw (wsV RX9 104 RX9 yX9_ends wsX9_ends) := goodIn_app (goodIn_of _ (by decide +kernel)) ggX9_draw_X9_ends
theorem dX9_draw_0 : decode cX9_draw 0 = .ok (.aload_n 0, 1) := by decide +kernel
theorem dX9_draw_1 : decode cX9_draw 1 = .ok (.invokevirtual 93, 3) := by decide +kernel
theorem dX9_draw_4 : decode cX9_draw 4 = .ok (.aload_n 0, 1) := by decide +kernel
theorem dX9_draw_5 : decode cX9_draw 5 = .ok (.aload_n 0, 1) := by decide +kernel
theorem dX9_draw_6 : decode cX9_draw 6 = .ok (.iload_n 1, 1) := by decide +kernel
theorem dX9_draw_7 : decode cX9_draw 7 = .ok (.invokevirtual 169, 3) := by decide +kernel
theorem dX9_draw_10 : decode cX9_draw 10 = .ok (.iconst 1, 1) := by decide +kernel
theorem dX9_draw_11 : decode cX9_draw 11 = .ok (.iconst 0, 1) := by decide +kernel
theorem dX9_draw_12 : decode cX9_draw 12 = .ok (.invokevirtual 104, 3) := by decide +kernel
theorem dX9_draw_15 : decode cX9_draw 15 = .ok (.ireturn, 1) := by decide +kernel
set_option maxRecDepth 20000 in
theorem ggX9_wants_X9_turnsByLaw : GoodIn wsX9_wants wsX9_turnsByLaw := goodIn_ca (goodIn_r _ [5, 6, 7, 8, 4, 9, 10, 11, 12, 13, 14, 15, 16, 17, 18, 19, 20, 21, 22, 23, 24, 25, 26, 27, 28, 29, 30, 31, 32, 33, 34] (by decide +kernel) (by decide +kernel)) (goodIn_sub (fun _ h => List.mem_cons_of_mem _ (List.mem_append_right _ h)) (by decide +kernel))
set_option maxRecDepth 20000 in
theorem gX9_wants_X9_turnsByLaw : GoodIn wsX9_wants (wsV RX9 81 RX9 yX9_turnsByLaw wsX9_turnsByLaw) := goodIn_app (goodIn_of _ (by decide +kernel)) ggX9_wants_X9_turnsByLaw
theorem dX9_wants_0 : decode cX9_wants 0 = .ok (.iconst 0, 1) := by decide +kernel
theorem dX9_wants_1 : decode cX9_wants 1 = .ok (.istore_n 2, 1) := by decide +kernel
theorem dX9_wants_2 : decode cX9_wants 2 = .ok (.iconst 1, 1) := by decide +kernel
theorem dX9_wants_3 : decode cX9_wants 3 = .ok (.istore_n 3, 1) := by decide +kernel
theorem dX9_wants_4 : decode cX9_wants 4 = .ok (.iload_n 3, 1) := by decide +kernel
theorem dX9_wants_5 : decode cX9_wants 5 = .ok (.iconst 4, 1) := by decide +kernel
theorem dX9_wants_6 : decode cX9_wants 6 = .ok (.if_icmp .ge 30, 3) := by decide +kernel
theorem dX9_wants_9 : decode cX9_wants 9 = .ok (.aload_n 0, 1) := by decide +kernel
theorem dX9_wants_10 : decode cX9_wants 10 = .ok (.iload_n 1, 1) := by decide +kernel
theorem dX9_wants_11 : decode cX9_wants 11 = .ok (.iload_n 3, 1) := by decide +kernel
theorem dX9_wants_12 : decode cX9_wants 12 = .ok (.invokevirtual 81, 3) := by decide +kernel
theorem dX9_wants_15 : decode cX9_wants 15 = .ok (.aload_n 0, 1) := by decide +kernel
theorem dX9_wants_16 : decode cX9_wants 16 = .ok (.iload_n 1, 1) := by decide +kernel
theorem dX9_wants_17 : decode cX9_wants 17 = .ok (.iload_n 2, 1) := by decide +kernel
theorem dX9_wants_18 : decode cX9_wants 18 = .ok (.invokevirtual 81, 3) := by decide +kernel
theorem dX9_wants_21 : decode cX9_wants 21 = .ok (.if_icmp .le 7, 3) := by decide +kernel
theorem dX9_wants_24 : decode cX9_wants 24 = .ok (.iload_n 3, 1) := by decide +kernel
theorem dX9_wants_25 : decode cX9_wants 25 = .ok (.goto 4, 3) := by decide +kernel
theorem dX9_wants_28 : decode cX9_wants 28 = .ok (.iload_n 2, 1) := by decide +kernel
theorem dX9_wants_29 : decode cX9_wants 29 = .ok (.istore_n 2, 1) := by decide +kernel
theorem dX9_wants_30 : decode cX9_wants 30 = .ok (.iinc 3 1, 3) := by decide +kernel
theorem dX9_wants_33 : decode cX9_wants 33 = .ok (.goto (-29), 3) := by decide +kernel
theorem dX9_wants_36 : decode cX9_wants 36 = .ok (.iload_n 2, 1) := by decide +kernel
theorem dX9_wants_37 : decode cX9_wants 37 = .ok (.ireturn, 1) := by decide +kernel
set_option maxRecDepth 20000 in
theorem ggX9_membersWanting_X9_wants : GoodIn wsX9_membersWanting wsX9_wants := goodIn_ca (goodIn_r _ [6, 7, 8, 9, 5, 10, 11, 12, 13, 14, 1, 15, 16, 17, 18, 19, 20, 21, 22, 23, 24, 25, 26, 27, 28, 29, 30, 31, 32, 33, 34, 35, 36, 37, 38] (by decide +kernel) (by decide +kernel)) (goodIn_sub (fun _ h => List.mem_cons_of_mem _ (List.mem_append_right _ h)) (by decide +kernel))
set_option maxRecDepth 20000 in
theorem gX9_membersWanting_X9_wants : GoodIn wsX9_membersWanting (wsV RX9 172 RX9 yX9_wants wsX9_wants) := goodIn_app (goodIn_of _ (by decide +kernel)) ggX9_membersWanting_X9_wants
set_option maxRecDepth 20000 in
theorem ggX9_membersWanting_X9_of : GoodIn wsX9_membersWanting wsX9_of := goodIn_ca (goodIn_r _ [14, 1, 15, 16, 17, 18, 19, 20, 21, 22, 23, 24, 25, 26, 27, 28, 29, 30, 31, 32, 33, 34, 35, 36, 37, 38] (by decide +kernel) (by decide +kernel)) (goodIn_sub (fun _ h => List.mem_cons_of_mem _ (List.mem_append_right _ h)) (by decide +kernel))
set_option maxRecDepth 20000 in
theorem gX9_membersWanting_X9_of : GoodIn wsX9_membersWanting (wsV RX9 77 RX9 yX9_of wsX9_of) := goodIn_app (goodIn_of _ (by decide +kernel)) ggX9_membersWanting_X9_of
theorem dX9_membersWanting_0 : decode cX9_membersWanting 0 = .ok (.iconst 0, 1) := by decide +kernel
theorem dX9_membersWanting_1 : decode cX9_membersWanting 1 = .ok (.istore_n 2, 1) := by decide +kernel
theorem dX9_membersWanting_2 : decode cX9_membersWanting 2 = .ok (.iconst 0, 1) := by decide +kernel
theorem dX9_membersWanting_3 : decode cX9_membersWanting 3 = .ok (.istore_n 3, 1) := by decide +kernel
theorem dX9_membersWanting_4 : decode cX9_membersWanting 4 = .ok (.iload_n 3, 1) := by decide +kernel
theorem dX9_membersWanting_5 : decode cX9_membersWanting 5 = .ok (.aload_n 0, 1) := by decide +kernel
theorem dX9_membersWanting_6 : decode cX9_membersWanting 6 = .ok (.getfield 9, 3) := by decide +kernel
theorem dX9_membersWanting_9 : decode cX9_membersWanting 9 = .ok (.iconst 0, 1) := by decide +kernel
theorem dX9_membersWanting_10 : decode cX9_membersWanting 10 = .ok (.iaload, 1) := by decide +kernel
theorem dX9_membersWanting_11 : decode cX9_membersWanting 11 = .ok (.if_icmp .ge 31, 3) := by decide +kernel
theorem dX9_membersWanting_14 : decode cX9_membersWanting 14 = .ok (.iload_n 2, 1) := by decide +kernel
theorem dX9_membersWanting_15 : decode cX9_membersWanting 15 = .ok (.aload_n 0, 1) := by decide +kernel
theorem dX9_membersWanting_16 : decode cX9_membersWanting 16 = .ok (.iload_n 3, 1) := by decide +kernel
theorem dX9_membersWanting_17 : decode cX9_membersWanting 17 = .ok (.invokevirtual 172, 3) := by decide +kernel
theorem dX9_membersWanting_20 : decode cX9_membersWanting 20 = .ok (.iload_n 1, 1) := by decide +kernel
theorem dX9_membersWanting_21 : decode cX9_membersWanting 21 = .ok (.if_icmp .ne 12, 3) := by decide +kernel
theorem dX9_membersWanting_24 : decode cX9_membersWanting 24 = .ok (.aload_n 0, 1) := by decide +kernel
theorem dX9_membersWanting_25 : decode cX9_membersWanting 25 = .ok (.iload_n 3, 1) := by decide +kernel
theorem dX9_membersWanting_26 : decode cX9_membersWanting 26 = .ok (.iconst 0, 1) := by decide +kernel
theorem dX9_membersWanting_27 : decode cX9_membersWanting 27 = .ok (.invokevirtual 77, 3) := by decide +kernel
theorem dX9_membersWanting_30 : decode cX9_membersWanting 30 = .ok (.goto 4, 3) := by decide +kernel
theorem dX9_membersWanting_33 : decode cX9_membersWanting 33 = .ok (.iconst 0, 1) := by decide +kernel
theorem dX9_membersWanting_34 : decode cX9_membersWanting 34 = .ok (.iadd, 1) := by decide +kernel
theorem dX9_membersWanting_35 : decode cX9_membersWanting 35 = .ok (.istore_n 2, 1) := by decide +kernel
theorem dX9_membersWanting_36 : decode cX9_membersWanting 36 = .ok (.iinc 3 1, 3) := by decide +kernel
theorem dX9_membersWanting_39 : decode cX9_membersWanting 39 = .ok (.goto (-35), 3) := by decide +kernel
theorem dX9_membersWanting_42 : decode cX9_membersWanting 42 = .ok (.iload_n 2, 1) := by decide +kernel
theorem dX9_membersWanting_43 : decode cX9_membersWanting 43 = .ok (.ireturn, 1) := by decide +kernel
set_option maxRecDepth 20000 in
theorem ggX9_votes_X9_hinders : GoodIn wsX9_votes wsX9_hinders := goodIn_r _ [7, 2, 8, 45, 46, 47, 48, 49, 50, 51, 52, 53, 54, 55, 56, 57, 58, 59, 60, 61, 62, 63, 64, 65, 66, 67, 68] (by decide +kernel) (by decide +kernel)
set_option maxRecDepth 20000 in
theorem gX9_votes_X9_hinders : GoodIn wsX9_votes (wsV RX9 96 RX9 yX9_hinders wsX9_hinders) := goodIn_app (goodIn_of _ (by decide +kernel)) ggX9_votes_X9_hinders
set_option maxRecDepth 20000 in
theorem ggX9_votes_X9_membersWanting : GoodIn wsX9_votes wsX9_membersWanting := goodIn_ca (goodIn_r _ [12, 1, 13, 14, 15, 6, 16, 17, 18, 19, 20, 21, 22, 23, 24, 45, 46, 47, 48, 49, 50, 51, 52, 53, 54, 55, 56, 57, 58, 59, 60, 61, 62, 63, 64, 65, 66, 67, 68] (by decide +kernel) (by decide +kernel)) (goodIn_sub (fun _ h => List.mem_cons_of_mem _ (List.mem_append_right _ h)) (by decide +kernel))
set_option maxRecDepth 20000 in
theorem gX9_votes_X9_membersWanting : GoodIn wsX9_votes (wsV RX9 175 RX9 yX9_membersWanting wsX9_membersWanting) := goodIn_app (goodIn_of _ (by decide +kernel)) ggX9_votes_X9_membersWanting
set_option maxRecDepth 20000 in
theorem ggX9_votes_X9_notes : GoodIn wsX9_votes wsX9_notes := goodIn_ca (goodIn_r _ [28, 1, 45, 46, 47, 48, 49, 50, 51, 52, 53, 54, 55, 56, 57, 58, 59, 60, 61, 62, 63, 64, 65, 66, 67, 68] (by decide +kernel) (by decide +kernel)) (goodIn_sub (fun _ h => List.mem_cons_of_mem _ (List.mem_append_right _ h)) (by decide +kernel))
set_option maxRecDepth 20000 in
theorem gX9_votes_X9_notes : GoodIn wsX9_votes (wsV RX9 124 RX9 yX9_notes wsX9_notes) := goodIn_app (goodIn_of _ (by decide +kernel)) ggX9_votes_X9_notes
set_option maxRecDepth 20000 in
theorem ggX9_votes_X9_left : GoodIn wsX9_votes wsX9_left := goodIn_ca (goodIn_r _ [32, 33, 34, 35, 36, 37, 38, 39, 6, 40, 1, 17, 18, 19, 20, 21, 22, 23, 24, 45, 46, 47, 48, 49, 50, 51, 52, 53, 54, 55, 56, 57, 58, 59, 60, 61, 62, 63, 64, 65, 66, 67, 68] (by decide +kernel) (by decide +kernel)) (goodIn_sub (fun _ h => List.mem_cons_of_mem _ (List.mem_append_right _ h)) (by decide +kernel))
set_option maxRecDepth 20000 in
theorem gX9_votes_X9_left : GoodIn wsX9_votes (wsV RX9 134 RX9 yX9_left wsX9_left) := goodIn_app (goodIn_of _ (by decide +kernel)) ggX9_votes_X9_left
set_option maxRecDepth 20000 in
theorem ggX9_votes_X9_goesFrom : GoodIn wsX9_votes wsX9_goesFrom := goodIn_ca (goodIn_r _ [44, 1, 45, 46, 47, 48, 49, 50, 51, 52, 53, 54, 55, 56, 57, 58, 59, 60, 61, 62, 63, 64, 65, 66, 67, 68] (by decide +kernel) (by decide +kernel)) (goodIn_sub (fun _ h => List.mem_cons_of_mem _ (List.mem_append_right _ h)) (by decide +kernel))
set_option maxRecDepth 20000 in
theorem gX9_votes_X9_goesFrom : GoodIn wsX9_votes (wsV RX9 150 RX9 yX9_goesFrom wsX9_goesFrom) := goodIn_app (goodIn_of _ (by decide +kernel)) ggX9_votes_X9_goesFrom
theorem dX9_votes_0 : decode cX9_votes 0 = .ok (.aload_n 0, 1) := by decide +kernel
theorem dX9_votes_1 : decode cX9_votes 1 = .ok (.aload_n 0, 1) := by decide +kernel
theorem dX9_votes_2 : decode cX9_votes 2 = .ok (.getfield 9, 3) := by decide +kernel
theorem dX9_votes_5 : decode cX9_votes 5 = .ok (.iconst 0, 1) := by decide +kernel
theorem dX9_votes_6 : decode cX9_votes 6 = .ok (.iaload, 1) := by decide +kernel
theorem dX9_votes_7 : decode cX9_votes 7 = .ok (.ifCond .ne 7, 3) := by decide +kernel
theorem dX9_votes_10 : decode cX9_votes 10 = .ok (.iconst 1, 1) := by decide +kernel
theorem dX9_votes_11 : decode cX9_votes 11 = .ok (.goto 4, 3) := by decide +kernel
theorem dX9_votes_14 : decode cX9_votes 14 = .ok (.iconst 0, 1) := by decide +kernel
theorem dX9_votes_15 : decode cX9_votes 15 = .ok (.iconst 3, 1) := by decide +kernel
theorem dX9_votes_16 : decode cX9_votes 16 = .ok (.iconst 0, 1) := by decide +kernel
theorem dX9_votes_17 : decode cX9_votes 17 = .ok (.invokevirtual 96, 3) := by decide +kernel
theorem dX9_votes_20 : decode cX9_votes 20 = .ok (.aload_n 0, 1) := by decide +kernel
theorem dX9_votes_21 : decode cX9_votes 21 = .ok (.getfield 44, 3) := by decide +kernel
theorem dX9_votes_24 : decode cX9_votes 24 = .ok (.ifCond .eq 5, 3) := by decide +kernel
theorem dX9_votes_27 : decode cX9_votes 27 = .ok (.iconst 0, 1) := by decide +kernel
theorem dX9_votes_28 : decode cX9_votes 28 = .ok (.ireturn, 1) := by decide +kernel
theorem dX9_votes_29 : decode cX9_votes 29 = .ok (.iconst 0, 1) := by decide +kernel
theorem dX9_votes_30 : decode cX9_votes 30 = .ok (.istore_n 1, 1) := by decide +kernel
theorem dX9_votes_31 : decode cX9_votes 31 = .ok (.iconst 1, 1) := by decide +kernel
theorem dX9_votes_32 : decode cX9_votes 32 = .ok (.istore_n 2, 1) := by decide +kernel
theorem dX9_votes_33 : decode cX9_votes 33 = .ok (.iload_n 2, 1) := by decide +kernel
theorem dX9_votes_34 : decode cX9_votes 34 = .ok (.iconst 4, 1) := by decide +kernel
theorem dX9_votes_35 : decode cX9_votes 35 = .ok (.if_icmp .ge 28, 3) := by decide +kernel
theorem dX9_votes_38 : decode cX9_votes 38 = .ok (.aload_n 0, 1) := by decide +kernel
theorem dX9_votes_39 : decode cX9_votes 39 = .ok (.iload_n 2, 1) := by decide +kernel
theorem dX9_votes_40 : decode cX9_votes 40 = .ok (.invokevirtual 175, 3) := by decide +kernel
theorem dX9_votes_43 : decode cX9_votes 43 = .ok (.aload_n 0, 1) := by decide +kernel
theorem dX9_votes_44 : decode cX9_votes 44 = .ok (.iload_n 1, 1) := by decide +kernel
theorem dX9_votes_45 : decode cX9_votes 45 = .ok (.invokevirtual 175, 3) := by decide +kernel
theorem dX9_votes_48 : decode cX9_votes 48 = .ok (.if_icmp .le 7, 3) := by decide +kernel
theorem dX9_votes_51 : decode cX9_votes 51 = .ok (.iload_n 2, 1) := by decide +kernel
theorem dX9_votes_52 : decode cX9_votes 52 = .ok (.goto 4, 3) := by decide +kernel
theorem dX9_votes_55 : decode cX9_votes 55 = .ok (.iload_n 1, 1) := by decide +kernel
theorem dX9_votes_56 : decode cX9_votes 56 = .ok (.istore_n 1, 1) := by decide +kernel
theorem dX9_votes_57 : decode cX9_votes 57 = .ok (.iinc 2 1, 3) := by decide +kernel
theorem dX9_votes_60 : decode cX9_votes 60 = .ok (.goto (-27), 3) := by decide +kernel
theorem dX9_votes_63 : decode cX9_votes 63 = .ok (.aload_n 0, 1) := by decide +kernel
theorem dX9_votes_64 : decode cX9_votes 64 = .ok (.getfield 9, 3) := by decide +kernel
theorem dX9_votes_67 : decode cX9_votes 67 = .ok (.sipush 203, 3) := by decide +kernel
theorem dX9_votes_70 : decode cX9_votes 70 = .ok (.iload_n 1, 1) := by decide +kernel
theorem dX9_votes_71 : decode cX9_votes 71 = .ok (.iastore, 1) := by decide +kernel
theorem dX9_votes_72 : decode cX9_votes 72 = .ok (.aload_n 0, 1) := by decide +kernel
theorem dX9_votes_73 : decode cX9_votes 73 = .ok (.iconst 2, 1) := by decide +kernel
theorem dX9_votes_74 : decode cX9_votes 74 = .ok (.iload_n 1, 1) := by decide +kernel
theorem dX9_votes_75 : decode cX9_votes 75 = .ok (.iconst 0, 1) := by decide +kernel
theorem dX9_votes_76 : decode cX9_votes 76 = .ok (.invokevirtual 124, 3) := by decide +kernel
theorem dX9_votes_79 : decode cX9_votes 79 = .ok (.aload_n 0, 1) := by decide +kernel
theorem dX9_votes_80 : decode cX9_votes 80 = .ok (.getfield 9, 3) := by decide +kernel
theorem dX9_votes_83 : decode cX9_votes 83 = .ok (.bipush 49, 2) := by decide +kernel
theorem dX9_votes_85 : decode cX9_votes 85 = .ok (.iaload, 1) := by decide +kernel
theorem dX9_votes_86 : decode cX9_votes 86 = .ok (.iconst 1, 1) := by decide +kernel
theorem dX9_votes_87 : decode cX9_votes 87 = .ok (.isub, 1) := by decide +kernel
theorem dX9_votes_88 : decode cX9_votes 88 = .ok (.istore_n 2, 1) := by decide +kernel
theorem dX9_votes_89 : decode cX9_votes 89 = .ok (.iload_n 2, 1) := by decide +kernel
theorem dX9_votes_90 : decode cX9_votes 90 = .ok (.ifCond .lt 30, 3) := by decide +kernel
theorem dX9_votes_93 : decode cX9_votes 93 = .ok (.aload_n 0, 1) := by decide +kernel
theorem dX9_votes_94 : decode cX9_votes 94 = .ok (.aload_n 0, 1) := by decide +kernel
theorem dX9_votes_95 : decode cX9_votes 95 = .ok (.getfield 9, 3) := by decide +kernel
theorem dX9_votes_98 : decode cX9_votes 98 = .ok (.bipush 50, 2) := by decide +kernel
theorem dX9_votes_100 : decode cX9_votes 100 = .ok (.iload_n 2, 1) := by decide +kernel
theorem dX9_votes_101 : decode cX9_votes 101 = .ok (.iadd, 1) := by decide +kernel
theorem dX9_votes_102 : decode cX9_votes 102 = .ok (.iaload, 1) := by decide +kernel
theorem dX9_votes_103 : decode cX9_votes 103 = .ok (.invokevirtual 134, 3) := by decide +kernel
theorem dX9_votes_106 : decode cX9_votes 106 = .ok (.ifCond .ne 8, 3) := by decide +kernel
theorem dX9_votes_109 : decode cX9_votes 109 = .ok (.aload_n 0, 1) := by decide +kernel
theorem dX9_votes_110 : decode cX9_votes 110 = .ok (.iload_n 2, 1) := by decide +kernel
theorem dX9_votes_111 : decode cX9_votes 111 = .ok (.invokevirtual 150, 3) := by decide +kernel
theorem dX9_votes_114 : decode cX9_votes 114 = .ok (.iinc 2 (-1), 3) := by decide +kernel
theorem dX9_votes_117 : decode cX9_votes 117 = .ok (.goto (-28), 3) := by decide +kernel
theorem dX9_votes_120 : decode cX9_votes 120 = .ok (.iload_n 1, 1) := by decide +kernel
theorem dX9_votes_121 : decode cX9_votes 121 = .ok (.ireturn, 1) := by decide +kernel
set_option maxRecDepth 20000 in
theorem ggX9_vote_X9_begins : GoodIn wsX9_vote wsX9_begins := goodIn_ca (goodIn_r _ [5, 6, 7, 8, 9, 10, 4, 11, 71, 72, 73, 74, 75, 76, 77, 78, 79, 80, 81, 82, 83, 84, 85, 86, 87, 88, 89, 90, 91, 92, 93, 94] (by decide +kernel) (by decide +kernel)) (goodIn_sub (fun _ h => List.mem_cons_of_mem _ (List.mem_append_right _ h)) (by decide +kernel))
set_option maxRecDepth 20000 in
theorem gX9_vote_X9_begins : GoodIn wsX9_vote (wsV RX9 93 RX9 yX9_begins wsX9_begins) := goodIn_app (goodIn_of _ (by decide +kernel)) ggX9_vote_X9_begins
set_option maxRecDepth 20000 in
theorem ggX9_vote_X9_votes : GoodIn wsX9_vote wsX9_votes := goodIn_ca (goodIn_r _ [15, 6, 8, 16, 17, 18, 4, 19, 20, 21, 22, 23, 24, 25, 26, 27, 28, 29, 30, 31, 32, 33, 34, 35, 36, 37, 38, 39, 40, 41, 42, 43, 44, 45, 46, 47, 48, 49, 50, 51, 52, 53, 54, 55, 56, 71, 72, 73, 74, 75, 76, 77, 78, 79, 80, 81, 82, 83, 84, 85, 86, 87, 88, 89, 90, 91, 92, 93, 94] (by decide +kernel) (by decide +kernel)) (goodIn_sub (fun _ h => List.mem_cons_of_mem _ (List.mem_append_right _ h)) (by decide +kernel))
set_option maxRecDepth 20000 in
theorem gX9_vote_X9_votes : GoodIn wsX9_vote (wsV RX9 178 RX9 yX9_votes wsX9_votes) := goodIn_app (goodIn_of _ (by decide +kernel)) ggX9_vote_X9_votes
set_option maxRecDepth 20000 in
theorem ggX9_vote_X9_ends : GoodIn wsX9_vote wsX9_ends := goodIn_ca (goodIn_r _ [60, 8, 61, 62, 20, 63, 64, 7, 6, 9, 10, 4, 11, 65, 66, 67, 68, 69, 70, 71, 72, 73, 74, 75, 76, 77, 78, 79, 80, 81, 82, 83, 84, 85, 86, 87, 88, 89, 90, 91, 92, 93, 94] (by decide +kernel) (by decide +kernel)) (goodIn_sub (fun _ h => List.mem_cons_of_mem _ (List.mem_append_right _ h)) (by decide +kernel))
set_option maxRecDepth 20000 in
theorem gX9_vote_X9_ends : GoodIn wsX9_vote (wsV RX9 104 RX9 yX9_ends wsX9_ends) := goodIn_app (goodIn_of _ (by decide +kernel)) ggX9_vote_X9_ends
theorem dX9_vote_0 : decode cX9_vote 0 = .ok (.aload_n 0, 1) := by decide +kernel
theorem dX9_vote_1 : decode cX9_vote 1 = .ok (.invokevirtual 93, 3) := by decide +kernel
theorem dX9_vote_4 : decode cX9_vote 4 = .ok (.aload_n 0, 1) := by decide +kernel
theorem dX9_vote_5 : decode cX9_vote 5 = .ok (.aload_n 0, 1) := by decide +kernel
theorem dX9_vote_6 : decode cX9_vote 6 = .ok (.invokevirtual 178, 3) := by decide +kernel
theorem dX9_vote_9 : decode cX9_vote 9 = .ok (.iconst 1, 1) := by decide +kernel
theorem dX9_vote_10 : decode cX9_vote 10 = .ok (.iconst 0, 1) := by decide +kernel
theorem dX9_vote_11 : decode cX9_vote 11 = .ok (.invokevirtual 104, 3) := by decide +kernel
theorem dX9_vote_14 : decode cX9_vote 14 = .ok (.ireturn, 1) := by decide +kernel
set_option maxRecDepth 20000 in
theorem ggX9_rains_X9_isIn : GoodIn wsX9_rains wsX9_isIn := goodIn_r _ [5] (by decide +kernel) (by decide +kernel)
set_option maxRecDepth 20000 in
theorem gX9_rains_X9_isIn : GoodIn wsX9_rains (va_wsS RX9 69 yX9_isIn wsX9_isIn) := goodIn_app (goodIn_of _ (by decide +kernel)) ggX9_rains_X9_isIn
set_option maxRecDepth 20000 in
theorem ggX9_rains_X9_hinders : GoodIn wsX9_rains wsX9_hinders := goodIn_r _ [9, 10, 11, 12, 13, 14, 15, 16, 17, 18, 19, 20, 21, 22, 23, 24, 25, 26, 27, 28, 29, 30, 31, 32, 33, 34, 35] (by decide +kernel) (by decide +kernel)
set_option maxRecDepth 20000 in
theorem gX9_rains_X9_hinders : GoodIn wsX9_rains (wsV RX9 96 RX9 yX9_hinders wsX9_hinders) := goodIn_app (goodIn_of _ (by decide +kernel)) ggX9_rains_X9_hinders
theorem dX9_rains_0 : decode cX9_rains 0 = .ok (.aload_n 0, 1) := by decide +kernel
theorem dX9_rains_1 : decode cX9_rains 1 = .ok (.iload_n 1, 1) := by decide +kernel
theorem dX9_rains_2 : decode cX9_rains 2 = .ok (.iconst 0, 1) := by decide +kernel
theorem dX9_rains_3 : decode cX9_rains 3 = .ok (.bipush 9, 2) := by decide +kernel
theorem dX9_rains_5 : decode cX9_rains 5 = .ok (.invokestatic 69, 3) := by decide +kernel
theorem dX9_rains_8 : decode cX9_rains 8 = .ok (.ifCond .ne 7, 3) := by decide +kernel
theorem dX9_rains_11 : decode cX9_rains 11 = .ok (.iconst 1, 1) := by decide +kernel
theorem dX9_rains_12 : decode cX9_rains 12 = .ok (.goto 4, 3) := by decide +kernel
theorem dX9_rains_15 : decode cX9_rains 15 = .ok (.iconst 0, 1) := by decide +kernel
theorem dX9_rains_16 : decode cX9_rains 16 = .ok (.iconst 1, 1) := by decide +kernel
theorem dX9_rains_17 : decode cX9_rains 17 = .ok (.iconst 0, 1) := by decide +kernel
theorem dX9_rains_18 : decode cX9_rains 18 = .ok (.invokevirtual 96, 3) := by decide +kernel
theorem dX9_rains_21 : decode cX9_rains 21 = .ok (.aload_n 0, 1) := by decide +kernel
theorem dX9_rains_22 : decode cX9_rains 22 = .ok (.getfield 9, 3) := by decide +kernel
theorem dX9_rains_25 : decode cX9_rains 25 = .ok (.sipush 208, 3) := by decide +kernel
theorem dX9_rains_28 : decode cX9_rains 28 = .ok (.iaload, 1) := by decide +kernel
theorem dX9_rains_29 : decode cX9_rains 29 = .ok (.istore_n 2, 1) := by decide +kernel
theorem dX9_rains_30 : decode cX9_rains 30 = .ok (.aload_n 0, 1) := by decide +kernel
theorem dX9_rains_31 : decode cX9_rains 31 = .ok (.getfield 9, 3) := by decide +kernel
theorem dX9_rains_34 : decode cX9_rains 34 = .ok (.sipush 208, 3) := by decide +kernel
theorem dX9_rains_37 : decode cX9_rains 37 = .ok (.iload_n 1, 1) := by decide +kernel
theorem dX9_rains_38 : decode cX9_rains 38 = .ok (.iastore, 1) := by decide +kernel
theorem dX9_rains_39 : decode cX9_rains 39 = .ok (.iload_n 2, 1) := by decide +kernel
theorem dX9_rains_40 : decode cX9_rains 40 = .ok (.ireturn, 1) := by decide +kernel
set_option maxRecDepth 20000 in
theorem ggX9_rain_X9_begins : GoodIn wsX9_rain wsX9_begins := goodIn_ca (goodIn_r _ [5, 6, 7, 8, 9, 10, 4, 11, 38, 39, 40, 41, 42, 43, 44, 45, 46, 47, 48, 49, 50, 51, 52, 53, 54, 55, 56, 57, 58, 59, 60, 61] (by decide +kernel) (by decide +kernel)) (goodIn_sub (fun _ h => List.mem_cons_of_mem _ (List.mem_append_right _ h)) (by decide +kernel))
set_option maxRecDepth 20000 in
theorem gX9_rain_X9_begins : GoodIn wsX9_rain (wsV RX9 93 RX9 yX9_begins wsX9_begins) := goodIn_app (goodIn_of _ (by decide +kernel)) ggX9_rain_X9_begins
set_option maxRecDepth 20000 in
theorem ggX9_rain_X9_rains : GoodIn wsX9_rain wsX9_rains := goodIn_ca (goodIn_r _ [15, 6, 16, 17, 4, 18, 19, 20, 21, 22, 8, 23, 38, 39, 40, 41, 42, 43, 44, 45, 46, 47, 48, 49, 50, 51, 52, 53, 54, 55, 56, 57, 58, 59, 60, 61] (by decide +kernel) (by decide +kernel)) (goodIn_sub (fun _ h => List.mem_cons_of_mem _ (List.mem_append_right _ h)) (by decide +kernel))
set_option maxRecDepth 20000 in
theorem gX9_rain_X9_rains : GoodIn wsX9_rain (wsV RX9 181 RX9 yX9_rains wsX9_rains) := goodIn_app (goodIn_of _ (by decide +kernel)) ggX9_rain_X9_rains
set_option maxRecDepth 20000 in
theorem ggX9_rain_X9_ends : GoodIn wsX9_rain wsX9_ends := goodIn_ca (goodIn_r _ [27, 8, 28, 29, 23, 30, 31, 7, 6, 9, 10, 4, 11, 32, 33, 34, 35, 36, 37, 38, 39, 40, 41, 42, 43, 44, 45, 46, 47, 48, 49, 50, 51, 52, 53, 54, 55, 56, 57, 58, 59, 60, 61] (by decide +kernel) (by decide +kernel)) (goodIn_sub (fun _ h => List.mem_cons_of_mem _ (List.mem_append_right _ h)) (by decide +kernel))
set_option maxRecDepth 20000 in
theorem gX9_rain_X9_ends : GoodIn wsX9_rain (wsV RX9 104 RX9 yX9_ends wsX9_ends) := goodIn_app (goodIn_of _ (by decide +kernel)) ggX9_rain_X9_ends
theorem dX9_rain_0 : decode cX9_rain 0 = .ok (.aload_n 0, 1) := by decide +kernel
theorem dX9_rain_1 : decode cX9_rain 1 = .ok (.invokevirtual 93, 3) := by decide +kernel
theorem dX9_rain_4 : decode cX9_rain 4 = .ok (.aload_n 0, 1) := by decide +kernel
theorem dX9_rain_5 : decode cX9_rain 5 = .ok (.aload_n 0, 1) := by decide +kernel
theorem dX9_rain_6 : decode cX9_rain 6 = .ok (.iload_n 1, 1) := by decide +kernel
theorem dX9_rain_7 : decode cX9_rain 7 = .ok (.invokevirtual 181, 3) := by decide +kernel
theorem dX9_rain_10 : decode cX9_rain 10 = .ok (.iconst 1, 1) := by decide +kernel
theorem dX9_rain_11 : decode cX9_rain 11 = .ok (.iconst 0, 1) := by decide +kernel
theorem dX9_rain_12 : decode cX9_rain 12 = .ok (.invokevirtual 104, 3) := by decide +kernel
theorem dX9_rain_15 : decode cX9_rain 15 = .ok (.ireturn, 1) := by decide +kernel
set_option maxRecDepth 20000 in
theorem ggX9_goesNight_X9_becomes : GoodIn wsX9_goesNight wsX9_becomes := goodIn_ca (goodIn_r _ [10, 1, 11, 12, 13, 14, 15, 16, 17, 18, 19, 20, 21, 22, 23, 24, 25, 26, 27, 28, 29, 30, 31, 32, 33, 34] (by decide +kernel) (by decide +kernel)) (goodIn_sub (fun _ h => List.mem_cons_of_mem _ (List.mem_append_right _ h)) (by decide +kernel))
set_option maxRecDepth 20000 in
theorem gX9_goesNight_X9_becomes : GoodIn wsX9_goesNight (wsV RX9 100 RX9 yX9_becomes wsX9_becomes) := goodIn_app (goodIn_of _ (by decide +kernel)) ggX9_goesNight_X9_becomes
theorem dX9_goesNight_0 : decode cX9_goesNight 0 = .ok (.aload_n 0, 1) := by decide +kernel
theorem dX9_goesNight_1 : decode cX9_goesNight 1 = .ok (.getfield 9, 3) := by decide +kernel
theorem dX9_goesNight_4 : decode cX9_goesNight 4 = .ok (.bipush 49, 2) := by decide +kernel
theorem dX9_goesNight_6 : decode cX9_goesNight 6 = .ok (.iconst 0, 1) := by decide +kernel
theorem dX9_goesNight_7 : decode cX9_goesNight 7 = .ok (.iastore, 1) := by decide +kernel
theorem dX9_goesNight_8 : decode cX9_goesNight 8 = .ok (.iconst 0, 1) := by decide +kernel
theorem dX9_goesNight_9 : decode cX9_goesNight 9 = .ok (.istore_n 1, 1) := by decide +kernel
theorem dX9_goesNight_10 : decode cX9_goesNight 10 = .ok (.iload_n 1, 1) := by decide +kernel
theorem dX9_goesNight_11 : decode cX9_goesNight 11 = .ok (.aload_n 0, 1) := by decide +kernel
theorem dX9_goesNight_12 : decode cX9_goesNight 12 = .ok (.getfield 9, 3) := by decide +kernel
theorem dX9_goesNight_15 : decode cX9_goesNight 15 = .ok (.iconst 0, 1) := by decide +kernel
theorem dX9_goesNight_16 : decode cX9_goesNight 16 = .ok (.iaload, 1) := by decide +kernel
theorem dX9_goesNight_17 : decode cX9_goesNight 17 = .ok (.if_icmp .ge 23, 3) := by decide +kernel
theorem dX9_goesNight_20 : decode cX9_goesNight 20 = .ok (.aload_n 0, 1) := by decide +kernel
theorem dX9_goesNight_21 : decode cX9_goesNight 21 = .ok (.iload_n 1, 1) := by decide +kernel
theorem dX9_goesNight_22 : decode cX9_goesNight 22 = .ok (.iconst 3, 1) := by decide +kernel
theorem dX9_goesNight_23 : decode cX9_goesNight 23 = .ok (.iconst 0, 1) := by decide +kernel
theorem dX9_goesNight_24 : decode cX9_goesNight 24 = .ok (.invokevirtual 100, 3) := by decide +kernel
theorem dX9_goesNight_27 : decode cX9_goesNight 27 = .ok (.aload_n 0, 1) := by decide +kernel
theorem dX9_goesNight_28 : decode cX9_goesNight 28 = .ok (.iload_n 1, 1) := by decide +kernel
theorem dX9_goesNight_29 : decode cX9_goesNight 29 = .ok (.iconst 4, 1) := by decide +kernel
theorem dX9_goesNight_30 : decode cX9_goesNight 30 = .ok (.iconst 0, 1) := by decide +kernel
theorem dX9_goesNight_31 : decode cX9_goesNight 31 = .ok (.invokevirtual 100, 3) := by decide +kernel
theorem dX9_goesNight_34 : decode cX9_goesNight 34 = .ok (.iinc 1 1, 3) := by decide +kernel
theorem dX9_goesNight_37 : decode cX9_goesNight 37 = .ok (.goto (-27), 3) := by decide +kernel
theorem dX9_goesNight_40 : decode cX9_goesNight 40 = .ok (.aload_n 0, 1) := by decide +kernel
theorem dX9_goesNight_41 : decode cX9_goesNight 41 = .ok (.getfield 9, 3) := by decide +kernel
theorem dX9_goesNight_44 : decode cX9_goesNight 44 = .ok (.sipush 204, 3) := by decide +kernel
theorem dX9_goesNight_47 : decode cX9_goesNight 47 = .ok (.iaload, 1) := by decide +kernel
theorem dX9_goesNight_48 : decode cX9_goesNight 48 = .ok (.bipush 10, 2) := by decide +kernel
theorem dX9_goesNight_50 : decode cX9_goesNight 50 = .ok (.aload_n 0, 1) := by decide +kernel
theorem dX9_goesNight_51 : decode cX9_goesNight 51 = .ok (.getfield 9, 3) := by decide +kernel
theorem dX9_goesNight_54 : decode cX9_goesNight 54 = .ok (.sipush 208, 3) := by decide +kernel
theorem dX9_goesNight_57 : decode cX9_goesNight 57 = .ok (.iaload, 1) := by decide +kernel
theorem dX9_goesNight_58 : decode cX9_goesNight 58 = .ok (.imul, 1) := by decide +kernel
theorem dX9_goesNight_59 : decode cX9_goesNight 59 = .ok (.iadd, 1) := by decide +kernel
theorem dX9_goesNight_60 : decode cX9_goesNight 60 = .ok (.istore_n 1, 1) := by decide +kernel
theorem dX9_goesNight_61 : decode cX9_goesNight 61 = .ok (.aload_n 0, 1) := by decide +kernel
theorem dX9_goesNight_62 : decode cX9_goesNight 62 = .ok (.getfield 9, 3) := by decide +kernel
theorem dX9_goesNight_65 : decode cX9_goesNight 65 = .ok (.sipush 214, 3) := by decide +kernel
theorem dX9_goesNight_68 : decode cX9_goesNight 68 = .ok (.dup2, 1) := by decide +kernel
theorem dX9_goesNight_69 : decode cX9_goesNight 69 = .ok (.iaload, 1) := by decide +kernel
theorem dX9_goesNight_70 : decode cX9_goesNight 70 = .ok (.bipush 10, 2) := by decide +kernel
theorem dX9_goesNight_72 : decode cX9_goesNight 72 = .ok (.aload_n 0, 1) := by decide +kernel
theorem dX9_goesNight_73 : decode cX9_goesNight 73 = .ok (.getfield 9, 3) := by decide +kernel
theorem dX9_goesNight_76 : decode cX9_goesNight 76 = .ok (.sipush 208, 3) := by decide +kernel
theorem dX9_goesNight_79 : decode cX9_goesNight 79 = .ok (.iaload, 1) := by decide +kernel
theorem dX9_goesNight_80 : decode cX9_goesNight 80 = .ok (.imul, 1) := by decide +kernel
theorem dX9_goesNight_81 : decode cX9_goesNight 81 = .ok (.iadd, 1) := by decide +kernel
theorem dX9_goesNight_82 : decode cX9_goesNight 82 = .ok (.iastore, 1) := by decide +kernel
theorem dX9_goesNight_83 : decode cX9_goesNight 83 = .ok (.aload_n 0, 1) := by decide +kernel
theorem dX9_goesNight_84 : decode cX9_goesNight 84 = .ok (.getfield 9, 3) := by decide +kernel
theorem dX9_goesNight_87 : decode cX9_goesNight 87 = .ok (.sipush 204, 3) := by decide +kernel
theorem dX9_goesNight_90 : decode cX9_goesNight 90 = .ok (.sipush 999, 3) := by decide +kernel
theorem dX9_goesNight_93 : decode cX9_goesNight 93 = .ok (.iload_n 1, 1) := by decide +kernel
theorem dX9_goesNight_94 : decode cX9_goesNight 94 = .ok (.invokestatic 121, 3) := by decide +kernel
theorem dX9_goesNight_97 : decode cX9_goesNight 97 = .ok (.iastore, 1) := by decide +kernel
theorem dX9_goesNight_98 : decode cX9_goesNight 98 = .ok (.aload_n 0, 1) := by decide +kernel
theorem dX9_goesNight_99 : decode cX9_goesNight 99 = .ok (.getfield 9, 3) := by decide +kernel
theorem dX9_goesNight_102 : decode cX9_goesNight 102 = .ok (.sipush 211, 3) := by decide +kernel
theorem dX9_goesNight_105 : decode cX9_goesNight 105 = .ok (.dup2, 1) := by decide +kernel
theorem dX9_goesNight_106 : decode cX9_goesNight 106 = .ok (.iaload, 1) := by decide +kernel
theorem dX9_goesNight_107 : decode cX9_goesNight 107 = .ok (.iload_n 1, 1) := by decide +kernel
theorem dX9_goesNight_108 : decode cX9_goesNight 108 = .ok (.aload_n 0, 1) := by decide +kernel
theorem dX9_goesNight_109 : decode cX9_goesNight 109 = .ok (.getfield 9, 3) := by decide +kernel
theorem dX9_goesNight_112 : decode cX9_goesNight 112 = .ok (.sipush 204, 3) := by decide +kernel
theorem dX9_goesNight_115 : decode cX9_goesNight 115 = .ok (.iaload, 1) := by decide +kernel
theorem dX9_goesNight_116 : decode cX9_goesNight 116 = .ok (.isub, 1) := by decide +kernel
theorem dX9_goesNight_117 : decode cX9_goesNight 117 = .ok (.iadd, 1) := by decide +kernel
theorem dX9_goesNight_118 : decode cX9_goesNight 118 = .ok (.iastore, 1) := by decide +kernel
theorem dX9_goesNight_119 : decode cX9_goesNight 119 = .ok (.aload_n 0, 1) := by decide +kernel
theorem dX9_goesNight_120 : decode cX9_goesNight 120 = .ok (.getfield 9, 3) := by decide +kernel
theorem dX9_goesNight_123 : decode cX9_goesNight 123 = .ok (.sipush 206, 3) := by decide +kernel
theorem dX9_goesNight_126 : decode cX9_goesNight 126 = .ok (.dup2, 1) := by decide +kernel
theorem dX9_goesNight_127 : decode cX9_goesNight 127 = .ok (.iaload, 1) := by decide +kernel
theorem dX9_goesNight_128 : decode cX9_goesNight 128 = .ok (.iconst 1, 1) := by decide +kernel
theorem dX9_goesNight_129 : decode cX9_goesNight 129 = .ok (.iadd, 1) := by decide +kernel
theorem dX9_goesNight_130 : decode cX9_goesNight 130 = .ok (.iastore, 1) := by decide +kernel
theorem dX9_goesNight_131 : decode cX9_goesNight 131 = .ok (.aload_n 0, 1) := by decide +kernel
theorem dX9_goesNight_132 : decode cX9_goesNight 132 = .ok (.getfield 9, 3) := by decide +kernel
theorem dX9_goesNight_135 : decode cX9_goesNight 135 = .ok (.sipush 207, 3) := by decide +kernel
theorem dX9_goesNight_138 : decode cX9_goesNight 138 = .ok (.aload_n 0, 1) := by decide +kernel
theorem dX9_goesNight_139 : decode cX9_goesNight 139 = .ok (.getfield 9, 3) := by decide +kernel
theorem dX9_goesNight_142 : decode cX9_goesNight 142 = .ok (.sipush 204, 3) := by decide +kernel
theorem dX9_goesNight_145 : decode cX9_goesNight 145 = .ok (.iaload, 1) := by decide +kernel
theorem dX9_goesNight_146 : decode cX9_goesNight 146 = .ok (.bipush 100, 2) := by decide +kernel
theorem dX9_goesNight_148 : decode cX9_goesNight 148 = .ok (.if_icmp .ge 7, 3) := by decide +kernel
theorem dX9_goesNight_151 : decode cX9_goesNight 151 = .ok (.iconst 1, 1) := by decide +kernel
theorem dX9_goesNight_152 : decode cX9_goesNight 152 = .ok (.goto 4, 3) := by decide +kernel
theorem dX9_goesNight_155 : decode cX9_goesNight 155 = .ok (.iconst 0, 1) := by decide +kernel
theorem dX9_goesNight_156 : decode cX9_goesNight 156 = .ok (.iastore, 1) := by decide +kernel
theorem dX9_goesNight_157 : decode cX9_goesNight 157 = .ok (.return_, 1) := by decide +kernel
set_option maxRecDepth 20000 in
theorem ggX9_nights_X9_isIn : GoodIn wsX9_nights wsX9_isIn := goodIn_r _ [6] (by decide +kernel) (by decide +kernel)
set_option maxRecDepth 20000 in
theorem gX9_nights_X9_isIn : GoodIn wsX9_nights (va_wsS RX9 69 yX9_isIn wsX9_isIn) := goodIn_app (goodIn_of _ (by decide +kernel)) ggX9_nights_X9_isIn
set_option maxRecDepth 20000 in
theorem ggX9_nights_X9_hinders : GoodIn wsX9_nights wsX9_hinders := goodIn_r _ [10, 1, 11, 24, 25, 26, 27, 28, 29, 30, 31, 32, 33, 34, 35, 36, 37, 38, 39, 40, 41, 42, 43, 44, 45, 46, 47] (by decide +kernel) (by decide +kernel)
set_option maxRecDepth 20000 in
theorem gX9_nights_X9_hinders : GoodIn wsX9_nights (wsV RX9 96 RX9 yX9_hinders wsX9_hinders) := goodIn_app (goodIn_of _ (by decide +kernel)) ggX9_nights_X9_hinders
set_option maxRecDepth 20000 in
theorem ggX9_nights_X9_goesNight : GoodIn wsX9_nights wsX9_goesNight := goodIn_ca (goodIn_r _ [15, 2, 16, 17, 18, 19, 20, 21, 22, 5, 23, 24, 25, 26, 27, 28, 29, 30, 31, 32, 33, 34, 35, 36, 37, 38, 39, 40, 41, 42, 43, 44, 45, 46, 47] (by decide +kernel) (by decide +kernel)) (goodIn_sub (fun _ h => List.mem_cons_of_mem _ (List.mem_append_right _ h)) (by decide +kernel))
set_option maxRecDepth 20000 in
theorem gX9_nights_X9_goesNight : GoodIn wsX9_nights (wsV RX9 184 RX9 yX9_goesNight wsX9_goesNight) := goodIn_app (goodIn_of _ (by decide +kernel)) ggX9_nights_X9_goesNight
theorem dX9_nights_0 : decode cX9_nights 0 = .ok (.aload_n 0, 1) := by decide +kernel
theorem dX9_nights_1 : decode cX9_nights 1 = .ok (.iload_n 1, 1) := by decide +kernel
theorem dX9_nights_2 : decode cX9_nights 2 = .ok (.iconst 1, 1) := by decide +kernel
theorem dX9_nights_3 : decode cX9_nights 3 = .ok (.bipush 50, 2) := by decide +kernel
theorem dX9_nights_5 : decode cX9_nights 5 = .ok (.invokestatic 69, 3) := by decide +kernel
theorem dX9_nights_8 : decode cX9_nights 8 = .ok (.ifCond .ne 7, 3) := by decide +kernel
theorem dX9_nights_11 : decode cX9_nights 11 = .ok (.iconst 1, 1) := by decide +kernel
theorem dX9_nights_12 : decode cX9_nights 12 = .ok (.goto 4, 3) := by decide +kernel
theorem dX9_nights_15 : decode cX9_nights 15 = .ok (.iconst 0, 1) := by decide +kernel
theorem dX9_nights_16 : decode cX9_nights 16 = .ok (.iconst 1, 1) := by decide +kernel
theorem dX9_nights_17 : decode cX9_nights 17 = .ok (.iconst 0, 1) := by decide +kernel
theorem dX9_nights_18 : decode cX9_nights 18 = .ok (.invokevirtual 96, 3) := by decide +kernel
theorem dX9_nights_21 : decode cX9_nights 21 = .ok (.iconst 0, 1) := by decide +kernel
theorem dX9_nights_22 : decode cX9_nights 22 = .ok (.istore_n 2, 1) := by decide +kernel
theorem dX9_nights_23 : decode cX9_nights 23 = .ok (.iload_n 2, 1) := by decide +kernel
theorem dX9_nights_24 : decode cX9_nights 24 = .ok (.iload_n 1, 1) := by decide +kernel
theorem dX9_nights_25 : decode cX9_nights 25 = .ok (.if_icmp .ge 20, 3) := by decide +kernel
theorem dX9_nights_28 : decode cX9_nights 28 = .ok (.aload_n 0, 1) := by decide +kernel
theorem dX9_nights_29 : decode cX9_nights 29 = .ok (.getfield 44, 3) := by decide +kernel
theorem dX9_nights_32 : decode cX9_nights 32 = .ok (.ifCond .ne 13, 3) := by decide +kernel
theorem dX9_nights_35 : decode cX9_nights 35 = .ok (.aload_n 0, 1) := by decide +kernel
theorem dX9_nights_36 : decode cX9_nights 36 = .ok (.invokevirtual 184, 3) := by decide +kernel
theorem dX9_nights_39 : decode cX9_nights 39 = .ok (.iinc 2 1, 3) := by decide +kernel
theorem dX9_nights_42 : decode cX9_nights 42 = .ok (.goto (-19), 3) := by decide +kernel
theorem dX9_nights_45 : decode cX9_nights 45 = .ok (.aload_n 0, 1) := by decide +kernel
theorem dX9_nights_46 : decode cX9_nights 46 = .ok (.getfield 9, 3) := by decide +kernel
theorem dX9_nights_49 : decode cX9_nights 49 = .ok (.sipush 204, 3) := by decide +kernel
theorem dX9_nights_52 : decode cX9_nights 52 = .ok (.iaload, 1) := by decide +kernel
theorem dX9_nights_53 : decode cX9_nights 53 = .ok (.ireturn, 1) := by decide +kernel
set_option maxRecDepth 20000 in
theorem ggX9_night_X9_begins : GoodIn wsX9_night wsX9_begins := goodIn_ca (goodIn_r _ [5, 6, 7, 8, 9, 10, 4, 11, 50, 51, 52, 53, 54, 55, 56, 57, 58, 59, 60, 61, 62, 63, 64, 65, 66, 67, 68, 69, 70, 71, 72, 73] (by decide +kernel) (by decide +kernel)) (goodIn_sub (fun _ h => List.mem_cons_of_mem _ (List.mem_append_right _ h)) (by decide +kernel))
set_option maxRecDepth 20000 in
theorem gX9_night_X9_begins : GoodIn wsX9_night (wsV RX9 93 RX9 yX9_begins wsX9_begins) := goodIn_app (goodIn_of _ (by decide +kernel)) ggX9_night_X9_begins
set_option maxRecDepth 20000 in
theorem ggX9_night_X9_nights : GoodIn wsX9_night wsX9_nights := goodIn_ca (goodIn_r _ [15, 8, 6, 16, 17, 4, 18, 19, 20, 21, 22, 23, 24, 25, 26, 27, 28, 29, 30, 31, 32, 33, 34, 35, 50, 51, 52, 53, 54, 55, 56, 57, 58, 59, 60, 61, 62, 63, 64, 65, 66, 67, 68, 69, 70, 71, 72, 73] (by decide +kernel) (by decide +kernel)) (goodIn_sub (fun _ h => List.mem_cons_of_mem _ (List.mem_append_right _ h)) (by decide +kernel))
set_option maxRecDepth 20000 in
theorem gX9_night_X9_nights : GoodIn wsX9_night (wsV RX9 187 RX9 yX9_nights wsX9_nights) := goodIn_app (goodIn_of _ (by decide +kernel)) ggX9_night_X9_nights
set_option maxRecDepth 20000 in
theorem ggX9_night_X9_ends : GoodIn wsX9_night wsX9_ends := goodIn_ca (goodIn_r _ [39, 8, 40, 41, 23, 42, 43, 7, 6, 9, 10, 4, 11, 44, 45, 46, 47, 48, 49, 50, 51, 52, 53, 54, 55, 56, 57, 58, 59, 60, 61, 62, 63, 64, 65, 66, 67, 68, 69, 70, 71, 72, 73] (by decide +kernel) (by decide +kernel)) (goodIn_sub (fun _ h => List.mem_cons_of_mem _ (List.mem_append_right _ h)) (by decide +kernel))
set_option maxRecDepth 20000 in
theorem gX9_night_X9_ends : GoodIn wsX9_night (wsV RX9 104 RX9 yX9_ends wsX9_ends) := goodIn_app (goodIn_of _ (by decide +kernel)) ggX9_night_X9_ends
theorem dX9_night_0 : decode cX9_night 0 = .ok (.aload_n 0, 1) := by decide +kernel
theorem dX9_night_1 : decode cX9_night 1 = .ok (.invokevirtual 93, 3) := by decide +kernel
theorem dX9_night_4 : decode cX9_night 4 = .ok (.aload_n 0, 1) := by decide +kernel
theorem dX9_night_5 : decode cX9_night 5 = .ok (.aload_n 0, 1) := by decide +kernel
theorem dX9_night_6 : decode cX9_night 6 = .ok (.iload_n 1, 1) := by decide +kernel
theorem dX9_night_7 : decode cX9_night 7 = .ok (.invokevirtual 187, 3) := by decide +kernel
theorem dX9_night_10 : decode cX9_night 10 = .ok (.iconst 1, 1) := by decide +kernel
theorem dX9_night_11 : decode cX9_night 11 = .ok (.iconst 0, 1) := by decide +kernel
theorem dX9_night_12 : decode cX9_night 12 = .ok (.invokevirtual 104, 3) := by decide +kernel
theorem dX9_night_15 : decode cX9_night 15 = .ok (.ireturn, 1) := by decide +kernel
set_option maxRecDepth 20000 in
theorem ggX9_collect_X9_begins : GoodIn wsX9_collect wsX9_begins := goodIn_ca (goodIn_r _ [7, 2, 8, 1, 9, 10, 6, 11, 34, 35, 36, 37, 38, 39, 40, 41, 42, 43, 44, 45, 46, 47, 48, 49, 50, 51, 52, 53, 54, 55, 56, 57] (by decide +kernel) (by decide +kernel)) (goodIn_sub (fun _ h => List.mem_cons_of_mem _ (List.mem_append_right _ h)) (by decide +kernel))
set_option maxRecDepth 20000 in
theorem gX9_collect_X9_begins : GoodIn wsX9_collect (wsV RX9 93 RX9 yX9_begins wsX9_begins) := goodIn_app (goodIn_of _ (by decide +kernel)) ggX9_collect_X9_begins
set_option maxRecDepth 20000 in
theorem ggX9_collect_X9_isIn : GoodIn wsX9_collect wsX9_isIn := goodIn_r _ [14] (by decide +kernel) (by decide +kernel)
set_option maxRecDepth 20000 in
theorem gX9_collect_X9_isIn : GoodIn wsX9_collect (va_wsS RX9 69 yX9_isIn wsX9_isIn) := goodIn_app (goodIn_of _ (by decide +kernel)) ggX9_collect_X9_isIn
set_option maxRecDepth 20000 in
theorem ggX9_collect_X9_hinders : GoodIn wsX9_collect wsX9_hinders := goodIn_r _ [18, 1, 19, 34, 35, 36, 37, 38, 39, 40, 41, 42, 43, 44, 45, 46, 47, 48, 49, 50, 51, 52, 53, 54, 55, 56, 57] (by decide +kernel) (by decide +kernel)
set_option maxRecDepth 20000 in
theorem gX9_collect_X9_hinders : GoodIn wsX9_collect (wsV RX9 96 RX9 yX9_hinders wsX9_hinders) := goodIn_app (goodIn_of _ (by decide +kernel)) ggX9_collect_X9_hinders
set_option maxRecDepth 20000 in
theorem ggX9_collect_X9_ends : GoodIn wsX9_collect wsX9_ends := goodIn_ca (goodIn_r _ [23, 1, 24, 25, 19, 26, 27, 8, 2, 9, 10, 6, 11, 28, 29, 30, 31, 32, 33, 34, 35, 36, 37, 38, 39, 40, 41, 42, 43, 44, 45, 46, 47, 48, 49, 50, 51, 52, 53, 54, 55, 56, 57] (by decide +kernel) (by decide +kernel)) (goodIn_sub (fun _ h => List.mem_cons_of_mem _ (List.mem_append_right _ h)) (by decide +kernel))
set_option maxRecDepth 20000 in
theorem gX9_collect_X9_ends : GoodIn wsX9_collect (wsV RX9 104 RX9 yX9_ends wsX9_ends) := goodIn_app (goodIn_of _ (by decide +kernel)) ggX9_collect_X9_ends
theorem dX9_collect_0 : decode cX9_collect 0 = .ok (.aload_n 0, 1) := by decide +kernel
theorem dX9_collect_1 : decode cX9_collect 1 = .ok (.invokevirtual 93, 3) := by decide +kernel
theorem dX9_collect_4 : decode cX9_collect 4 = .ok (.aload_n 0, 1) := by decide +kernel
theorem dX9_collect_5 : decode cX9_collect 5 = .ok (.iload_n 1, 1) := by decide +kernel
theorem dX9_collect_6 : decode cX9_collect 6 = .ok (.iconst 1, 1) := by decide +kernel
theorem dX9_collect_7 : decode cX9_collect 7 = .ok (.bipush 100, 2) := by decide +kernel
theorem dX9_collect_9 : decode cX9_collect 9 = .ok (.invokestatic 69, 3) := by decide +kernel
theorem dX9_collect_12 : decode cX9_collect 12 = .ok (.ifCond .ne 7, 3) := by decide +kernel
theorem dX9_collect_15 : decode cX9_collect 15 = .ok (.iconst 1, 1) := by decide +kernel
theorem dX9_collect_16 : decode cX9_collect 16 = .ok (.goto 4, 3) := by decide +kernel
theorem dX9_collect_19 : decode cX9_collect 19 = .ok (.iconst 0, 1) := by decide +kernel
theorem dX9_collect_20 : decode cX9_collect 20 = .ok (.iconst 1, 1) := by decide +kernel
theorem dX9_collect_21 : decode cX9_collect 21 = .ok (.iconst 0, 1) := by decide +kernel
theorem dX9_collect_22 : decode cX9_collect 22 = .ok (.invokevirtual 96, 3) := by decide +kernel
theorem dX9_collect_25 : decode cX9_collect 25 = .ok (.aload_n 0, 1) := by decide +kernel
theorem dX9_collect_26 : decode cX9_collect 26 = .ok (.aload_n 0, 1) := by decide +kernel
theorem dX9_collect_27 : decode cX9_collect 27 = .ok (.getfield 44, 3) := by decide +kernel
theorem dX9_collect_30 : decode cX9_collect 30 = .ok (.ifCond .ne 23, 3) := by decide +kernel
theorem dX9_collect_33 : decode cX9_collect 33 = .ok (.aload_n 0, 1) := by decide +kernel
theorem dX9_collect_34 : decode cX9_collect 34 = .ok (.getfield 9, 3) := by decide +kernel
theorem dX9_collect_37 : decode cX9_collect 37 = .ok (.sipush 209, 3) := by decide +kernel
theorem dX9_collect_40 : decode cX9_collect 40 = .ok (.iaload, 1) := by decide +kernel
theorem dX9_collect_41 : decode cX9_collect 41 = .ok (.iload_n 1, 1) := by decide +kernel
theorem dX9_collect_42 : decode cX9_collect 42 = .ok (.iadd, 1) := by decide +kernel
theorem dX9_collect_43 : decode cX9_collect 43 = .ok (.sipush 500, 3) := by decide +kernel
theorem dX9_collect_46 : decode cX9_collect 46 = .ok (.if_icmp .le 7, 3) := by decide +kernel
theorem dX9_collect_49 : decode cX9_collect 49 = .ok (.iconst 1, 1) := by decide +kernel
theorem dX9_collect_50 : decode cX9_collect 50 = .ok (.goto 4, 3) := by decide +kernel
theorem dX9_collect_53 : decode cX9_collect 53 = .ok (.iconst 0, 1) := by decide +kernel
theorem dX9_collect_54 : decode cX9_collect 54 = .ok (.iconst 2, 1) := by decide +kernel
theorem dX9_collect_55 : decode cX9_collect 55 = .ok (.sipush 500, 3) := by decide +kernel
theorem dX9_collect_58 : decode cX9_collect 58 = .ok (.invokevirtual 96, 3) := by decide +kernel
theorem dX9_collect_61 : decode cX9_collect 61 = .ok (.aload_n 0, 1) := by decide +kernel
theorem dX9_collect_62 : decode cX9_collect 62 = .ok (.getfield 9, 3) := by decide +kernel
theorem dX9_collect_65 : decode cX9_collect 65 = .ok (.sipush 209, 3) := by decide +kernel
theorem dX9_collect_68 : decode cX9_collect 68 = .ok (.dup2, 1) := by decide +kernel
theorem dX9_collect_69 : decode cX9_collect 69 = .ok (.iaload, 1) := by decide +kernel
theorem dX9_collect_70 : decode cX9_collect 70 = .ok (.iload_n 1, 1) := by decide +kernel
theorem dX9_collect_71 : decode cX9_collect 71 = .ok (.iadd, 1) := by decide +kernel
theorem dX9_collect_72 : decode cX9_collect 72 = .ok (.iastore, 1) := by decide +kernel
theorem dX9_collect_73 : decode cX9_collect 73 = .ok (.aload_n 0, 1) := by decide +kernel
theorem dX9_collect_74 : decode cX9_collect 74 = .ok (.aload_n 0, 1) := by decide +kernel
theorem dX9_collect_75 : decode cX9_collect 75 = .ok (.getfield 9, 3) := by decide +kernel
theorem dX9_collect_78 : decode cX9_collect 78 = .ok (.sipush 209, 3) := by decide +kernel
theorem dX9_collect_81 : decode cX9_collect 81 = .ok (.iaload, 1) := by decide +kernel
theorem dX9_collect_82 : decode cX9_collect 82 = .ok (.iconst 1, 1) := by decide +kernel
theorem dX9_collect_83 : decode cX9_collect 83 = .ok (.iconst 0, 1) := by decide +kernel
theorem dX9_collect_84 : decode cX9_collect 84 = .ok (.invokevirtual 104, 3) := by decide +kernel
theorem dX9_collect_87 : decode cX9_collect 87 = .ok (.ireturn, 1) := by decide +kernel
set_option maxRecDepth 20000 in
theorem ggX9_renews_X9_hinders : GoodIn wsX9_renews wsX9_hinders := goodIn_r _ [7, 2, 8, 13, 14, 15, 16, 17, 18, 19, 20, 21, 22, 23, 24, 25, 26, 27, 28, 29, 30, 31, 32, 33, 34, 35, 36] (by decide +kernel) (by decide +kernel)
set_option maxRecDepth 20000 in
theorem gX9_renews_X9_hinders : GoodIn wsX9_renews (wsV RX9 96 RX9 yX9_hinders wsX9_hinders) := goodIn_app (goodIn_of _ (by decide +kernel)) ggX9_renews_X9_hinders
set_option maxRecDepth 20000 in
theorem ggX9_renews_X9_notes : GoodIn wsX9_renews wsX9_notes := goodIn_ca (goodIn_r _ [12, 1, 13, 14, 15, 16, 17, 18, 19, 20, 21, 22, 23, 24, 25, 26, 27, 28, 29, 30, 31, 32, 33, 34, 35, 36] (by decide +kernel) (by decide +kernel)) (goodIn_sub (fun _ h => List.mem_cons_of_mem _ (List.mem_append_right _ h)) (by decide +kernel))
set_option maxRecDepth 20000 in
theorem gX9_renews_X9_notes : GoodIn wsX9_renews (wsV RX9 124 RX9 yX9_notes wsX9_notes) := goodIn_app (goodIn_of _ (by decide +kernel)) ggX9_renews_X9_notes
theorem dX9_renews_0 : decode cX9_renews 0 = .ok (.aload_n 0, 1) := by decide +kernel
theorem dX9_renews_1 : decode cX9_renews 1 = .ok (.aload_n 0, 1) := by decide +kernel
theorem dX9_renews_2 : decode cX9_renews 2 = .ok (.getfield 9, 3) := by decide +kernel
theorem dX9_renews_5 : decode cX9_renews 5 = .ok (.sipush 209, 3) := by decide +kernel
theorem dX9_renews_8 : decode cX9_renews 8 = .ok (.iaload, 1) := by decide +kernel
theorem dX9_renews_9 : decode cX9_renews 9 = .ok (.bipush 20, 2) := by decide +kernel
theorem dX9_renews_11 : decode cX9_renews 11 = .ok (.if_icmp .ge 7, 3) := by decide +kernel
theorem dX9_renews_14 : decode cX9_renews 14 = .ok (.iconst 1, 1) := by decide +kernel
theorem dX9_renews_15 : decode cX9_renews 15 = .ok (.goto 4, 3) := by decide +kernel
theorem dX9_renews_18 : decode cX9_renews 18 = .ok (.iconst 0, 1) := by decide +kernel
theorem dX9_renews_19 : decode cX9_renews 19 = .ok (.bipush 9, 2) := by decide +kernel
theorem dX9_renews_21 : decode cX9_renews 21 = .ok (.bipush 20, 2) := by decide +kernel
theorem dX9_renews_23 : decode cX9_renews 23 = .ok (.aload_n 0, 1) := by decide +kernel
theorem dX9_renews_24 : decode cX9_renews 24 = .ok (.getfield 9, 3) := by decide +kernel
theorem dX9_renews_27 : decode cX9_renews 27 = .ok (.sipush 209, 3) := by decide +kernel
theorem dX9_renews_30 : decode cX9_renews 30 = .ok (.iaload, 1) := by decide +kernel
theorem dX9_renews_31 : decode cX9_renews 31 = .ok (.isub, 1) := by decide +kernel
theorem dX9_renews_32 : decode cX9_renews 32 = .ok (.invokevirtual 96, 3) := by decide +kernel
theorem dX9_renews_35 : decode cX9_renews 35 = .ok (.aload_n 0, 1) := by decide +kernel
theorem dX9_renews_36 : decode cX9_renews 36 = .ok (.getfield 9, 3) := by decide +kernel
theorem dX9_renews_39 : decode cX9_renews 39 = .ok (.sipush 205, 3) := by decide +kernel
theorem dX9_renews_42 : decode cX9_renews 42 = .ok (.iaload, 1) := by decide +kernel
theorem dX9_renews_43 : decode cX9_renews 43 = .ok (.istore_n 1, 1) := by decide +kernel
theorem dX9_renews_44 : decode cX9_renews 44 = .ok (.aload_n 0, 1) := by decide +kernel
theorem dX9_renews_45 : decode cX9_renews 45 = .ok (.getfield 44, 3) := by decide +kernel
theorem dX9_renews_48 : decode cX9_renews 48 = .ok (.ifCond .ne 32, 3) := by decide +kernel
theorem dX9_renews_51 : decode cX9_renews 51 = .ok (.aload_n 0, 1) := by decide +kernel
theorem dX9_renews_52 : decode cX9_renews 52 = .ok (.getfield 9, 3) := by decide +kernel
theorem dX9_renews_55 : decode cX9_renews 55 = .ok (.sipush 209, 3) := by decide +kernel
theorem dX9_renews_58 : decode cX9_renews 58 = .ok (.dup2, 1) := by decide +kernel
theorem dX9_renews_59 : decode cX9_renews 59 = .ok (.iaload, 1) := by decide +kernel
theorem dX9_renews_60 : decode cX9_renews 60 = .ok (.bipush 20, 2) := by decide +kernel
theorem dX9_renews_62 : decode cX9_renews 62 = .ok (.isub, 1) := by decide +kernel
theorem dX9_renews_63 : decode cX9_renews 63 = .ok (.iastore, 1) := by decide +kernel
theorem dX9_renews_64 : decode cX9_renews 64 = .ok (.aload_n 0, 1) := by decide +kernel
theorem dX9_renews_65 : decode cX9_renews 65 = .ok (.getfield 9, 3) := by decide +kernel
theorem dX9_renews_68 : decode cX9_renews 68 = .ok (.sipush 205, 3) := by decide +kernel
theorem dX9_renews_71 : decode cX9_renews 71 = .ok (.iconst 0, 1) := by decide +kernel
theorem dX9_renews_72 : decode cX9_renews 72 = .ok (.iastore, 1) := by decide +kernel
theorem dX9_renews_73 : decode cX9_renews 73 = .ok (.aload_n 0, 1) := by decide +kernel
theorem dX9_renews_74 : decode cX9_renews 74 = .ok (.iconst 3, 1) := by decide +kernel
theorem dX9_renews_75 : decode cX9_renews 75 = .ok (.iconst 0, 1) := by decide +kernel
theorem dX9_renews_76 : decode cX9_renews 76 = .ok (.iconst 0, 1) := by decide +kernel
theorem dX9_renews_77 : decode cX9_renews 77 = .ok (.invokevirtual 124, 3) := by decide +kernel
theorem dX9_renews_80 : decode cX9_renews 80 = .ok (.iload_n 1, 1) := by decide +kernel
theorem dX9_renews_81 : decode cX9_renews 81 = .ok (.ireturn, 1) := by decide +kernel
set_option maxRecDepth 20000 in
theorem ggX9_leather_X9_begins : GoodIn wsX9_leather wsX9_begins := goodIn_ca (goodIn_r _ [5, 6, 7, 8, 9, 10, 4, 11, 39, 40, 41, 42, 43, 44, 45, 46, 47, 48, 49, 50, 51, 52, 53, 54, 55, 56, 57, 58, 59, 60, 61, 62] (by decide +kernel) (by decide +kernel)) (goodIn_sub (fun _ h => List.mem_cons_of_mem _ (List.mem_append_right _ h)) (by decide +kernel))
set_option maxRecDepth 20000 in
theorem gX9_leather_X9_begins : GoodIn wsX9_leather (wsV RX9 93 RX9 yX9_begins wsX9_begins) := goodIn_app (goodIn_of _ (by decide +kernel)) ggX9_leather_X9_begins
set_option maxRecDepth 20000 in
theorem ggX9_leather_X9_renews : GoodIn wsX9_leather wsX9_renews := goodIn_ca (goodIn_r _ [15, 6, 8, 16, 17, 18, 4, 19, 20, 21, 22, 23, 24, 39, 40, 41, 42, 43, 44, 45, 46, 47, 48, 49, 50, 51, 52, 53, 54, 55, 56, 57, 58, 59, 60, 61, 62] (by decide +kernel) (by decide +kernel)) (goodIn_sub (fun _ h => List.mem_cons_of_mem _ (List.mem_append_right _ h)) (by decide +kernel))
set_option maxRecDepth 20000 in
theorem gX9_leather_X9_renews : GoodIn wsX9_leather (wsV RX9 190 RX9 yX9_renews wsX9_renews) := goodIn_app (goodIn_of _ (by decide +kernel)) ggX9_leather_X9_renews
set_option maxRecDepth 20000 in
theorem ggX9_leather_X9_ends : GoodIn wsX9_leather wsX9_ends := goodIn_ca (goodIn_r _ [28, 8, 29, 30, 20, 31, 32, 7, 6, 9, 10, 4, 11, 33, 34, 35, 36, 37, 38, 39, 40, 41, 42, 43, 44, 45, 46, 47, 48, 49, 50, 51, 52, 53, 54, 55, 56, 57, 58, 59, 60, 61, 62] (by decide +kernel) (by decide +kernel)) (goodIn_sub (fun _ h => List.mem_cons_of_mem _ (List.mem_append_right _ h)) (by decide +kernel))
set_option maxRecDepth 20000 in
theorem gX9_leather_X9_ends : GoodIn wsX9_leather (wsV RX9 104 RX9 yX9_ends wsX9_ends) := goodIn_app (goodIn_of _ (by decide +kernel)) ggX9_leather_X9_ends
theorem dX9_leather_0 : decode cX9_leather 0 = .ok (.aload_n 0, 1) := by decide +kernel
theorem dX9_leather_1 : decode cX9_leather 1 = .ok (.invokevirtual 93, 3) := by decide +kernel
theorem dX9_leather_4 : decode cX9_leather 4 = .ok (.aload_n 0, 1) := by decide +kernel
theorem dX9_leather_5 : decode cX9_leather 5 = .ok (.aload_n 0, 1) := by decide +kernel
theorem dX9_leather_6 : decode cX9_leather 6 = .ok (.invokevirtual 190, 3) := by decide +kernel
theorem dX9_leather_9 : decode cX9_leather 9 = .ok (.iconst 1, 1) := by decide +kernel
theorem dX9_leather_10 : decode cX9_leather 10 = .ok (.iconst 0, 1) := by decide +kernel
theorem dX9_leather_11 : decode cX9_leather 11 = .ok (.invokevirtual 104, 3) := by decide +kernel
theorem dX9_leather_14 : decode cX9_leather 14 = .ok (.ireturn, 1) := by decide +kernel
set_option maxRecDepth 20000 in
theorem ggX9_householdOf_X9_isHousehold : GoodIn wsX9_householdOf wsX9_isHousehold := goodIn_ca (goodIn_r _ [6, 7, 8, 9, 5, 10, 35, 36, 37, 38, 39, 40, 41, 42, 43, 44, 45, 46, 47, 48, 49, 50, 51, 52, 53, 54, 55, 56, 57, 58] (by decide +kernel) (by decide +kernel)) (goodIn_sub (fun _ h => List.mem_cons_of_mem _ (List.mem_append_right _ h)) (by decide +kernel))
set_option maxRecDepth 20000 in
theorem gX9_householdOf_X9_isHousehold : GoodIn wsX9_householdOf (wsV RX9 127 RX9 yX9_isHousehold wsX9_isHousehold) := goodIn_app (goodIn_of _ (by decide +kernel)) ggX9_householdOf_X9_isHousehold
set_option maxRecDepth 20000 in
theorem ggX9_householdOf_X9_isIn : GoodIn wsX9_householdOf wsX9_isIn := goodIn_r _ [10] (by decide +kernel) (by decide +kernel)
set_option maxRecDepth 20000 in
theorem gX9_householdOf_X9_isIn : GoodIn wsX9_householdOf (va_wsS RX9 69 yX9_isIn wsX9_isIn) := goodIn_app (goodIn_of _ (by decide +kernel)) ggX9_householdOf_X9_isIn
set_option maxRecDepth 20000 in
theorem ggX9_householdOf_X9_of : GoodIn wsX9_householdOf wsX9_of := goodIn_ca (goodIn_r _ [14, 7, 35, 36, 37, 38, 39, 40, 41, 42, 43, 44, 45, 46, 47, 48, 49, 50, 51, 52, 53, 54, 55, 56, 57, 58] (by decide +kernel) (by decide +kernel)) (goodIn_sub (fun _ h => List.mem_cons_of_mem _ (List.mem_append_right _ h)) (by decide +kernel))
set_option maxRecDepth 20000 in
theorem gX9_householdOf_X9_of : GoodIn wsX9_householdOf (wsV RX9 77 RX9 yX9_of wsX9_of) := goodIn_app (goodIn_of _ (by decide +kernel)) ggX9_householdOf_X9_of
set_option maxRecDepth 20000 in
theorem ggX9_householdOf_X9_turns : GoodIn wsX9_householdOf wsX9_turns := goodIn_ca (goodIn_r _ [18, 7, 19, 20, 21, 5, 22, 11, 12, 13, 14, 35, 36, 37, 38, 39, 40, 41, 42, 43, 44, 45, 46, 47, 48, 49, 50, 51, 52, 53, 54, 55, 56, 57, 58] (by decide +kernel) (by decide +kernel)) (goodIn_sub (fun _ h => List.mem_cons_of_mem _ (List.mem_append_right _ h)) (by decide +kernel))
set_option maxRecDepth 20000 in
theorem gX9_householdOf_X9_turns : GoodIn wsX9_householdOf (wsV RX9 84 RX9 yX9_turns wsX9_turns) := goodIn_app (goodIn_of _ (by decide +kernel)) ggX9_householdOf_X9_turns
set_option maxRecDepth 20000 in
theorem ggX9_householdOf_X9_left : GoodIn wsX9_householdOf wsX9_left := goodIn_ca (goodIn_r _ [26, 27, 28, 29, 30, 15, 16, 17, 5, 18, 7, 19, 20, 21, 22, 11, 12, 13, 14, 35, 36, 37, 38, 39, 40, 41, 42, 43, 44, 45, 46, 47, 48, 49, 50, 51, 52, 53, 54, 55, 56, 57, 58] (by decide +kernel) (by decide +kernel)) (goodIn_sub (fun _ h => List.mem_cons_of_mem _ (List.mem_append_right _ h)) (by decide +kernel))
set_option maxRecDepth 20000 in
theorem gX9_householdOf_X9_left : GoodIn wsX9_householdOf (wsV RX9 134 RX9 yX9_left wsX9_left) := goodIn_app (goodIn_of _ (by decide +kernel)) ggX9_householdOf_X9_left
set_option maxRecDepth 20000 in
theorem ggX9_householdOf_X9_placeOf : GoodIn wsX9_householdOf wsX9_placeOf := goodIn_ca (goodIn_r _ [34, 7, 35, 36, 37, 38, 39, 40, 41, 42, 43, 44, 45, 46, 47, 48, 49, 50, 51, 52, 53, 54, 55, 56, 57, 58] (by decide +kernel) (by decide +kernel)) (goodIn_sub (fun _ h => List.mem_cons_of_mem _ (List.mem_append_right _ h)) (by decide +kernel))
set_option maxRecDepth 20000 in
theorem gX9_householdOf_X9_placeOf : GoodIn wsX9_householdOf (wsV RX9 131 RX9 yX9_placeOf wsX9_placeOf) := goodIn_app (goodIn_of _ (by decide +kernel)) ggX9_householdOf_X9_placeOf
theorem dX9_householdOf_0 : decode cX9_householdOf 0 = .ok (.aload_n 0, 1) := by decide +kernel
theorem dX9_householdOf_1 : decode cX9_householdOf 1 = .ok (.aload_n 0, 1) := by decide +kernel
theorem dX9_householdOf_2 : decode cX9_householdOf 2 = .ok (.iload_n 1, 1) := by decide +kernel
theorem dX9_householdOf_3 : decode cX9_householdOf 3 = .ok (.invokevirtual 127, 3) := by decide +kernel
theorem dX9_householdOf_6 : decode cX9_householdOf 6 = .ok (.ifCond .ne 7, 3) := by decide +kernel
theorem dX9_householdOf_9 : decode cX9_householdOf 9 = .ok (.iconst 1, 1) := by decide +kernel
theorem dX9_householdOf_10 : decode cX9_householdOf 10 = .ok (.goto 18, 3) := by decide +kernel
theorem dX9_householdOf_13 : decode cX9_householdOf 13 = .ok (.iload_n 2, 1) := by decide +kernel
theorem dX9_householdOf_14 : decode cX9_householdOf 14 = .ok (.iconst 0, 1) := by decide +kernel
theorem dX9_householdOf_15 : decode cX9_householdOf 15 = .ok (.bipush 8, 2) := by decide +kernel
theorem dX9_householdOf_17 : decode cX9_householdOf 17 = .ok (.invokestatic 69, 3) := by decide +kernel
theorem dX9_householdOf_20 : decode cX9_householdOf 20 = .ok (.ifCond .ne 7, 3) := by decide +kernel
theorem dX9_householdOf_23 : decode cX9_householdOf 23 = .ok (.iconst 2, 1) := by decide +kernel
theorem dX9_householdOf_24 : decode cX9_householdOf 24 = .ok (.goto 4, 3) := by decide +kernel
theorem dX9_householdOf_27 : decode cX9_householdOf 27 = .ok (.iconst 0, 1) := by decide +kernel
theorem dX9_householdOf_28 : decode cX9_householdOf 28 = .ok (.putfield 41, 3) := by decide +kernel
theorem dX9_householdOf_31 : decode cX9_householdOf 31 = .ok (.aload_n 0, 1) := by decide +kernel
theorem dX9_householdOf_32 : decode cX9_householdOf 32 = .ok (.getfield 41, 3) := by decide +kernel
theorem dX9_householdOf_35 : decode cX9_householdOf 35 = .ok (.ifCond .eq 5, 3) := by decide +kernel
theorem dX9_householdOf_38 : decode cX9_householdOf 38 = .ok (.iconst 0, 1) := by decide +kernel
theorem dX9_householdOf_39 : decode cX9_householdOf 39 = .ok (.ireturn, 1) := by decide +kernel
theorem dX9_householdOf_40 : decode cX9_householdOf 40 = .ok (.iload_n 2, 1) := by decide +kernel
theorem dX9_householdOf_41 : decode cX9_householdOf 41 = .ok (.tableswitch 76 0 8 #[51, 51, 51, 58, 64, 76, 76, 76, 70], 51) := by decide +kernel
theorem dX9_householdOf_92 : decode cX9_householdOf 92 = .ok (.aload_n 0, 1) := by decide +kernel
theorem dX9_householdOf_93 : decode cX9_householdOf 93 = .ok (.iload_n 1, 1) := by decide +kernel
theorem dX9_householdOf_94 : decode cX9_householdOf 94 = .ok (.iload_n 2, 1) := by decide +kernel
theorem dX9_householdOf_95 : decode cX9_householdOf 95 = .ok (.invokevirtual 77, 3) := by decide +kernel
theorem dX9_householdOf_98 : decode cX9_householdOf 98 = .ok (.ireturn, 1) := by decide +kernel
theorem dX9_householdOf_99 : decode cX9_householdOf 99 = .ok (.aload_n 0, 1) := by decide +kernel
theorem dX9_householdOf_100 : decode cX9_householdOf 100 = .ok (.iload_n 1, 1) := by decide +kernel
theorem dX9_householdOf_101 : decode cX9_householdOf 101 = .ok (.invokevirtual 84, 3) := by decide +kernel
theorem dX9_householdOf_104 : decode cX9_householdOf 104 = .ok (.ireturn, 1) := by decide +kernel
theorem dX9_householdOf_105 : decode cX9_householdOf 105 = .ok (.aload_n 0, 1) := by decide +kernel
theorem dX9_householdOf_106 : decode cX9_householdOf 106 = .ok (.iload_n 1, 1) := by decide +kernel
theorem dX9_householdOf_107 : decode cX9_householdOf 107 = .ok (.invokevirtual 134, 3) := by decide +kernel
theorem dX9_householdOf_110 : decode cX9_householdOf 110 = .ok (.ireturn, 1) := by decide +kernel
theorem dX9_householdOf_111 : decode cX9_householdOf 111 = .ok (.aload_n 0, 1) := by decide +kernel
theorem dX9_householdOf_112 : decode cX9_householdOf 112 = .ok (.iload_n 1, 1) := by decide +kernel
theorem dX9_householdOf_113 : decode cX9_householdOf 113 = .ok (.invokevirtual 131, 3) := by decide +kernel
theorem dX9_householdOf_116 : decode cX9_householdOf 116 = .ok (.ireturn, 1) := by decide +kernel
theorem dX9_householdOf_117 : decode cX9_householdOf 117 = .ok (.aload_n 0, 1) := by decide +kernel
theorem dX9_householdOf_118 : decode cX9_householdOf 118 = .ok (.iload_n 1, 1) := by decide +kernel
theorem dX9_householdOf_119 : decode cX9_householdOf 119 = .ok (.iload_n 2, 1) := by decide +kernel
theorem dX9_householdOf_120 : decode cX9_householdOf 120 = .ok (.iconst 2, 1) := by decide +kernel
theorem dX9_householdOf_121 : decode cX9_householdOf 121 = .ok (.isub, 1) := by decide +kernel
theorem dX9_householdOf_122 : decode cX9_householdOf 122 = .ok (.invokevirtual 77, 3) := by decide +kernel
theorem dX9_householdOf_125 : decode cX9_householdOf 125 = .ok (.ireturn, 1) := by decide +kernel
set_option maxRecDepth 20000 in
theorem ggX9_at_X9_isIn : GoodIn wsX9_at wsX9_isIn := goodIn_r _ [6] (by decide +kernel) (by decide +kernel)
set_option maxRecDepth 20000 in
theorem gX9_at_X9_isIn : GoodIn wsX9_at (va_wsS RX9 69 yX9_isIn wsX9_isIn) := goodIn_app (goodIn_of _ (by decide +kernel)) ggX9_at_X9_isIn
theorem dX9_at_0 : decode cX9_at 0 = .ok (.aload_n 0, 1) := by decide +kernel
theorem dX9_at_1 : decode cX9_at 1 = .ok (.iload_n 1, 1) := by decide +kernel
theorem dX9_at_2 : decode cX9_at 2 = .ok (.iconst 0, 1) := by decide +kernel
theorem dX9_at_3 : decode cX9_at 3 = .ok (.aload_n 0, 1) := by decide +kernel
theorem dX9_at_4 : decode cX9_at 4 = .ok (.getfield 9, 3) := by decide +kernel
theorem dX9_at_7 : decode cX9_at 7 = .ok (.bipush 49, 2) := by decide +kernel
theorem dX9_at_9 : decode cX9_at 9 = .ok (.iaload, 1) := by decide +kernel
theorem dX9_at_10 : decode cX9_at 10 = .ok (.iconst 1, 1) := by decide +kernel
theorem dX9_at_11 : decode cX9_at 11 = .ok (.isub, 1) := by decide +kernel
theorem dX9_at_12 : decode cX9_at 12 = .ok (.invokestatic 69, 3) := by decide +kernel
theorem dX9_at_15 : decode cX9_at 15 = .ok (.ifCond .eq 7, 3) := by decide +kernel
theorem dX9_at_18 : decode cX9_at 18 = .ok (.iconst 0, 1) := by decide +kernel
theorem dX9_at_19 : decode cX9_at 19 = .ok (.goto 4, 3) := by decide +kernel
theorem dX9_at_22 : decode cX9_at 22 = .ok (.iconst 1, 1) := by decide +kernel
theorem dX9_at_23 : decode cX9_at 23 = .ok (.putfield 41, 3) := by decide +kernel
theorem dX9_at_26 : decode cX9_at 26 = .ok (.aload_n 0, 1) := by decide +kernel
theorem dX9_at_27 : decode cX9_at 27 = .ok (.getfield 41, 3) := by decide +kernel
theorem dX9_at_30 : decode cX9_at 30 = .ok (.ifCond .ne 15, 3) := by decide +kernel
theorem dX9_at_33 : decode cX9_at 33 = .ok (.aload_n 0, 1) := by decide +kernel
theorem dX9_at_34 : decode cX9_at 34 = .ok (.getfield 9, 3) := by decide +kernel
theorem dX9_at_37 : decode cX9_at 37 = .ok (.bipush 50, 2) := by decide +kernel
theorem dX9_at_39 : decode cX9_at 39 = .ok (.iload_n 1, 1) := by decide +kernel
theorem dX9_at_40 : decode cX9_at 40 = .ok (.iadd, 1) := by decide +kernel
theorem dX9_at_41 : decode cX9_at 41 = .ok (.iaload, 1) := by decide +kernel
theorem dX9_at_42 : decode cX9_at 42 = .ok (.goto 4, 3) := by decide +kernel
theorem dX9_at_45 : decode cX9_at 45 = .ok (.iconst 0, 1) := by decide +kernel
theorem dX9_at_46 : decode cX9_at 46 = .ok (.ireturn, 1) := by decide +kernel
set_option maxRecDepth 20000 in
theorem ggX9_neighbours_X9_isHousehold : GoodIn wsX9_neighbours wsX9_isHousehold := goodIn_ca (goodIn_r _ [7, 2, 8, 9, 6, 10, 27, 28, 29, 30, 31, 32, 33, 34, 35, 36, 37, 38, 39, 40, 41, 42, 43, 44, 45, 46, 47, 48, 49, 50] (by decide +kernel) (by decide +kernel)) (goodIn_sub (fun _ h => List.mem_cons_of_mem _ (List.mem_append_right _ h)) (by decide +kernel))
set_option maxRecDepth 20000 in
theorem gX9_neighbours_X9_isHousehold : GoodIn wsX9_neighbours (wsV RX9 127 RX9 yX9_isHousehold wsX9_isHousehold) := goodIn_app (goodIn_of _ (by decide +kernel)) ggX9_neighbours_X9_isHousehold
set_option maxRecDepth 20000 in
theorem ggX9_neighbours_X9_areNear : GoodIn wsX9_neighbours wsX9_areNear := goodIn_ca (goodIn_r _ [14, 15, 16, 17, 6, 18, 19, 20, 21, 22, 23, 24, 25, 26, 2, 27, 28, 29, 30, 31, 32, 33, 34, 35, 36, 37, 38, 39, 40, 41, 42, 43, 44, 45, 46, 47, 48, 49, 50] (by decide +kernel) (by decide +kernel)) (goodIn_sub (fun _ h => List.mem_cons_of_mem _ (List.mem_append_right _ h)) (by decide +kernel))
set_option maxRecDepth 20000 in
theorem gX9_neighbours_X9_areNear : GoodIn wsX9_neighbours (wsV RX9 114 RX9 yX9_areNear wsX9_areNear) := goodIn_app (goodIn_of _ (by decide +kernel)) ggX9_neighbours_X9_areNear
theorem dX9_neighbours_0 : decode cX9_neighbours 0 = .ok (.aload_n 0, 1) := by decide +kernel
theorem dX9_neighbours_1 : decode cX9_neighbours 1 = .ok (.aload_n 0, 1) := by decide +kernel
theorem dX9_neighbours_2 : decode cX9_neighbours 2 = .ok (.iload_n 1, 1) := by decide +kernel
theorem dX9_neighbours_3 : decode cX9_neighbours 3 = .ok (.invokevirtual 127, 3) := by decide +kernel
theorem dX9_neighbours_6 : decode cX9_neighbours 6 = .ok (.ifCond .eq 7, 3) := by decide +kernel
theorem dX9_neighbours_9 : decode cX9_neighbours 9 = .ok (.iconst 0, 1) := by decide +kernel
theorem dX9_neighbours_10 : decode cX9_neighbours 10 = .ok (.goto 4, 3) := by decide +kernel
theorem dX9_neighbours_13 : decode cX9_neighbours 13 = .ok (.iconst 1, 1) := by decide +kernel
theorem dX9_neighbours_14 : decode cX9_neighbours 14 = .ok (.putfield 41, 3) := by decide +kernel
theorem dX9_neighbours_17 : decode cX9_neighbours 17 = .ok (.iconst 0, 1) := by decide +kernel
theorem dX9_neighbours_18 : decode cX9_neighbours 18 = .ok (.istore_n 2, 1) := by decide +kernel
theorem dX9_neighbours_19 : decode cX9_neighbours 19 = .ok (.iconst 0, 1) := by decide +kernel
theorem dX9_neighbours_20 : decode cX9_neighbours 20 = .ok (.istore_n 3, 1) := by decide +kernel
theorem dX9_neighbours_21 : decode cX9_neighbours 21 = .ok (.iload_n 3, 1) := by decide +kernel
theorem dX9_neighbours_22 : decode cX9_neighbours 22 = .ok (.aload_n 0, 1) := by decide +kernel
theorem dX9_neighbours_23 : decode cX9_neighbours 23 = .ok (.getfield 9, 3) := by decide +kernel
theorem dX9_neighbours_26 : decode cX9_neighbours 26 = .ok (.iconst 0, 1) := by decide +kernel
theorem dX9_neighbours_27 : decode cX9_neighbours 27 = .ok (.iaload, 1) := by decide +kernel
theorem dX9_neighbours_28 : decode cX9_neighbours 28 = .ok (.if_icmp .ge 35, 3) := by decide +kernel
theorem dX9_neighbours_31 : decode cX9_neighbours 31 = .ok (.aload_n 0, 1) := by decide +kernel
theorem dX9_neighbours_32 : decode cX9_neighbours 32 = .ok (.getfield 41, 3) := by decide +kernel
theorem dX9_neighbours_35 : decode cX9_neighbours 35 = .ok (.ifCond .ne 28, 3) := by decide +kernel
theorem dX9_neighbours_38 : decode cX9_neighbours 38 = .ok (.iload_n 2, 1) := by decide +kernel
theorem dX9_neighbours_39 : decode cX9_neighbours 39 = .ok (.aload_n 0, 1) := by decide +kernel
theorem dX9_neighbours_40 : decode cX9_neighbours 40 = .ok (.iload_n 1, 1) := by decide +kernel
theorem dX9_neighbours_41 : decode cX9_neighbours 41 = .ok (.iload_n 3, 1) := by decide +kernel
theorem dX9_neighbours_42 : decode cX9_neighbours 42 = .ok (.invokevirtual 114, 3) := by decide +kernel
theorem dX9_neighbours_45 : decode cX9_neighbours 45 = .ok (.ifCond .eq 9, 3) := by decide +kernel
theorem dX9_neighbours_48 : decode cX9_neighbours 48 = .ok (.iconst 1, 1) := by decide +kernel
theorem dX9_neighbours_49 : decode cX9_neighbours 49 = .ok (.iload_n 3, 1) := by decide +kernel
theorem dX9_neighbours_50 : decode cX9_neighbours 50 = .ok (.ishl, 1) := by decide +kernel
theorem dX9_neighbours_51 : decode cX9_neighbours 51 = .ok (.goto 4, 3) := by decide +kernel
theorem dX9_neighbours_54 : decode cX9_neighbours 54 = .ok (.iconst 0, 1) := by decide +kernel
theorem dX9_neighbours_55 : decode cX9_neighbours 55 = .ok (.ior, 1) := by decide +kernel
theorem dX9_neighbours_56 : decode cX9_neighbours 56 = .ok (.istore_n 2, 1) := by decide +kernel
theorem dX9_neighbours_57 : decode cX9_neighbours 57 = .ok (.iinc 3 1, 3) := by decide +kernel
theorem dX9_neighbours_60 : decode cX9_neighbours 60 = .ok (.goto (-39), 3) := by decide +kernel
theorem dX9_neighbours_63 : decode cX9_neighbours 63 = .ok (.iload_n 2, 1) := by decide +kernel
theorem dX9_neighbours_64 : decode cX9_neighbours 64 = .ok (.ireturn, 1) := by decide +kernel
set_option maxRecDepth 20000 in
theorem ggX9_quarrels_X9_isHousehold : GoodIn wsX9_quarrels wsX9_isHousehold := goodIn_ca (goodIn_r _ [7, 2, 8, 9, 6, 10, 11, 12, 13, 14, 15, 16, 17, 18, 19, 20, 21, 22, 23, 24, 25, 26, 27, 28, 29, 30, 31, 32, 33, 34] (by decide +kernel) (by decide +kernel)) (goodIn_sub (fun _ h => List.mem_cons_of_mem _ (List.mem_append_right _ h)) (by decide +kernel))
set_option maxRecDepth 20000 in
theorem gX9_quarrels_X9_isHousehold : GoodIn wsX9_quarrels (wsV RX9 127 RX9 yX9_isHousehold wsX9_isHousehold) := goodIn_app (goodIn_of _ (by decide +kernel)) ggX9_quarrels_X9_isHousehold
theorem dX9_quarrels_0 : decode cX9_quarrels 0 = .ok (.aload_n 0, 1) := by decide +kernel
theorem dX9_quarrels_1 : decode cX9_quarrels 1 = .ok (.aload_n 0, 1) := by decide +kernel
theorem dX9_quarrels_2 : decode cX9_quarrels 2 = .ok (.iload_n 1, 1) := by decide +kernel
theorem dX9_quarrels_3 : decode cX9_quarrels 3 = .ok (.invokevirtual 127, 3) := by decide +kernel
theorem dX9_quarrels_6 : decode cX9_quarrels 6 = .ok (.ifCond .eq 15, 3) := by decide +kernel
theorem dX9_quarrels_9 : decode cX9_quarrels 9 = .ok (.aload_n 0, 1) := by decide +kernel
theorem dX9_quarrels_10 : decode cX9_quarrels 10 = .ok (.iload_n 2, 1) := by decide +kernel
theorem dX9_quarrels_11 : decode cX9_quarrels 11 = .ok (.invokevirtual 127, 3) := by decide +kernel
theorem dX9_quarrels_14 : decode cX9_quarrels 14 = .ok (.ifCond .eq 7, 3) := by decide +kernel
theorem dX9_quarrels_17 : decode cX9_quarrels 17 = .ok (.iconst 0, 1) := by decide +kernel
theorem dX9_quarrels_18 : decode cX9_quarrels 18 = .ok (.goto 4, 3) := by decide +kernel
theorem dX9_quarrels_21 : decode cX9_quarrels 21 = .ok (.iconst 1, 1) := by decide +kernel
theorem dX9_quarrels_22 : decode cX9_quarrels 22 = .ok (.putfield 41, 3) := by decide +kernel
theorem dX9_quarrels_25 : decode cX9_quarrels 25 = .ok (.aload_n 0, 1) := by decide +kernel
theorem dX9_quarrels_26 : decode cX9_quarrels 26 = .ok (.getfield 41, 3) := by decide +kernel
theorem dX9_quarrels_29 : decode cX9_quarrels 29 = .ok (.ifCond .ne 20, 3) := by decide +kernel
theorem dX9_quarrels_32 : decode cX9_quarrels 32 = .ok (.aload_n 0, 1) := by decide +kernel
theorem dX9_quarrels_33 : decode cX9_quarrels 33 = .ok (.getfield 9, 3) := by decide +kernel
theorem dX9_quarrels_36 : decode cX9_quarrels 36 = .ok (.bipush 58, 2) := by decide +kernel
theorem dX9_quarrels_38 : decode cX9_quarrels 38 = .ok (.bipush 8, 2) := by decide +kernel
theorem dX9_quarrels_40 : decode cX9_quarrels 40 = .ok (.iload_n 1, 1) := by decide +kernel
theorem dX9_quarrels_41 : decode cX9_quarrels 41 = .ok (.imul, 1) := by decide +kernel
theorem dX9_quarrels_42 : decode cX9_quarrels 42 = .ok (.iadd, 1) := by decide +kernel
theorem dX9_quarrels_43 : decode cX9_quarrels 43 = .ok (.iload_n 2, 1) := by decide +kernel
theorem dX9_quarrels_44 : decode cX9_quarrels 44 = .ok (.iadd, 1) := by decide +kernel
theorem dX9_quarrels_45 : decode cX9_quarrels 45 = .ok (.iaload, 1) := by decide +kernel
theorem dX9_quarrels_46 : decode cX9_quarrels 46 = .ok (.goto 4, 3) := by decide +kernel
theorem dX9_quarrels_49 : decode cX9_quarrels 49 = .ok (.iconst 0, 1) := by decide +kernel
theorem dX9_quarrels_50 : decode cX9_quarrels 50 = .ok (.ireturn, 1) := by decide +kernel
set_option maxRecDepth 20000 in
theorem ggX9_wouldWin_X9_isHousehold : GoodIn wsX9_wouldWin wsX9_isHousehold := goodIn_ca (goodIn_r _ [6, 7, 8, 9, 5, 10, 27, 28, 29, 30, 31, 32, 33, 34, 35, 36, 37, 38, 39, 40, 41, 42, 43, 44, 45, 46, 47, 48, 49, 50] (by decide +kernel) (by decide +kernel)) (goodIn_sub (fun _ h => List.mem_cons_of_mem _ (List.mem_append_right _ h)) (by decide +kernel))
set_option maxRecDepth 20000 in
theorem gX9_wouldWin_X9_isHousehold : GoodIn wsX9_wouldWin (wsV RX9 127 RX9 yX9_isHousehold wsX9_isHousehold) := goodIn_app (goodIn_of _ (by decide +kernel)) ggX9_wouldWin_X9_isHousehold
set_option maxRecDepth 20000 in
theorem ggX9_wouldWin_X9_winner : GoodIn wsX9_wouldWin wsX9_winner := goodIn_ca (goodIn_r _ [14, 7, 15, 16, 17, 5, 18, 19, 20, 21, 22, 23, 24, 25, 26, 27, 28, 29, 30, 31, 32, 33, 34, 35, 36, 37, 38, 39, 40, 41, 42, 43, 44, 45, 46, 47, 48, 49, 50] (by decide +kernel) (by decide +kernel)) (goodIn_sub (fun _ h => List.mem_cons_of_mem _ (List.mem_append_right _ h)) (by decide +kernel))
set_option maxRecDepth 20000 in
theorem gX9_wouldWin_X9_winner : GoodIn wsX9_wouldWin (wsV RX9 118 RX9 yX9_winner wsX9_winner) := goodIn_app (goodIn_of _ (by decide +kernel)) ggX9_wouldWin_X9_winner
theorem dX9_wouldWin_0 : decode cX9_wouldWin 0 = .ok (.aload_n 0, 1) := by decide +kernel
theorem dX9_wouldWin_1 : decode cX9_wouldWin 1 = .ok (.aload_n 0, 1) := by decide +kernel
theorem dX9_wouldWin_2 : decode cX9_wouldWin 2 = .ok (.iload_n 1, 1) := by decide +kernel
theorem dX9_wouldWin_3 : decode cX9_wouldWin 3 = .ok (.invokevirtual 127, 3) := by decide +kernel
theorem dX9_wouldWin_6 : decode cX9_wouldWin 6 = .ok (.ifCond .eq 11, 3) := by decide +kernel
theorem dX9_wouldWin_9 : decode cX9_wouldWin 9 = .ok (.aload_n 0, 1) := by decide +kernel
theorem dX9_wouldWin_10 : decode cX9_wouldWin 10 = .ok (.iload_n 2, 1) := by decide +kernel
theorem dX9_wouldWin_11 : decode cX9_wouldWin 11 = .ok (.invokevirtual 127, 3) := by decide +kernel
theorem dX9_wouldWin_14 : decode cX9_wouldWin 14 = .ok (.ifCond .ne 7, 3) := by decide +kernel
theorem dX9_wouldWin_17 : decode cX9_wouldWin 17 = .ok (.iconst 1, 1) := by decide +kernel
theorem dX9_wouldWin_18 : decode cX9_wouldWin 18 = .ok (.goto 13, 3) := by decide +kernel
theorem dX9_wouldWin_21 : decode cX9_wouldWin 21 = .ok (.iload_n 1, 1) := by decide +kernel
theorem dX9_wouldWin_22 : decode cX9_wouldWin 22 = .ok (.iload_n 2, 1) := by decide +kernel
theorem dX9_wouldWin_23 : decode cX9_wouldWin 23 = .ok (.if_icmp .ne 7, 3) := by decide +kernel
theorem dX9_wouldWin_26 : decode cX9_wouldWin 26 = .ok (.iconst 2, 1) := by decide +kernel
theorem dX9_wouldWin_27 : decode cX9_wouldWin 27 = .ok (.goto 4, 3) := by decide +kernel
theorem dX9_wouldWin_30 : decode cX9_wouldWin 30 = .ok (.iconst 0, 1) := by decide +kernel
theorem dX9_wouldWin_31 : decode cX9_wouldWin 31 = .ok (.putfield 41, 3) := by decide +kernel
theorem dX9_wouldWin_34 : decode cX9_wouldWin 34 = .ok (.aload_n 0, 1) := by decide +kernel
theorem dX9_wouldWin_35 : decode cX9_wouldWin 35 = .ok (.getfield 41, 3) := by decide +kernel
theorem dX9_wouldWin_38 : decode cX9_wouldWin 38 = .ok (.ifCond .ne 12, 3) := by decide +kernel
theorem dX9_wouldWin_41 : decode cX9_wouldWin 41 = .ok (.aload_n 0, 1) := by decide +kernel
theorem dX9_wouldWin_42 : decode cX9_wouldWin 42 = .ok (.iload_n 1, 1) := by decide +kernel
theorem dX9_wouldWin_43 : decode cX9_wouldWin 43 = .ok (.iload_n 2, 1) := by decide +kernel
theorem dX9_wouldWin_44 : decode cX9_wouldWin 44 = .ok (.invokevirtual 118, 3) := by decide +kernel
theorem dX9_wouldWin_47 : decode cX9_wouldWin 47 = .ok (.goto 4, 3) := by decide +kernel
theorem dX9_wouldWin_50 : decode cX9_wouldWin 50 = .ok (.iconst 0, 1) := by decide +kernel
theorem dX9_wouldWin_51 : decode cX9_wouldWin 51 = .ok (.ireturn, 1) := by decide +kernel
set_option maxRecDepth 20000 in
theorem ggX9_turnsBy_X9_isHousehold : GoodIn wsX9_turnsBy wsX9_isHousehold := goodIn_ca (goodIn_r _ [6, 7, 8, 9, 5, 10, 19, 20, 21, 22, 23, 24, 25, 26, 27, 28, 29, 30, 31, 32, 33, 34, 35, 36, 37, 38, 39, 40, 41, 42] (by decide +kernel) (by decide +kernel)) (goodIn_sub (fun _ h => List.mem_cons_of_mem _ (List.mem_append_right _ h)) (by decide +kernel))
set_option maxRecDepth 20000 in
theorem gX9_turnsBy_X9_isHousehold : GoodIn wsX9_turnsBy (wsV RX9 127 RX9 yX9_isHousehold wsX9_isHousehold) := goodIn_app (goodIn_of _ (by decide +kernel)) ggX9_turnsBy_X9_isHousehold
set_option maxRecDepth 20000 in
theorem ggX9_turnsBy_X9_isIn : GoodIn wsX9_turnsBy wsX9_isIn := goodIn_r _ [10] (by decide +kernel) (by decide +kernel)
set_option maxRecDepth 20000 in
theorem gX9_turnsBy_X9_isIn : GoodIn wsX9_turnsBy (va_wsS RX9 69 yX9_isIn wsX9_isIn) := goodIn_app (goodIn_of _ (by decide +kernel)) ggX9_turnsBy_X9_isIn
set_option maxRecDepth 20000 in
theorem ggX9_turnsBy_X9_turnsByLaw : GoodIn wsX9_turnsBy wsX9_turnsByLaw := goodIn_ca (goodIn_r _ [14, 15, 16, 17, 5, 18, 7, 19, 20, 21, 22, 23, 24, 25, 26, 27, 28, 29, 30, 31, 32, 33, 34, 35, 36, 37, 38, 39, 40, 41, 42] (by decide +kernel) (by decide +kernel)) (goodIn_sub (fun _ h => List.mem_cons_of_mem _ (List.mem_append_right _ h)) (by decide +kernel))
set_option maxRecDepth 20000 in
theorem gX9_turnsBy_X9_turnsByLaw : GoodIn wsX9_turnsBy (wsV RX9 81 RX9 yX9_turnsByLaw wsX9_turnsByLaw) := goodIn_app (goodIn_of _ (by decide +kernel)) ggX9_turnsBy_X9_turnsByLaw
theorem dX9_turnsBy_0 : decode cX9_turnsBy 0 = .ok (.aload_n 0, 1) := by decide +kernel
theorem dX9_turnsBy_1 : decode cX9_turnsBy 1 = .ok (.aload_n 0, 1) := by decide +kernel
theorem dX9_turnsBy_2 : decode cX9_turnsBy 2 = .ok (.iload_n 1, 1) := by decide +kernel
theorem dX9_turnsBy_3 : decode cX9_turnsBy 3 = .ok (.invokevirtual 127, 3) := by decide +kernel
theorem dX9_turnsBy_6 : decode cX9_turnsBy 6 = .ok (.ifCond .ne 7, 3) := by decide +kernel
theorem dX9_turnsBy_9 : decode cX9_turnsBy 9 = .ok (.iconst 1, 1) := by decide +kernel
theorem dX9_turnsBy_10 : decode cX9_turnsBy 10 = .ok (.goto 17, 3) := by decide +kernel
theorem dX9_turnsBy_13 : decode cX9_turnsBy 13 = .ok (.iload_n 2, 1) := by decide +kernel
theorem dX9_turnsBy_14 : decode cX9_turnsBy 14 = .ok (.iconst 0, 1) := by decide +kernel
theorem dX9_turnsBy_15 : decode cX9_turnsBy 15 = .ok (.iconst 3, 1) := by decide +kernel
theorem dX9_turnsBy_16 : decode cX9_turnsBy 16 = .ok (.invokestatic 69, 3) := by decide +kernel
theorem dX9_turnsBy_19 : decode cX9_turnsBy 19 = .ok (.ifCond .ne 7, 3) := by decide +kernel
theorem dX9_turnsBy_22 : decode cX9_turnsBy 22 = .ok (.iconst 2, 1) := by decide +kernel
theorem dX9_turnsBy_23 : decode cX9_turnsBy 23 = .ok (.goto 4, 3) := by decide +kernel
theorem dX9_turnsBy_26 : decode cX9_turnsBy 26 = .ok (.iconst 0, 1) := by decide +kernel
theorem dX9_turnsBy_27 : decode cX9_turnsBy 27 = .ok (.putfield 41, 3) := by decide +kernel
theorem dX9_turnsBy_30 : decode cX9_turnsBy 30 = .ok (.aload_n 0, 1) := by decide +kernel
theorem dX9_turnsBy_31 : decode cX9_turnsBy 31 = .ok (.getfield 41, 3) := by decide +kernel
theorem dX9_turnsBy_34 : decode cX9_turnsBy 34 = .ok (.ifCond .ne 12, 3) := by decide +kernel
theorem dX9_turnsBy_37 : decode cX9_turnsBy 37 = .ok (.aload_n 0, 1) := by decide +kernel
theorem dX9_turnsBy_38 : decode cX9_turnsBy 38 = .ok (.iload_n 1, 1) := by decide +kernel
theorem dX9_turnsBy_39 : decode cX9_turnsBy 39 = .ok (.iload_n 2, 1) := by decide +kernel
theorem dX9_turnsBy_40 : decode cX9_turnsBy 40 = .ok (.invokevirtual 81, 3) := by decide +kernel
theorem dX9_turnsBy_43 : decode cX9_turnsBy 43 = .ok (.goto 4, 3) := by decide +kernel
theorem dX9_turnsBy_46 : decode cX9_turnsBy 46 = .ok (.iconst 0, 1) := by decide +kernel
theorem dX9_turnsBy_47 : decode cX9_turnsBy 47 = .ok (.ireturn, 1) := by decide +kernel
set_option maxRecDepth 20000 in
theorem ggX9_isFor_X9_isHousehold : GoodIn wsX9_isFor wsX9_isHousehold := goodIn_ca (goodIn_r _ [6, 7, 8, 9, 5, 10, 23, 24, 25, 26, 27, 28, 29, 30, 31, 32, 33, 34, 35, 36, 37, 38, 39, 40, 41, 42, 43, 44, 45, 46] (by decide +kernel) (by decide +kernel)) (goodIn_sub (fun _ h => List.mem_cons_of_mem _ (List.mem_append_right _ h)) (by decide +kernel))
set_option maxRecDepth 20000 in
theorem gX9_isFor_X9_isHousehold : GoodIn wsX9_isFor (wsV RX9 127 RX9 yX9_isHousehold wsX9_isHousehold) := goodIn_app (goodIn_of _ (by decide +kernel)) ggX9_isFor_X9_isHousehold
set_option maxRecDepth 20000 in
theorem ggX9_isFor_X9_wants : GoodIn wsX9_isFor wsX9_wants := goodIn_ca (goodIn_r _ [14, 15, 16, 17, 5, 18, 19, 20, 21, 22, 7, 23, 24, 25, 26, 27, 28, 29, 30, 31, 32, 33, 34, 35, 36, 37, 38, 39, 40, 41, 42, 43, 44, 45, 46] (by decide +kernel) (by decide +kernel)) (goodIn_sub (fun _ h => List.mem_cons_of_mem _ (List.mem_append_right _ h)) (by decide +kernel))
set_option maxRecDepth 20000 in
theorem gX9_isFor_X9_wants : GoodIn wsX9_isFor (wsV RX9 172 RX9 yX9_wants wsX9_wants) := goodIn_app (goodIn_of _ (by decide +kernel)) ggX9_isFor_X9_wants
theorem dX9_isFor_0 : decode cX9_isFor 0 = .ok (.aload_n 0, 1) := by decide +kernel
theorem dX9_isFor_1 : decode cX9_isFor 1 = .ok (.aload_n 0, 1) := by decide +kernel
theorem dX9_isFor_2 : decode cX9_isFor 2 = .ok (.iload_n 1, 1) := by decide +kernel
theorem dX9_isFor_3 : decode cX9_isFor 3 = .ok (.invokevirtual 127, 3) := by decide +kernel
theorem dX9_isFor_6 : decode cX9_isFor 6 = .ok (.ifCond .eq 7, 3) := by decide +kernel
theorem dX9_isFor_9 : decode cX9_isFor 9 = .ok (.iconst 0, 1) := by decide +kernel
theorem dX9_isFor_10 : decode cX9_isFor 10 = .ok (.goto 4, 3) := by decide +kernel
theorem dX9_isFor_13 : decode cX9_isFor 13 = .ok (.iconst 1, 1) := by decide +kernel
theorem dX9_isFor_14 : decode cX9_isFor 14 = .ok (.putfield 41, 3) := by decide +kernel
theorem dX9_isFor_17 : decode cX9_isFor 17 = .ok (.aload_n 0, 1) := by decide +kernel
theorem dX9_isFor_18 : decode cX9_isFor 18 = .ok (.getfield 41, 3) := by decide +kernel
theorem dX9_isFor_21 : decode cX9_isFor 21 = .ok (.ifCond .ne 11, 3) := by decide +kernel
theorem dX9_isFor_24 : decode cX9_isFor 24 = .ok (.aload_n 0, 1) := by decide +kernel
theorem dX9_isFor_25 : decode cX9_isFor 25 = .ok (.iload_n 1, 1) := by decide +kernel
theorem dX9_isFor_26 : decode cX9_isFor 26 = .ok (.invokevirtual 172, 3) := by decide +kernel
theorem dX9_isFor_29 : decode cX9_isFor 29 = .ok (.goto 4, 3) := by decide +kernel
theorem dX9_isFor_32 : decode cX9_isFor 32 = .ok (.iconst 0, 1) := by decide +kernel
theorem dX9_isFor_33 : decode cX9_isFor 33 = .ok (.ireturn, 1) := by decide +kernel
set_option maxRecDepth 20000 in
theorem ggX9_membersFor_X9_isIn : GoodIn wsX9_membersFor wsX9_isIn := goodIn_r _ [5] (by decide +kernel) (by decide +kernel)
set_option maxRecDepth 20000 in
theorem gX9_membersFor_X9_isIn : GoodIn wsX9_membersFor (va_wsS RX9 69 yX9_isIn wsX9_isIn) := goodIn_app (goodIn_of _ (by decide +kernel)) ggX9_membersFor_X9_isIn
set_option maxRecDepth 20000 in
theorem ggX9_membersFor_X9_membersWanting : GoodIn wsX9_membersFor wsX9_membersWanting := goodIn_ca (goodIn_r _ [9, 10, 11, 12, 13, 4, 14, 15, 16, 17, 18, 19, 20, 21, 22, 23, 24, 25, 26, 27, 28, 29, 30, 31, 32, 33, 34, 35, 36, 37, 38, 39, 40, 41, 42, 43, 44, 45, 46] (by decide +kernel) (by decide +kernel)) (goodIn_sub (fun _ h => List.mem_cons_of_mem _ (List.mem_append_right _ h)) (by decide +kernel))
set_option maxRecDepth 20000 in
theorem gX9_membersFor_X9_membersWanting : GoodIn wsX9_membersFor (wsV RX9 175 RX9 yX9_membersWanting wsX9_membersWanting) := goodIn_app (goodIn_of _ (by decide +kernel)) ggX9_membersFor_X9_membersWanting
theorem dX9_membersFor_0 : decode cX9_membersFor 0 = .ok (.aload_n 0, 1) := by decide +kernel
theorem dX9_membersFor_1 : decode cX9_membersFor 1 = .ok (.iload_n 1, 1) := by decide +kernel
theorem dX9_membersFor_2 : decode cX9_membersFor 2 = .ok (.iconst 0, 1) := by decide +kernel
theorem dX9_membersFor_3 : decode cX9_membersFor 3 = .ok (.iconst 3, 1) := by decide +kernel
theorem dX9_membersFor_4 : decode cX9_membersFor 4 = .ok (.invokestatic 69, 3) := by decide +kernel
theorem dX9_membersFor_7 : decode cX9_membersFor 7 = .ok (.ifCond .eq 7, 3) := by decide +kernel
theorem dX9_membersFor_10 : decode cX9_membersFor 10 = .ok (.iconst 0, 1) := by decide +kernel
theorem dX9_membersFor_11 : decode cX9_membersFor 11 = .ok (.goto 4, 3) := by decide +kernel
theorem dX9_membersFor_14 : decode cX9_membersFor 14 = .ok (.iconst 1, 1) := by decide +kernel
theorem dX9_membersFor_15 : decode cX9_membersFor 15 = .ok (.putfield 41, 3) := by decide +kernel
theorem dX9_membersFor_18 : decode cX9_membersFor 18 = .ok (.aload_n 0, 1) := by decide +kernel
theorem dX9_membersFor_19 : decode cX9_membersFor 19 = .ok (.getfield 41, 3) := by decide +kernel
theorem dX9_membersFor_22 : decode cX9_membersFor 22 = .ok (.ifCond .ne 11, 3) := by decide +kernel
theorem dX9_membersFor_25 : decode cX9_membersFor 25 = .ok (.aload_n 0, 1) := by decide +kernel
theorem dX9_membersFor_26 : decode cX9_membersFor 26 = .ok (.iload_n 1, 1) := by decide +kernel
theorem dX9_membersFor_27 : decode cX9_membersFor 27 = .ok (.invokevirtual 175, 3) := by decide +kernel
theorem dX9_membersFor_30 : decode cX9_membersFor 30 = .ok (.goto 4, 3) := by decide +kernel
theorem dX9_membersFor_33 : decode cX9_membersFor 33 = .ok (.iconst 0, 1) := by decide +kernel
theorem dX9_membersFor_34 : decode cX9_membersFor 34 = .ok (.ireturn, 1) := by decide +kernel
set_option maxRecDepth 20000 in
theorem ggX9_turnIn_X9_isHousehold : GoodIn wsX9_turnIn wsX9_isHousehold := goodIn_ca (goodIn_r _ [6, 7, 8, 9, 5, 10, 15, 16, 17, 18, 19, 20, 21, 22, 23, 24, 25, 26, 27, 28, 29, 30, 31, 32, 33, 34, 35, 36, 37, 38] (by decide +kernel) (by decide +kernel)) (goodIn_sub (fun _ h => List.mem_cons_of_mem _ (List.mem_append_right _ h)) (by decide +kernel))
set_option maxRecDepth 20000 in
theorem gX9_turnIn_X9_isHousehold : GoodIn wsX9_turnIn (wsV RX9 127 RX9 yX9_isHousehold wsX9_isHousehold) := goodIn_app (goodIn_of _ (by decide +kernel)) ggX9_turnIn_X9_isHousehold
set_option maxRecDepth 20000 in
theorem ggX9_turnIn_X9_placeOf : GoodIn wsX9_turnIn wsX9_placeOf := goodIn_ca (goodIn_r _ [14, 7, 15, 16, 17, 18, 19, 20, 21, 22, 23, 24, 25, 26, 27, 28, 29, 30, 31, 32, 33, 34, 35, 36, 37, 38] (by decide +kernel) (by decide +kernel)) (goodIn_sub (fun _ h => List.mem_cons_of_mem _ (List.mem_append_right _ h)) (by decide +kernel))
set_option maxRecDepth 20000 in
theorem gX9_turnIn_X9_placeOf : GoodIn wsX9_turnIn (wsV RX9 131 RX9 yX9_placeOf wsX9_placeOf) := goodIn_app (goodIn_of _ (by decide +kernel)) ggX9_turnIn_X9_placeOf
theorem dX9_turnIn_0 : decode cX9_turnIn 0 = .ok (.aload_n 0, 1) := by decide +kernel
theorem dX9_turnIn_1 : decode cX9_turnIn 1 = .ok (.aload_n 0, 1) := by decide +kernel
theorem dX9_turnIn_2 : decode cX9_turnIn 2 = .ok (.iload_n 1, 1) := by decide +kernel
theorem dX9_turnIn_3 : decode cX9_turnIn 3 = .ok (.invokevirtual 127, 3) := by decide +kernel
theorem dX9_turnIn_6 : decode cX9_turnIn 6 = .ok (.ifCond .ne 7, 3) := by decide +kernel
theorem dX9_turnIn_9 : decode cX9_turnIn 9 = .ok (.iconst 1, 1) := by decide +kernel
theorem dX9_turnIn_10 : decode cX9_turnIn 10 = .ok (.goto 4, 3) := by decide +kernel
theorem dX9_turnIn_13 : decode cX9_turnIn 13 = .ok (.iconst 0, 1) := by decide +kernel
theorem dX9_turnIn_14 : decode cX9_turnIn 14 = .ok (.putfield 41, 3) := by decide +kernel
theorem dX9_turnIn_17 : decode cX9_turnIn 17 = .ok (.aload_n 0, 1) := by decide +kernel
theorem dX9_turnIn_18 : decode cX9_turnIn 18 = .ok (.aload_n 0, 1) := by decide +kernel
theorem dX9_turnIn_19 : decode cX9_turnIn 19 = .ok (.getfield 41, 3) := by decide +kernel
theorem dX9_turnIn_22 : decode cX9_turnIn 22 = .ok (.ifCond .ne 16, 3) := by decide +kernel
theorem dX9_turnIn_25 : decode cX9_turnIn 25 = .ok (.aload_n 0, 1) := by decide +kernel
theorem dX9_turnIn_26 : decode cX9_turnIn 26 = .ok (.iload_n 1, 1) := by decide +kernel
theorem dX9_turnIn_27 : decode cX9_turnIn 27 = .ok (.invokevirtual 131, 3) := by decide +kernel
theorem dX9_turnIn_30 : decode cX9_turnIn 30 = .ok (.iconst (-1), 1) := by decide +kernel
theorem dX9_turnIn_31 : decode cX9_turnIn 31 = .ok (.if_icmp .ne 7, 3) := by decide +kernel
theorem dX9_turnIn_34 : decode cX9_turnIn 34 = .ok (.iconst 2, 1) := by decide +kernel
theorem dX9_turnIn_35 : decode cX9_turnIn 35 = .ok (.goto 7, 3) := by decide +kernel
theorem dX9_turnIn_38 : decode cX9_turnIn 38 = .ok (.aload_n 0, 1) := by decide +kernel
theorem dX9_turnIn_39 : decode cX9_turnIn 39 = .ok (.getfield 41, 3) := by decide +kernel
theorem dX9_turnIn_42 : decode cX9_turnIn 42 = .ok (.putfield 41, 3) := by decide +kernel
theorem dX9_turnIn_45 : decode cX9_turnIn 45 = .ok (.aload_n 0, 1) := by decide +kernel
theorem dX9_turnIn_46 : decode cX9_turnIn 46 = .ok (.getfield 41, 3) := by decide +kernel
theorem dX9_turnIn_49 : decode cX9_turnIn 49 = .ok (.ifCond .ne 13, 3) := by decide +kernel
theorem dX9_turnIn_52 : decode cX9_turnIn 52 = .ok (.aload_n 0, 1) := by decide +kernel
theorem dX9_turnIn_53 : decode cX9_turnIn 53 = .ok (.iload_n 1, 1) := by decide +kernel
theorem dX9_turnIn_54 : decode cX9_turnIn 54 = .ok (.invokevirtual 131, 3) := by decide +kernel
theorem dX9_turnIn_57 : decode cX9_turnIn 57 = .ok (.iconst 1, 1) := by decide +kernel
theorem dX9_turnIn_58 : decode cX9_turnIn 58 = .ok (.iadd, 1) := by decide +kernel
theorem dX9_turnIn_59 : decode cX9_turnIn 59 = .ok (.goto 4, 3) := by decide +kernel
theorem dX9_turnIn_62 : decode cX9_turnIn 62 = .ok (.iconst 0, 1) := by decide +kernel
theorem dX9_turnIn_63 : decode cX9_turnIn 63 = .ok (.ireturn, 1) := by decide +kernel
set_option maxRecDepth 20000 in
theorem ggX9_possible_X9_allLeft : GoodIn wsX9_possible wsX9_allLeft := goodIn_ca (goodIn_r _ [6, 7, 8, 9, 10, 11, 12, 13, 14, 5, 15, 16, 17, 18, 19, 20, 21, 22, 23, 24, 25, 26, 27, 28, 29, 30, 31, 32, 33, 34, 35, 36, 37, 38, 39, 40, 41, 42, 43, 44, 45, 46, 47, 48, 49, 50, 51] (by decide +kernel) (by decide +kernel)) (goodIn_sub (fun _ h => List.mem_cons_of_mem _ (List.mem_append_right _ h)) (by decide +kernel))
set_option maxRecDepth 20000 in
theorem gX9_possible_X9_allLeft : GoodIn wsX9_possible (wsV RX9 159 RX9 yX9_allLeft wsX9_allLeft) := goodIn_app (goodIn_of _ (by decide +kernel)) ggX9_possible_X9_allLeft
theorem dX9_possible_0 : decode cX9_possible 0 = .ok (.aload_n 0, 1) := by decide +kernel
theorem dX9_possible_1 : decode cX9_possible 1 = .ok (.iconst 0, 1) := by decide +kernel
theorem dX9_possible_2 : decode cX9_possible 2 = .ok (.putfield 41, 3) := by decide +kernel
theorem dX9_possible_5 : decode cX9_possible 5 = .ok (.aload_n 0, 1) := by decide +kernel
theorem dX9_possible_6 : decode cX9_possible 6 = .ok (.invokevirtual 159, 3) := by decide +kernel
theorem dX9_possible_9 : decode cX9_possible 9 = .ok (.ireturn, 1) := by decide +kernel
set_option maxRecDepth 20000 in
theorem ggX9_wouldBring_X9_isIn : GoodIn wsX9_wouldBring wsX9_isIn := goodIn_r _ [5] (by decide +kernel) (by decide +kernel)
set_option maxRecDepth 20000 in
theorem gX9_wouldBring_X9_isIn : GoodIn wsX9_wouldBring (va_wsS RX9 69 yX9_isIn wsX9_isIn) := goodIn_app (goodIn_of _ (by decide +kernel)) ggX9_wouldBring_X9_isIn
set_option maxRecDepth 20000 in
theorem ggX9_wouldBring_X9_allBring : GoodIn wsX9_wouldBring wsX9_allBring := goodIn_ca (goodIn_r _ [9, 10, 11, 12, 4, 13, 14, 15, 16, 17, 18, 19, 20, 21, 22, 23, 24, 25, 26, 27, 28, 29, 30, 31, 32, 33, 34, 35, 36, 37, 38, 39, 40, 41] (by decide +kernel) (by decide +kernel)) (goodIn_sub (fun _ h => List.mem_cons_of_mem _ (List.mem_append_right _ h)) (by decide +kernel))
set_option maxRecDepth 20000 in
theorem gX9_wouldBring_X9_allBring : GoodIn wsX9_wouldBring (wsV RX9 163 RX9 yX9_allBring wsX9_allBring) := goodIn_app (goodIn_of _ (by decide +kernel)) ggX9_wouldBring_X9_allBring
theorem dX9_wouldBring_0 : decode cX9_wouldBring 0 = .ok (.aload_n 0, 1) := by decide +kernel
theorem dX9_wouldBring_1 : decode cX9_wouldBring 1 = .ok (.iload_n 1, 1) := by decide +kernel
theorem dX9_wouldBring_2 : decode cX9_wouldBring 2 = .ok (.iconst 0, 1) := by decide +kernel
theorem dX9_wouldBring_3 : decode cX9_wouldBring 3 = .ok (.bipush 60, 2) := by decide +kernel
theorem dX9_wouldBring_5 : decode cX9_wouldBring 5 = .ok (.invokestatic 69, 3) := by decide +kernel
theorem dX9_wouldBring_8 : decode cX9_wouldBring 8 = .ok (.ifCond .eq 7, 3) := by decide +kernel
theorem dX9_wouldBring_11 : decode cX9_wouldBring 11 = .ok (.iconst 0, 1) := by decide +kernel
theorem dX9_wouldBring_12 : decode cX9_wouldBring 12 = .ok (.goto 4, 3) := by decide +kernel
theorem dX9_wouldBring_15 : decode cX9_wouldBring 15 = .ok (.iconst 1, 1) := by decide +kernel
theorem dX9_wouldBring_16 : decode cX9_wouldBring 16 = .ok (.putfield 41, 3) := by decide +kernel
theorem dX9_wouldBring_19 : decode cX9_wouldBring 19 = .ok (.aload_n 0, 1) := by decide +kernel
theorem dX9_wouldBring_20 : decode cX9_wouldBring 20 = .ok (.getfield 41, 3) := by decide +kernel
theorem dX9_wouldBring_23 : decode cX9_wouldBring 23 = .ok (.ifCond .ne 11, 3) := by decide +kernel
theorem dX9_wouldBring_26 : decode cX9_wouldBring 26 = .ok (.aload_n 0, 1) := by decide +kernel
theorem dX9_wouldBring_27 : decode cX9_wouldBring 27 = .ok (.iload_n 1, 1) := by decide +kernel
theorem dX9_wouldBring_28 : decode cX9_wouldBring 28 = .ok (.invokevirtual 163, 3) := by decide +kernel
theorem dX9_wouldBring_31 : decode cX9_wouldBring 31 = .ok (.goto 4, 3) := by decide +kernel
theorem dX9_wouldBring_34 : decode cX9_wouldBring 34 = .ok (.iconst 0, 1) := by decide +kernel
theorem dX9_wouldBring_35 : decode cX9_wouldBring 35 = .ok (.ireturn, 1) := by decide +kernel
theorem dX9_wellAfter_0 : decode cX9_wellAfter 0 = .ok (.aload_n 0, 1) := by decide +kernel
theorem dX9_wellAfter_1 : decode cX9_wellAfter 1 = .ok (.getfield 9, 3) := by decide +kernel
theorem dX9_wellAfter_4 : decode cX9_wellAfter 4 = .ok (.sipush 204, 3) := by decide +kernel
theorem dX9_wellAfter_7 : decode cX9_wellAfter 7 = .ok (.iaload, 1) := by decide +kernel
theorem dX9_wellAfter_8 : decode cX9_wellAfter 8 = .ok (.istore_n 3, 1) := by decide +kernel
theorem dX9_wellAfter_9 : decode cX9_wellAfter 9 = .ok (.iconst 0, 1) := by decide +kernel
theorem dX9_wellAfter_10 : decode cX9_wellAfter 10 = .ok (.istore 4, 2) := by decide +kernel
theorem dX9_wellAfter_12 : decode cX9_wellAfter 12 = .ok (.iload 4, 2) := by decide +kernel
theorem dX9_wellAfter_14 : decode cX9_wellAfter 14 = .ok (.iload_n 1, 1) := by decide +kernel
theorem dX9_wellAfter_15 : decode cX9_wellAfter 15 = .ok (.if_icmp .ge 35, 3) := by decide +kernel
theorem dX9_wellAfter_18 : decode cX9_wellAfter 18 = .ok (.sipush 999, 3) := by decide +kernel
theorem dX9_wellAfter_21 : decode cX9_wellAfter 21 = .ok (.iconst 0, 1) := by decide +kernel
theorem dX9_wellAfter_22 : decode cX9_wellAfter 22 = .ok (.iload_n 3, 1) := by decide +kernel
theorem dX9_wellAfter_23 : decode cX9_wellAfter 23 = .ok (.iload_n 2, 1) := by decide +kernel
theorem dX9_wellAfter_24 : decode cX9_wellAfter 24 = .ok (.isub, 1) := by decide +kernel
theorem dX9_wellAfter_25 : decode cX9_wellAfter 25 = .ok (.invokestatic 88, 3) := by decide +kernel
theorem dX9_wellAfter_28 : decode cX9_wellAfter 28 = .ok (.bipush 10, 2) := by decide +kernel
theorem dX9_wellAfter_30 : decode cX9_wellAfter 30 = .ok (.aload_n 0, 1) := by decide +kernel
theorem dX9_wellAfter_31 : decode cX9_wellAfter 31 = .ok (.getfield 9, 3) := by decide +kernel
theorem dX9_wellAfter_34 : decode cX9_wellAfter 34 = .ok (.sipush 208, 3) := by decide +kernel
theorem dX9_wellAfter_37 : decode cX9_wellAfter 37 = .ok (.iaload, 1) := by decide +kernel
theorem dX9_wellAfter_38 : decode cX9_wellAfter 38 = .ok (.imul, 1) := by decide +kernel
theorem dX9_wellAfter_39 : decode cX9_wellAfter 39 = .ok (.iadd, 1) := by decide +kernel
theorem dX9_wellAfter_40 : decode cX9_wellAfter 40 = .ok (.invokestatic 121, 3) := by decide +kernel
theorem dX9_wellAfter_43 : decode cX9_wellAfter 43 = .ok (.istore_n 3, 1) := by decide +kernel
theorem dX9_wellAfter_44 : decode cX9_wellAfter 44 = .ok (.iinc 4 1, 3) := by decide +kernel
theorem dX9_wellAfter_47 : decode cX9_wellAfter 47 = .ok (.goto (-35), 3) := by decide +kernel
theorem dX9_wellAfter_50 : decode cX9_wellAfter 50 = .ok (.iload_n 3, 1) := by decide +kernel
theorem dX9_wellAfter_51 : decode cX9_wellAfter 51 = .ok (.ireturn, 1) := by decide +kernel
set_option maxRecDepth 20000 in
theorem ggX9_wellIn_X9_isIn : GoodIn wsX9_wellIn wsX9_isIn := goodIn_r _ [5] (by decide +kernel) (by decide +kernel)
set_option maxRecDepth 20000 in
theorem gX9_wellIn_X9_isIn : GoodIn wsX9_wellIn (va_wsS RX9 69 yX9_isIn wsX9_isIn) := goodIn_app (goodIn_of _ (by decide +kernel)) ggX9_wellIn_X9_isIn
set_option maxRecDepth 20000 in
theorem ggX9_wellIn_X9_wellAfter : GoodIn wsX9_wellIn wsX9_wellAfter := goodIn_ca (goodIn_r _ [9, 10, 11, 12, 13, 14, 15, 16, 17, 18, 19, 20, 21, 22, 23, 24, 25, 26, 27, 28, 29, 30, 31, 32, 33, 34, 35, 36, 37, 38, 39, 40, 41] (by decide +kernel) (by decide +kernel)) (goodIn_sub (fun _ h => List.mem_cons_of_mem _ (List.mem_append_right _ h)) (by decide +kernel))
set_option maxRecDepth 20000 in
theorem gX9_wellIn_X9_wellAfter : GoodIn wsX9_wellIn (wsV RX9 193 RX9 yX9_wellAfter wsX9_wellAfter) := goodIn_app (goodIn_of _ (by decide +kernel)) ggX9_wellIn_X9_wellAfter
theorem dX9_wellIn_0 : decode cX9_wellIn 0 = .ok (.aload_n 0, 1) := by decide +kernel
theorem dX9_wellIn_1 : decode cX9_wellIn 1 = .ok (.iload_n 1, 1) := by decide +kernel
theorem dX9_wellIn_2 : decode cX9_wellIn 2 = .ok (.iconst 0, 1) := by decide +kernel
theorem dX9_wellIn_3 : decode cX9_wellIn 3 = .ok (.bipush 100, 2) := by decide +kernel
theorem dX9_wellIn_5 : decode cX9_wellIn 5 = .ok (.invokestatic 69, 3) := by decide +kernel
theorem dX9_wellIn_8 : decode cX9_wellIn 8 = .ok (.ifCond .eq 18, 3) := by decide +kernel
theorem dX9_wellIn_11 : decode cX9_wellIn 11 = .ok (.iload_n 2, 1) := by decide +kernel
theorem dX9_wellIn_12 : decode cX9_wellIn 12 = .ok (.iconst 0, 1) := by decide +kernel
theorem dX9_wellIn_13 : decode cX9_wellIn 13 = .ok (.sipush 999, 3) := by decide +kernel
theorem dX9_wellIn_16 : decode cX9_wellIn 16 = .ok (.invokestatic 69, 3) := by decide +kernel
theorem dX9_wellIn_19 : decode cX9_wellIn 19 = .ok (.ifCond .eq 7, 3) := by decide +kernel
theorem dX9_wellIn_22 : decode cX9_wellIn 22 = .ok (.iconst 0, 1) := by decide +kernel
theorem dX9_wellIn_23 : decode cX9_wellIn 23 = .ok (.goto 4, 3) := by decide +kernel
theorem dX9_wellIn_26 : decode cX9_wellIn 26 = .ok (.iconst 1, 1) := by decide +kernel
theorem dX9_wellIn_27 : decode cX9_wellIn 27 = .ok (.putfield 41, 3) := by decide +kernel
theorem dX9_wellIn_30 : decode cX9_wellIn 30 = .ok (.aload_n 0, 1) := by decide +kernel
theorem dX9_wellIn_31 : decode cX9_wellIn 31 = .ok (.getfield 41, 3) := by decide +kernel
theorem dX9_wellIn_34 : decode cX9_wellIn 34 = .ok (.ifCond .ne 12, 3) := by decide +kernel
theorem dX9_wellIn_37 : decode cX9_wellIn 37 = .ok (.aload_n 0, 1) := by decide +kernel
theorem dX9_wellIn_38 : decode cX9_wellIn 38 = .ok (.iload_n 1, 1) := by decide +kernel
theorem dX9_wellIn_39 : decode cX9_wellIn 39 = .ok (.iload_n 2, 1) := by decide +kernel
theorem dX9_wellIn_40 : decode cX9_wellIn 40 = .ok (.invokevirtual 193, 3) := by decide +kernel
theorem dX9_wellIn_43 : decode cX9_wellIn 43 = .ok (.goto 4, 3) := by decide +kernel
theorem dX9_wellIn_46 : decode cX9_wellIn 46 = .ok (.iconst 0, 1) := by decide +kernel
theorem dX9_wellIn_47 : decode cX9_wellIn 47 = .ok (.ireturn, 1) := by decide +kernel
set_option maxRecDepth 20000 in
theorem ggX9_droughtIn_X9_isIn : GoodIn wsX9_droughtIn wsX9_isIn := goodIn_r _ [6] (by decide +kernel) (by decide +kernel)
set_option maxRecDepth 20000 in
theorem gX9_droughtIn_X9_isIn : GoodIn wsX9_droughtIn (va_wsS RX9 69 yX9_isIn wsX9_isIn) := goodIn_app (goodIn_of _ (by decide +kernel)) ggX9_droughtIn_X9_isIn
set_option maxRecDepth 20000 in
theorem ggX9_droughtIn_X9_wellAfter : GoodIn wsX9_droughtIn wsX9_wellAfter := goodIn_ca (goodIn_r _ [10, 2, 11, 12, 13, 14, 15, 16, 17, 18, 19, 20, 21, 22, 23, 24, 25, 26, 27, 28, 29, 30, 31, 32, 33, 34, 35, 36, 37, 38, 39, 40, 41] (by decide +kernel) (by decide +kernel)) (goodIn_sub (fun _ h => List.mem_cons_of_mem _ (List.mem_append_right _ h)) (by decide +kernel))
set_option maxRecDepth 20000 in
theorem gX9_droughtIn_X9_wellAfter : GoodIn wsX9_droughtIn (wsV RX9 193 RX9 yX9_wellAfter wsX9_wellAfter) := goodIn_app (goodIn_of _ (by decide +kernel)) ggX9_droughtIn_X9_wellAfter
theorem dX9_droughtIn_0 : decode cX9_droughtIn 0 = .ok (.aload_n 0, 1) := by decide +kernel
theorem dX9_droughtIn_1 : decode cX9_droughtIn 1 = .ok (.iload_n 1, 1) := by decide +kernel
theorem dX9_droughtIn_2 : decode cX9_droughtIn 2 = .ok (.iconst 0, 1) := by decide +kernel
theorem dX9_droughtIn_3 : decode cX9_droughtIn 3 = .ok (.sipush 999, 3) := by decide +kernel
theorem dX9_droughtIn_6 : decode cX9_droughtIn 6 = .ok (.invokestatic 69, 3) := by decide +kernel
theorem dX9_droughtIn_9 : decode cX9_droughtIn 9 = .ok (.ifCond .eq 7, 3) := by decide +kernel
theorem dX9_droughtIn_12 : decode cX9_droughtIn 12 = .ok (.iconst 0, 1) := by decide +kernel
theorem dX9_droughtIn_13 : decode cX9_droughtIn 13 = .ok (.goto 4, 3) := by decide +kernel
theorem dX9_droughtIn_16 : decode cX9_droughtIn 16 = .ok (.iconst 1, 1) := by decide +kernel
theorem dX9_droughtIn_17 : decode cX9_droughtIn 17 = .ok (.putfield 41, 3) := by decide +kernel
theorem dX9_droughtIn_20 : decode cX9_droughtIn 20 = .ok (.aload_n 0, 1) := by decide +kernel
theorem dX9_droughtIn_21 : decode cX9_droughtIn 21 = .ok (.getfield 41, 3) := by decide +kernel
theorem dX9_droughtIn_24 : decode cX9_droughtIn 24 = .ok (.ifCond .eq 5, 3) := by decide +kernel
theorem dX9_droughtIn_27 : decode cX9_droughtIn 27 = .ok (.iconst 0, 1) := by decide +kernel
theorem dX9_droughtIn_28 : decode cX9_droughtIn 28 = .ok (.ireturn, 1) := by decide +kernel
theorem dX9_droughtIn_29 : decode cX9_droughtIn 29 = .ok (.iconst 0, 1) := by decide +kernel
theorem dX9_droughtIn_30 : decode cX9_droughtIn 30 = .ok (.istore_n 2, 1) := by decide +kernel
theorem dX9_droughtIn_31 : decode cX9_droughtIn 31 = .ok (.aload_n 0, 1) := by decide +kernel
theorem dX9_droughtIn_32 : decode cX9_droughtIn 32 = .ok (.getfield 9, 3) := by decide +kernel
theorem dX9_droughtIn_35 : decode cX9_droughtIn 35 = .ok (.sipush 207, 3) := by decide +kernel
theorem dX9_droughtIn_38 : decode cX9_droughtIn 38 = .ok (.iaload, 1) := by decide +kernel
theorem dX9_droughtIn_39 : decode cX9_droughtIn 39 = .ok (.iconst 1, 1) := by decide +kernel
theorem dX9_droughtIn_40 : decode cX9_droughtIn 40 = .ok (.if_icmp .ne 7, 3) := by decide +kernel
theorem dX9_droughtIn_43 : decode cX9_droughtIn 43 = .ok (.iconst 1, 1) := by decide +kernel
theorem dX9_droughtIn_44 : decode cX9_droughtIn 44 = .ok (.goto 4, 3) := by decide +kernel
theorem dX9_droughtIn_47 : decode cX9_droughtIn 47 = .ok (.iconst 0, 1) := by decide +kernel
theorem dX9_droughtIn_48 : decode cX9_droughtIn 48 = .ok (.istore_n 3, 1) := by decide +kernel
theorem dX9_droughtIn_49 : decode cX9_droughtIn 49 = .ok (.iload_n 3, 1) := by decide +kernel
theorem dX9_droughtIn_50 : decode cX9_droughtIn 50 = .ok (.ifCond .ne 32, 3) := by decide +kernel
theorem dX9_droughtIn_53 : decode cX9_droughtIn 53 = .ok (.iload_n 2, 1) := by decide +kernel
theorem dX9_droughtIn_54 : decode cX9_droughtIn 54 = .ok (.bipush 100, 2) := by decide +kernel
theorem dX9_droughtIn_56 : decode cX9_droughtIn 56 = .ok (.if_icmp .ge 26, 3) := by decide +kernel
theorem dX9_droughtIn_59 : decode cX9_droughtIn 59 = .ok (.iinc 2 1, 3) := by decide +kernel
theorem dX9_droughtIn_62 : decode cX9_droughtIn 62 = .ok (.aload_n 0, 1) := by decide +kernel
theorem dX9_droughtIn_63 : decode cX9_droughtIn 63 = .ok (.iload_n 2, 1) := by decide +kernel
theorem dX9_droughtIn_64 : decode cX9_droughtIn 64 = .ok (.iload_n 1, 1) := by decide +kernel
theorem dX9_droughtIn_65 : decode cX9_droughtIn 65 = .ok (.invokevirtual 193, 3) := by decide +kernel
theorem dX9_droughtIn_68 : decode cX9_droughtIn 68 = .ok (.bipush 100, 2) := by decide +kernel
theorem dX9_droughtIn_70 : decode cX9_droughtIn 70 = .ok (.if_icmp .ge 7, 3) := by decide +kernel
theorem dX9_droughtIn_73 : decode cX9_droughtIn 73 = .ok (.iconst 1, 1) := by decide +kernel
theorem dX9_droughtIn_74 : decode cX9_droughtIn 74 = .ok (.goto 4, 3) := by decide +kernel
theorem dX9_droughtIn_77 : decode cX9_droughtIn 77 = .ok (.iconst 0, 1) := by decide +kernel
theorem dX9_droughtIn_78 : decode cX9_droughtIn 78 = .ok (.istore_n 3, 1) := by decide +kernel
theorem dX9_droughtIn_79 : decode cX9_droughtIn 79 = .ok (.goto (-30), 3) := by decide +kernel
theorem dX9_droughtIn_82 : decode cX9_droughtIn 82 = .ok (.aload_n 0, 1) := by decide +kernel
theorem dX9_droughtIn_83 : decode cX9_droughtIn 83 = .ok (.iload_n 3, 1) := by decide +kernel
theorem dX9_droughtIn_84 : decode cX9_droughtIn 84 = .ok (.ifCond .eq 7, 3) := by decide +kernel
theorem dX9_droughtIn_87 : decode cX9_droughtIn 87 = .ok (.iconst 0, 1) := by decide +kernel
theorem dX9_droughtIn_88 : decode cX9_droughtIn 88 = .ok (.goto 4, 3) := by decide +kernel
theorem dX9_droughtIn_91 : decode cX9_droughtIn 91 = .ok (.iconst 2, 1) := by decide +kernel
theorem dX9_droughtIn_92 : decode cX9_droughtIn 92 = .ok (.putfield 41, 3) := by decide +kernel
theorem dX9_droughtIn_95 : decode cX9_droughtIn 95 = .ok (.iload_n 3, 1) := by decide +kernel
theorem dX9_droughtIn_96 : decode cX9_droughtIn 96 = .ok (.ifCond .eq 7, 3) := by decide +kernel
theorem dX9_droughtIn_99 : decode cX9_droughtIn 99 = .ok (.iload_n 2, 1) := by decide +kernel
theorem dX9_droughtIn_100 : decode cX9_droughtIn 100 = .ok (.goto 4, 3) := by decide +kernel
theorem dX9_droughtIn_103 : decode cX9_droughtIn 103 = .ok (.iconst 0, 1) := by decide +kernel
theorem dX9_droughtIn_104 : decode cX9_droughtIn 104 = .ok (.ireturn, 1) := by decide +kernel
theorem dX9_water_0 : decode cX9_water 0 = .ok (.aload_n 0, 1) := by decide +kernel
theorem dX9_water_1 : decode cX9_water 1 = .ok (.iconst 0, 1) := by decide +kernel
theorem dX9_water_2 : decode cX9_water 2 = .ok (.putfield 41, 3) := by decide +kernel
theorem dX9_water_5 : decode cX9_water 5 = .ok (.aload_n 0, 1) := by decide +kernel
theorem dX9_water_6 : decode cX9_water 6 = .ok (.getfield 9, 3) := by decide +kernel
theorem dX9_water_9 : decode cX9_water 9 = .ok (.sipush 204, 3) := by decide +kernel
theorem dX9_water_12 : decode cX9_water 12 = .ok (.iaload, 1) := by decide +kernel
theorem dX9_water_13 : decode cX9_water 13 = .ok (.aload_n 0, 1) := by decide +kernel
theorem dX9_water_14 : decode cX9_water 14 = .ok (.getfield 9, 3) := by decide +kernel
theorem dX9_water_17 : decode cX9_water 17 = .ok (.sipush 210, 3) := by decide +kernel
theorem dX9_water_20 : decode cX9_water 20 = .ok (.iaload, 1) := by decide +kernel
theorem dX9_water_21 : decode cX9_water 21 = .ok (.iadd, 1) := by decide +kernel
theorem dX9_water_22 : decode cX9_water 22 = .ok (.aload_n 0, 1) := by decide +kernel
theorem dX9_water_23 : decode cX9_water 23 = .ok (.getfield 9, 3) := by decide +kernel
theorem dX9_water_26 : decode cX9_water 26 = .ok (.sipush 211, 3) := by decide +kernel
theorem dX9_water_29 : decode cX9_water 29 = .ok (.iaload, 1) := by decide +kernel
theorem dX9_water_30 : decode cX9_water 30 = .ok (.iadd, 1) := by decide +kernel
theorem dX9_water_31 : decode cX9_water 31 = .ok (.ireturn, 1) := by decide +kernel
theorem dX9_waterAgain_0 : decode cX9_waterAgain 0 = .ok (.aload_n 0, 1) := by decide +kernel
theorem dX9_waterAgain_1 : decode cX9_waterAgain 1 = .ok (.iconst 0, 1) := by decide +kernel
theorem dX9_waterAgain_2 : decode cX9_waterAgain 2 = .ok (.putfield 41, 3) := by decide +kernel
theorem dX9_waterAgain_5 : decode cX9_waterAgain 5 = .ok (.sipush 500, 3) := by decide +kernel
theorem dX9_waterAgain_8 : decode cX9_waterAgain 8 = .ok (.aload_n 0, 1) := by decide +kernel
theorem dX9_waterAgain_9 : decode cX9_waterAgain 9 = .ok (.getfield 9, 3) := by decide +kernel
theorem dX9_waterAgain_12 : decode cX9_waterAgain 12 = .ok (.sipush 214, 3) := by decide +kernel
theorem dX9_waterAgain_15 : decode cX9_waterAgain 15 = .ok (.iaload, 1) := by decide +kernel
theorem dX9_waterAgain_16 : decode cX9_waterAgain 16 = .ok (.iadd, 1) := by decide +kernel
theorem dX9_waterAgain_17 : decode cX9_waterAgain 17 = .ok (.ireturn, 1) := by decide +kernel
theorem dX9_append_0 : decode cX9_append 0 = .ok (.aload_n 0, 1) := by decide +kernel
theorem dX9_append_1 : decode cX9_append 1 = .ok (.aload_n 0, 1) := by decide +kernel
theorem dX9_append_2 : decode cX9_append 2 = .ok (.getfield 196, 3) := by decide +kernel
theorem dX9_append_5 : decode cX9_append 5 = .ok (.bipush 60, 2) := by decide +kernel
theorem dX9_append_7 : decode cX9_append 7 = .ok (.if_icmp .ne 7, 3) := by decide +kernel
theorem dX9_append_10 : decode cX9_append 10 = .ok (.iconst 1, 1) := by decide +kernel
theorem dX9_append_11 : decode cX9_append 11 = .ok (.goto 4, 3) := by decide +kernel
theorem dX9_append_14 : decode cX9_append 14 = .ok (.iconst 0, 1) := by decide +kernel
theorem dX9_append_15 : decode cX9_append 15 = .ok (.putfield 41, 3) := by decide +kernel
theorem dX9_append_18 : decode cX9_append 18 = .ok (.aload_n 0, 1) := by decide +kernel
theorem dX9_append_19 : decode cX9_append 19 = .ok (.getfield 41, 3) := by decide +kernel
theorem dX9_append_22 : decode cX9_append 22 = .ok (.ifCond .eq 5, 3) := by decide +kernel
theorem dX9_append_25 : decode cX9_append 25 = .ok (.iconst 0, 1) := by decide +kernel
theorem dX9_append_26 : decode cX9_append 26 = .ok (.ireturn, 1) := by decide +kernel
theorem dX9_append_27 : decode cX9_append 27 = .ok (.aload_n 0, 1) := by decide +kernel
theorem dX9_append_28 : decode cX9_append 28 = .ok (.getfield 25, 3) := by decide +kernel
theorem dX9_append_31 : decode cX9_append 31 = .ok (.aload_n 0, 1) := by decide +kernel
theorem dX9_append_32 : decode cX9_append 32 = .ok (.getfield 196, 3) := by decide +kernel
theorem dX9_append_35 : decode cX9_append 35 = .ok (.iload_n 1, 1) := by decide +kernel
theorem dX9_append_36 : decode cX9_append 36 = .ok (.iastore, 1) := by decide +kernel
theorem dX9_append_37 : decode cX9_append 37 = .ok (.aload_n 0, 1) := by decide +kernel
theorem dX9_append_38 : decode cX9_append 38 = .ok (.dup, 1) := by decide +kernel
theorem dX9_append_39 : decode cX9_append 39 = .ok (.getfield 196, 3) := by decide +kernel
theorem dX9_append_42 : decode cX9_append 42 = .ok (.iconst 1, 1) := by decide +kernel
theorem dX9_append_43 : decode cX9_append 43 = .ok (.iadd, 1) := by decide +kernel
theorem dX9_append_44 : decode cX9_append 44 = .ok (.putfield 196, 3) := by decide +kernel
theorem dX9_append_47 : decode cX9_append 47 = .ok (.aload_n 0, 1) := by decide +kernel
theorem dX9_append_48 : decode cX9_append 48 = .ok (.getfield 196, 3) := by decide +kernel
theorem dX9_append_51 : decode cX9_append 51 = .ok (.ireturn, 1) := by decide +kernel
theorem dX9_sign_0 : decode cX9_sign 0 = .ok (.aload_n 0, 1) := by decide +kernel
theorem dX9_sign_1 : decode cX9_sign 1 = .ok (.getfield 199, 3) := by decide +kernel
theorem dX9_sign_4 : decode cX9_sign 4 = .ok (.aload_n 0, 1) := by decide +kernel
theorem dX9_sign_5 : decode cX9_sign 5 = .ok (.getfield 202, 3) := by decide +kernel
theorem dX9_sign_8 : decode cX9_sign 8 = .ok (.if_icmp .ge 15, 3) := by decide +kernel
theorem dX9_sign_11 : decode cX9_sign 11 = .ok (.aload_n 0, 1) := by decide +kernel
theorem dX9_sign_12 : decode cX9_sign 12 = .ok (.getfield 25, 3) := by decide +kernel
theorem dX9_sign_15 : decode cX9_sign 15 = .ok (.aload_n 0, 1) := by decide +kernel
theorem dX9_sign_16 : decode cX9_sign 16 = .ok (.getfield 199, 3) := by decide +kernel
theorem dX9_sign_19 : decode cX9_sign 19 = .ok (.iaload, 1) := by decide +kernel
theorem dX9_sign_20 : decode cX9_sign 20 = .ok (.goto 4, 3) := by decide +kernel
theorem dX9_sign_23 : decode cX9_sign 23 = .ok (.iconst (-1), 1) := by decide +kernel
theorem dX9_sign_24 : decode cX9_sign 24 = .ok (.ireturn, 1) := by decide +kernel
set_option maxRecDepth 20000 in
theorem ggX9_reads_X9_sign : GoodIn wsX9_reads wsX9_sign := goodIn_ca (goodIn_r _ [8, 2, 9, 3, 13, 14, 15, 16, 17, 18, 19, 20, 21, 22, 23, 24, 25, 26, 27, 28, 29, 30, 31, 32, 33, 34, 35, 36] (by decide +kernel) (by decide +kernel)) (goodIn_sub (fun _ h => List.mem_cons_of_mem _ (List.mem_append_right _ h)) (by decide +kernel))
set_option maxRecDepth 20000 in
theorem gX9_reads_X9_sign : GoodIn wsX9_reads (wsV RX9 208 RX9 yX9_sign wsX9_sign) := goodIn_app (goodIn_of _ (by decide +kernel)) ggX9_reads_X9_sign
set_option maxRecDepth 20000 in
theorem ggX9_reads_X9_isIn : GoodIn wsX9_reads wsX9_isIn := goodIn_r _ [12] (by decide +kernel) (by decide +kernel)
set_option maxRecDepth 20000 in
theorem gX9_reads_X9_isIn : GoodIn wsX9_reads (va_wsS RX9 69 yX9_isIn wsX9_isIn) := goodIn_app (goodIn_of _ (by decide +kernel)) ggX9_reads_X9_isIn
theorem dX9_reads_0 : decode cX9_reads 0 = .ok (.aload_n 0, 1) := by decide +kernel
theorem dX9_reads_1 : decode cX9_reads 1 = .ok (.getfield 205, 3) := by decide +kernel
theorem dX9_reads_4 : decode cX9_reads 4 = .ok (.iconst (-1), 1) := by decide +kernel
theorem dX9_reads_5 : decode cX9_reads 5 = .ok (.if_icmp .ne 40, 3) := by decide +kernel
theorem dX9_reads_8 : decode cX9_reads 8 = .ok (.aload_n 0, 1) := by decide +kernel
theorem dX9_reads_9 : decode cX9_reads 9 = .ok (.invokevirtual 208, 3) := by decide +kernel
theorem dX9_reads_12 : decode cX9_reads 12 = .ok (.iload_n 1, 1) := by decide +kernel
theorem dX9_reads_13 : decode cX9_reads 13 = .ok (.iload_n 2, 1) := by decide +kernel
theorem dX9_reads_14 : decode cX9_reads 14 = .ok (.invokestatic 69, 3) := by decide +kernel
theorem dX9_reads_17 : decode cX9_reads 17 = .ok (.ifCond .eq 28, 3) := by decide +kernel
theorem dX9_reads_20 : decode cX9_reads 20 = .ok (.aload_n 0, 1) := by decide +kernel
theorem dX9_reads_21 : decode cX9_reads 21 = .ok (.dup, 1) := by decide +kernel
theorem dX9_reads_22 : decode cX9_reads 22 = .ok (.getfield 199, 3) := by decide +kernel
theorem dX9_reads_25 : decode cX9_reads 25 = .ok (.iconst 1, 1) := by decide +kernel
theorem dX9_reads_26 : decode cX9_reads 26 = .ok (.iadd, 1) := by decide +kernel
theorem dX9_reads_27 : decode cX9_reads 27 = .ok (.putfield 199, 3) := by decide +kernel
theorem dX9_reads_30 : decode cX9_reads 30 = .ok (.aload_n 0, 1) := by decide +kernel
theorem dX9_reads_31 : decode cX9_reads 31 = .ok (.getfield 25, 3) := by decide +kernel
theorem dX9_reads_34 : decode cX9_reads 34 = .ok (.aload_n 0, 1) := by decide +kernel
theorem dX9_reads_35 : decode cX9_reads 35 = .ok (.getfield 199, 3) := by decide +kernel
theorem dX9_reads_38 : decode cX9_reads 38 = .ok (.iconst 1, 1) := by decide +kernel
theorem dX9_reads_39 : decode cX9_reads 39 = .ok (.isub, 1) := by decide +kernel
theorem dX9_reads_40 : decode cX9_reads 40 = .ok (.iaload, 1) := by decide +kernel
theorem dX9_reads_41 : decode cX9_reads 41 = .ok (.bipush 48, 2) := by decide +kernel
theorem dX9_reads_43 : decode cX9_reads 43 = .ok (.isub, 1) := by decide +kernel
theorem dX9_reads_44 : decode cX9_reads 44 = .ok (.ireturn, 1) := by decide +kernel
theorem dX9_reads_45 : decode cX9_reads 45 = .ok (.aload_n 0, 1) := by decide +kernel
theorem dX9_reads_46 : decode cX9_reads 46 = .ok (.aload_n 0, 1) := by decide +kernel
theorem dX9_reads_47 : decode cX9_reads 47 = .ok (.getfield 205, 3) := by decide +kernel
theorem dX9_reads_50 : decode cX9_reads 50 = .ok (.iconst (-1), 1) := by decide +kernel
theorem dX9_reads_51 : decode cX9_reads 51 = .ok (.if_icmp .ne 10, 3) := by decide +kernel
theorem dX9_reads_54 : decode cX9_reads 54 = .ok (.aload_n 0, 1) := by decide +kernel
theorem dX9_reads_55 : decode cX9_reads 55 = .ok (.getfield 199, 3) := by decide +kernel
theorem dX9_reads_58 : decode cX9_reads 58 = .ok (.goto 7, 3) := by decide +kernel
theorem dX9_reads_61 : decode cX9_reads 61 = .ok (.aload_n 0, 1) := by decide +kernel
theorem dX9_reads_62 : decode cX9_reads 62 = .ok (.getfield 205, 3) := by decide +kernel
theorem dX9_reads_65 : decode cX9_reads 65 = .ok (.putfield 205, 3) := by decide +kernel
theorem dX9_reads_68 : decode cX9_reads 68 = .ok (.iconst 0, 1) := by decide +kernel
theorem dX9_reads_69 : decode cX9_reads 69 = .ok (.ireturn, 1) := by decide +kernel
set_option maxRecDepth 20000 in
theorem ggX9_number_X9_reads : GoodIn wsX9_number wsX9_reads := goodIn_ca (goodIn_r _ [6, 1, 7, 8, 9, 10, 11, 5, 12, 13, 14, 15, 16, 17, 18, 19, 20, 21, 22, 23, 24, 25, 26, 27, 28, 29, 30, 31, 32, 33, 34, 35, 36, 37, 38, 39, 40] (by decide +kernel) (by decide +kernel)) (goodIn_sub (fun _ h => List.mem_cons_of_mem _ (List.mem_append_right _ h)) (by decide +kernel))
set_option maxRecDepth 20000 in
theorem gX9_number_X9_reads : GoodIn wsX9_number (wsV RX9 211 RX9 yX9_reads wsX9_reads) := goodIn_app (goodIn_of _ (by decide +kernel)) ggX9_number_X9_reads
set_option maxRecDepth 20000 in
theorem ggX9_number_X9_sign : GoodIn wsX9_number wsX9_sign := goodIn_ca (goodIn_r _ [12, 7, 13, 8, 17, 18, 19, 20, 21, 22, 23, 24, 25, 26, 27, 28, 29, 30, 31, 32, 33, 34, 35, 36, 37, 38, 39, 40] (by decide +kernel) (by decide +kernel)) (goodIn_sub (fun _ h => List.mem_cons_of_mem _ (List.mem_append_right _ h)) (by decide +kernel))
set_option maxRecDepth 20000 in
theorem gX9_number_X9_sign : GoodIn wsX9_number (wsV RX9 208 RX9 yX9_sign wsX9_sign) := goodIn_app (goodIn_of _ (by decide +kernel)) ggX9_number_X9_sign
set_option maxRecDepth 20000 in
theorem ggX9_number_X9_isIn : GoodIn wsX9_number wsX9_isIn := goodIn_r _ [16] (by decide +kernel) (by decide +kernel)
set_option maxRecDepth 20000 in
theorem gX9_number_X9_isIn : GoodIn wsX9_number (va_wsS RX9 69 yX9_isIn wsX9_isIn) := goodIn_app (goodIn_of _ (by decide +kernel)) ggX9_number_X9_isIn
theorem dX9_number_0 : decode cX9_number 0 = .ok (.aload_n 0, 1) := by decide +kernel
theorem dX9_number_1 : decode cX9_number 1 = .ok (.bipush 48, 2) := by decide +kernel
theorem dX9_number_3 : decode cX9_number 3 = .ok (.bipush 57, 2) := by decide +kernel
theorem dX9_number_5 : decode cX9_number 5 = .ok (.invokevirtual 211, 3) := by decide +kernel
theorem dX9_number_8 : decode cX9_number 8 = .ok (.istore_n 1, 1) := by decide +kernel
theorem dX9_number_9 : decode cX9_number 9 = .ok (.aload_n 0, 1) := by decide +kernel
theorem dX9_number_10 : decode cX9_number 10 = .ok (.getfield 205, 3) := by decide +kernel
theorem dX9_number_13 : decode cX9_number 13 = .ok (.iconst (-1), 1) := by decide +kernel
theorem dX9_number_14 : decode cX9_number 14 = .ok (.if_icmp .ne 33, 3) := by decide +kernel
theorem dX9_number_17 : decode cX9_number 17 = .ok (.aload_n 0, 1) := by decide +kernel
theorem dX9_number_18 : decode cX9_number 18 = .ok (.invokevirtual 208, 3) := by decide +kernel
theorem dX9_number_21 : decode cX9_number 21 = .ok (.bipush 48, 2) := by decide +kernel
theorem dX9_number_23 : decode cX9_number 23 = .ok (.bipush 57, 2) := by decide +kernel
theorem dX9_number_25 : decode cX9_number 25 = .ok (.invokestatic 69, 3) := by decide +kernel
theorem dX9_number_28 : decode cX9_number 28 = .ok (.ifCond .eq 19, 3) := by decide +kernel
theorem dX9_number_31 : decode cX9_number 31 = .ok (.bipush 10, 2) := by decide +kernel
theorem dX9_number_33 : decode cX9_number 33 = .ok (.iload_n 1, 1) := by decide +kernel
theorem dX9_number_34 : decode cX9_number 34 = .ok (.imul, 1) := by decide +kernel
theorem dX9_number_35 : decode cX9_number 35 = .ok (.aload_n 0, 1) := by decide +kernel
theorem dX9_number_36 : decode cX9_number 36 = .ok (.bipush 48, 2) := by decide +kernel
theorem dX9_number_38 : decode cX9_number 38 = .ok (.bipush 57, 2) := by decide +kernel
theorem dX9_number_40 : decode cX9_number 40 = .ok (.invokevirtual 211, 3) := by decide +kernel
theorem dX9_number_43 : decode cX9_number 43 = .ok (.iadd, 1) := by decide +kernel
theorem dX9_number_44 : decode cX9_number 44 = .ok (.goto 4, 3) := by decide +kernel
theorem dX9_number_47 : decode cX9_number 47 = .ok (.iload_n 1, 1) := by decide +kernel
theorem dX9_number_48 : decode cX9_number 48 = .ok (.ireturn, 1) := by decide +kernel
set_option maxRecDepth 20000 in
theorem ggX9_readsCommand_X9_sign : GoodIn wsX9_readsCommand wsX9_sign := goodIn_ca (goodIn_r _ [10, 4, 11, 12, 24, 25, 26, 27, 28, 29, 30, 31, 32, 33, 34, 35, 36, 37, 38, 39, 40, 41, 42, 43, 44, 45, 46, 47] (by decide +kernel) (by decide +kernel)) (goodIn_sub (fun _ h => List.mem_cons_of_mem _ (List.mem_append_right _ h)) (by decide +kernel))
set_option maxRecDepth 20000 in
theorem gX9_readsCommand_X9_sign : GoodIn wsX9_readsCommand (wsV RX9 208 RX9 yX9_sign wsX9_sign) := goodIn_app (goodIn_of _ (by decide +kernel)) ggX9_readsCommand_X9_sign
set_option maxRecDepth 20000 in
theorem ggX9_readsCommand_X9_reads : GoodIn wsX9_readsCommand wsX9_reads := goodIn_ca (goodIn_r _ [16, 5, 4, 12, 6, 7, 8, 9, 10, 11, 17, 18, 19, 24, 25, 26, 27, 28, 29, 30, 31, 32, 33, 34, 35, 36, 37, 38, 39, 40, 41, 42, 43, 44, 45, 46, 47] (by decide +kernel) (by decide +kernel)) (goodIn_sub (fun _ h => List.mem_cons_of_mem _ (List.mem_append_right _ h)) (by decide +kernel))
set_option maxRecDepth 20000 in
theorem gX9_readsCommand_X9_reads : GoodIn wsX9_readsCommand (wsV RX9 211 RX9 yX9_reads wsX9_reads) := goodIn_app (goodIn_of _ (by decide +kernel)) ggX9_readsCommand_X9_reads
set_option maxRecDepth 20000 in
theorem ggX9_readsCommand_X9_number : GoodIn wsX9_readsCommand wsX9_number := goodIn_ca (goodIn_r _ [23, 5, 13, 14, 15, 9, 16, 4, 12, 6, 7, 8, 10, 11, 17, 18, 19, 24, 25, 26, 27, 28, 29, 30, 31, 32, 33, 34, 35, 36, 37, 38, 39, 40, 41, 42, 43, 44, 45, 46, 47] (by decide +kernel) (by decide +kernel)) (goodIn_sub (fun _ h => List.mem_cons_of_mem _ (List.mem_append_right _ h)) (by decide +kernel))
set_option maxRecDepth 20000 in
theorem gX9_readsCommand_X9_number : GoodIn wsX9_readsCommand (wsV RX9 217 RX9 yX9_number wsX9_number) := goodIn_app (goodIn_of _ (by decide +kernel)) ggX9_readsCommand_X9_number
theorem dX9_readsCommand_0 : decode cX9_readsCommand 0 = .ok (.aload_n 0, 1) := by decide +kernel
theorem dX9_readsCommand_1 : decode cX9_readsCommand 1 = .ok (.invokevirtual 208, 3) := by decide +kernel
theorem dX9_readsCommand_4 : decode cX9_readsCommand 4 = .ok (.istore_n 1, 1) := by decide +kernel
theorem dX9_readsCommand_5 : decode cX9_readsCommand 5 = .ok (.aload_n 0, 1) := by decide +kernel
theorem dX9_readsCommand_6 : decode cX9_readsCommand 6 = .ok (.getfield 35, 3) := by decide +kernel
theorem dX9_readsCommand_9 : decode cX9_readsCommand 9 = .ok (.aload_n 0, 1) := by decide +kernel
theorem dX9_readsCommand_10 : decode cX9_readsCommand 10 = .ok (.getfield 214, 3) := by decide +kernel
theorem dX9_readsCommand_13 : decode cX9_readsCommand 13 = .ok (.iload_n 1, 1) := by decide +kernel
theorem dX9_readsCommand_14 : decode cX9_readsCommand 14 = .ok (.iastore, 1) := by decide +kernel
theorem dX9_readsCommand_15 : decode cX9_readsCommand 15 = .ok (.aload_n 0, 1) := by decide +kernel
theorem dX9_readsCommand_16 : decode cX9_readsCommand 16 = .ok (.getfield 38, 3) := by decide +kernel
theorem dX9_readsCommand_19 : decode cX9_readsCommand 19 = .ok (.aload_n 0, 1) := by decide +kernel
theorem dX9_readsCommand_20 : decode cX9_readsCommand 20 = .ok (.getfield 214, 3) := by decide +kernel
theorem dX9_readsCommand_23 : decode cX9_readsCommand 23 = .ok (.iconst 0, 1) := by decide +kernel
theorem dX9_readsCommand_24 : decode cX9_readsCommand 24 = .ok (.iastore, 1) := by decide +kernel
theorem dX9_readsCommand_25 : decode cX9_readsCommand 25 = .ok (.aload_n 0, 1) := by decide +kernel
theorem dX9_readsCommand_26 : decode cX9_readsCommand 26 = .ok (.dup, 1) := by decide +kernel
theorem dX9_readsCommand_27 : decode cX9_readsCommand 27 = .ok (.getfield 199, 3) := by decide +kernel
theorem dX9_readsCommand_30 : decode cX9_readsCommand 30 = .ok (.iconst 1, 1) := by decide +kernel
theorem dX9_readsCommand_31 : decode cX9_readsCommand 31 = .ok (.iadd, 1) := by decide +kernel
theorem dX9_readsCommand_32 : decode cX9_readsCommand 32 = .ok (.putfield 199, 3) := by decide +kernel
theorem dX9_readsCommand_35 : decode cX9_readsCommand 35 = .ok (.iload_n 1, 1) := by decide +kernel
theorem dX9_readsCommand_36 : decode cX9_readsCommand 36 = .ok (.tableswitch 131 100 118 #[112, 131, 131, 131, 131, 131, 92, 131, 92, 131, 112, 131, 128, 131, 92, 131, 131, 131, 128], 92) := by decide +kernel
theorem dX9_readsCommand_128 : decode cX9_readsCommand 128 = .ok (.aload_n 0, 1) := by decide +kernel
theorem dX9_readsCommand_129 : decode cX9_readsCommand 129 = .ok (.getfield 38, 3) := by decide +kernel
theorem dX9_readsCommand_132 : decode cX9_readsCommand 132 = .ok (.aload_n 0, 1) := by decide +kernel
theorem dX9_readsCommand_133 : decode cX9_readsCommand 133 = .ok (.getfield 214, 3) := by decide +kernel
theorem dX9_readsCommand_136 : decode cX9_readsCommand 136 = .ok (.aload_n 0, 1) := by decide +kernel
theorem dX9_readsCommand_137 : decode cX9_readsCommand 137 = .ok (.bipush 48, 2) := by decide +kernel
theorem dX9_readsCommand_139 : decode cX9_readsCommand 139 = .ok (.bipush 57, 2) := by decide +kernel
theorem dX9_readsCommand_141 : decode cX9_readsCommand 141 = .ok (.invokevirtual 211, 3) := by decide +kernel
theorem dX9_readsCommand_144 : decode cX9_readsCommand 144 = .ok (.iastore, 1) := by decide +kernel
theorem dX9_readsCommand_145 : decode cX9_readsCommand 145 = .ok (.goto 55, 3) := by decide +kernel
theorem dX9_readsCommand_148 : decode cX9_readsCommand 148 = .ok (.aload_n 0, 1) := by decide +kernel
theorem dX9_readsCommand_149 : decode cX9_readsCommand 149 = .ok (.getfield 38, 3) := by decide +kernel
theorem dX9_readsCommand_152 : decode cX9_readsCommand 152 = .ok (.aload_n 0, 1) := by decide +kernel
theorem dX9_readsCommand_153 : decode cX9_readsCommand 153 = .ok (.getfield 214, 3) := by decide +kernel
theorem dX9_readsCommand_156 : decode cX9_readsCommand 156 = .ok (.aload_n 0, 1) := by decide +kernel
theorem dX9_readsCommand_157 : decode cX9_readsCommand 157 = .ok (.invokevirtual 217, 3) := by decide +kernel
theorem dX9_readsCommand_160 : decode cX9_readsCommand 160 = .ok (.iastore, 1) := by decide +kernel
theorem dX9_readsCommand_161 : decode cX9_readsCommand 161 = .ok (.goto 39, 3) := by decide +kernel
theorem dX9_readsCommand_164 : decode cX9_readsCommand 164 = .ok (.goto 36, 3) := by decide +kernel
theorem dX9_readsCommand_167 : decode cX9_readsCommand 167 = .ok (.aload_n 0, 1) := by decide +kernel
theorem dX9_readsCommand_168 : decode cX9_readsCommand 168 = .ok (.dup, 1) := by decide +kernel
theorem dX9_readsCommand_169 : decode cX9_readsCommand 169 = .ok (.getfield 199, 3) := by decide +kernel
theorem dX9_readsCommand_172 : decode cX9_readsCommand 172 = .ok (.iconst 1, 1) := by decide +kernel
theorem dX9_readsCommand_173 : decode cX9_readsCommand 173 = .ok (.isub, 1) := by decide +kernel
theorem dX9_readsCommand_174 : decode cX9_readsCommand 174 = .ok (.putfield 199, 3) := by decide +kernel
theorem dX9_readsCommand_177 : decode cX9_readsCommand 177 = .ok (.aload_n 0, 1) := by decide +kernel
theorem dX9_readsCommand_178 : decode cX9_readsCommand 178 = .ok (.aload_n 0, 1) := by decide +kernel
theorem dX9_readsCommand_179 : decode cX9_readsCommand 179 = .ok (.getfield 205, 3) := by decide +kernel
theorem dX9_readsCommand_182 : decode cX9_readsCommand 182 = .ok (.iconst (-1), 1) := by decide +kernel
theorem dX9_readsCommand_183 : decode cX9_readsCommand 183 = .ok (.if_icmp .ne 10, 3) := by decide +kernel
theorem dX9_readsCommand_186 : decode cX9_readsCommand 186 = .ok (.aload_n 0, 1) := by decide +kernel
theorem dX9_readsCommand_187 : decode cX9_readsCommand 187 = .ok (.getfield 199, 3) := by decide +kernel
theorem dX9_readsCommand_190 : decode cX9_readsCommand 190 = .ok (.goto 7, 3) := by decide +kernel
theorem dX9_readsCommand_193 : decode cX9_readsCommand 193 = .ok (.aload_n 0, 1) := by decide +kernel
theorem dX9_readsCommand_194 : decode cX9_readsCommand 194 = .ok (.getfield 205, 3) := by decide +kernel
theorem dX9_readsCommand_197 : decode cX9_readsCommand 197 = .ok (.putfield 205, 3) := by decide +kernel
theorem dX9_readsCommand_200 : decode cX9_readsCommand 200 = .ok (.aload_n 0, 1) := by decide +kernel
theorem dX9_readsCommand_201 : decode cX9_readsCommand 201 = .ok (.dup, 1) := by decide +kernel
theorem dX9_readsCommand_202 : decode cX9_readsCommand 202 = .ok (.getfield 214, 3) := by decide +kernel
theorem dX9_readsCommand_205 : decode cX9_readsCommand 205 = .ok (.iconst 1, 1) := by decide +kernel
theorem dX9_readsCommand_206 : decode cX9_readsCommand 206 = .ok (.iadd, 1) := by decide +kernel
theorem dX9_readsCommand_207 : decode cX9_readsCommand 207 = .ok (.putfield 214, 3) := by decide +kernel
theorem dX9_readsCommand_210 : decode cX9_readsCommand 210 = .ok (.return_, 1) := by decide +kernel
set_option maxRecDepth 20000 in
theorem ggX9_readsAll_X9_readsCommand : GoodIn wsX9_readsAll wsX9_readsCommand := goodIn_ca (goodIn_r _ [9, 10, 3, 11, 1, 2, 12, 13, 14, 8, 15, 4, 16, 17, 18, 19, 20, 21, 22, 23, 24, 25, 26, 27, 28, 29, 30, 31, 32, 33, 34, 35, 36, 37, 38, 39, 40, 41, 42, 43, 44, 45, 46, 47, 48, 49, 50, 51] (by decide +kernel) (by decide +kernel)) (goodIn_sub (fun _ h => List.mem_cons_of_mem _ (List.mem_append_right _ h)) (by decide +kernel))
set_option maxRecDepth 20000 in
theorem gX9_readsAll_X9_readsCommand : GoodIn wsX9_readsAll (wsV RX9 220 RX9 yX9_readsCommand wsX9_readsCommand) := goodIn_app (goodIn_of _ (by decide +kernel)) ggX9_readsAll_X9_readsCommand
set_option maxRecDepth 20000 in
theorem ggX9_readsAll_X9_reads : GoodIn wsX9_readsAll wsX9_reads := goodIn_ca (goodIn_r _ [20, 2, 1, 16, 12, 13, 14, 8, 15, 4, 21, 22, 23, 28, 29, 30, 31, 32, 33, 34, 35, 36, 37, 38, 39, 40, 41, 42, 43, 44, 45, 46, 47, 48, 49, 50, 51] (by decide +kernel) (by decide +kernel)) (goodIn_sub (fun _ h => List.mem_cons_of_mem _ (List.mem_append_right _ h)) (by decide +kernel))
set_option maxRecDepth 20000 in
theorem gX9_readsAll_X9_reads : GoodIn wsX9_readsAll (wsV RX9 211 RX9 yX9_reads wsX9_reads) := goodIn_app (goodIn_of _ (by decide +kernel)) ggX9_readsAll_X9_reads
theorem dX9_readsAll_0 : decode cX9_readsAll 0 = .ok (.aload_n 0, 1) := by decide +kernel
theorem dX9_readsAll_1 : decode cX9_readsAll 1 = .ok (.iconst 0, 1) := by decide +kernel
theorem dX9_readsAll_2 : decode cX9_readsAll 2 = .ok (.putfield 199, 3) := by decide +kernel
theorem dX9_readsAll_5 : decode cX9_readsAll 5 = .ok (.aload_n 0, 1) := by decide +kernel
theorem dX9_readsAll_6 : decode cX9_readsAll 6 = .ok (.iconst (-1), 1) := by decide +kernel
theorem dX9_readsAll_7 : decode cX9_readsAll 7 = .ok (.putfield 205, 3) := by decide +kernel
theorem dX9_readsAll_10 : decode cX9_readsAll 10 = .ok (.aload_n 0, 1) := by decide +kernel
theorem dX9_readsAll_11 : decode cX9_readsAll 11 = .ok (.iconst 0, 1) := by decide +kernel
theorem dX9_readsAll_12 : decode cX9_readsAll 12 = .ok (.putfield 214, 3) := by decide +kernel
theorem dX9_readsAll_15 : decode cX9_readsAll 15 = .ok (.aload_n 0, 1) := by decide +kernel
theorem dX9_readsAll_16 : decode cX9_readsAll 16 = .ok (.invokevirtual 220, 3) := by decide +kernel
theorem dX9_readsAll_19 : decode cX9_readsAll 19 = .ok (.aload_n 0, 1) := by decide +kernel
theorem dX9_readsAll_20 : decode cX9_readsAll 20 = .ok (.getfield 205, 3) := by decide +kernel
theorem dX9_readsAll_23 : decode cX9_readsAll 23 = .ok (.iconst (-1), 1) := by decide +kernel
theorem dX9_readsAll_24 : decode cX9_readsAll 24 = .ok (.if_icmp .ne 38, 3) := by decide +kernel
theorem dX9_readsAll_27 : decode cX9_readsAll 27 = .ok (.aload_n 0, 1) := by decide +kernel
theorem dX9_readsAll_28 : decode cX9_readsAll 28 = .ok (.getfield 199, 3) := by decide +kernel
theorem dX9_readsAll_31 : decode cX9_readsAll 31 = .ok (.aload_n 0, 1) := by decide +kernel
theorem dX9_readsAll_32 : decode cX9_readsAll 32 = .ok (.getfield 202, 3) := by decide +kernel
theorem dX9_readsAll_35 : decode cX9_readsAll 35 = .ok (.if_icmp .ge 27, 3) := by decide +kernel
theorem dX9_readsAll_38 : decode cX9_readsAll 38 = .ok (.aload_n 0, 1) := by decide +kernel
theorem dX9_readsAll_39 : decode cX9_readsAll 39 = .ok (.bipush 59, 2) := by decide +kernel
theorem dX9_readsAll_41 : decode cX9_readsAll 41 = .ok (.bipush 59, 2) := by decide +kernel
theorem dX9_readsAll_43 : decode cX9_readsAll 43 = .ok (.invokevirtual 211, 3) := by decide +kernel
theorem dX9_readsAll_46 : decode cX9_readsAll 46 = .ok (.istore_n 1, 1) := by decide +kernel
theorem dX9_readsAll_47 : decode cX9_readsAll 47 = .ok (.aload_n 0, 1) := by decide +kernel
theorem dX9_readsAll_48 : decode cX9_readsAll 48 = .ok (.getfield 205, 3) := by decide +kernel
theorem dX9_readsAll_51 : decode cX9_readsAll 51 = .ok (.iconst (-1), 1) := by decide +kernel
theorem dX9_readsAll_52 : decode cX9_readsAll 52 = .ok (.if_icmp .ne 7, 3) := by decide +kernel
theorem dX9_readsAll_55 : decode cX9_readsAll 55 = .ok (.aload_n 0, 1) := by decide +kernel
theorem dX9_readsAll_56 : decode cX9_readsAll 56 = .ok (.invokevirtual 220, 3) := by decide +kernel
theorem dX9_readsAll_59 : decode cX9_readsAll 59 = .ok (.goto (-40), 3) := by decide +kernel
theorem dX9_readsAll_62 : decode cX9_readsAll 62 = .ok (.return_, 1) := by decide +kernel
set_option maxRecDepth 20000 in
theorem ggX9_does_X9_joins : GoodIn wsX9_does wsX9_joins := goodIn_ca (goodIn_r _ [5, 6, 7, 8, 9, 10, 4, 11, 12, 13, 14, 15, 16, 17, 18, 19, 20, 21, 22, 23, 24, 25, 26, 27, 28, 29, 30, 31, 32, 33, 34, 35, 36, 37, 38, 39, 40, 41, 42, 43, 44, 45, 46, 47, 48, 49, 50, 51, 52, 53, 54, 55, 56, 57, 58, 59, 60, 61, 62, 63, 64, 65, 66, 67, 68, 69, 70, 71, 72, 73, 74, 75, 76, 77, 78, 79, 80, 81, 137, 138, 139, 140, 141, 142, 143, 144, 145, 146, 147, 148, 149, 150, 151, 152, 153, 154, 155, 156, 157, 158, 159, 160] (by decide +kernel) (by decide +kernel)) (goodIn_sub (fun _ h => List.mem_cons_of_mem _ (List.mem_append_right _ h)) (by decide +kernel))
set_option maxRecDepth 20000 in
theorem gX9_does_X9_joins : GoodIn wsX9_does (wsV RX9 147 RX9 yX9_joins wsX9_joins) := goodIn_app (goodIn_of _ (by decide +kernel)) ggX9_does_X9_joins
set_option maxRecDepth 20000 in
theorem ggX9_does_X9_leaves : GoodIn wsX9_does wsX9_leaves := goodIn_ca (goodIn_r _ [85, 6, 8, 9, 10, 4, 11, 7, 12, 13, 14, 15, 16, 17, 18, 19, 20, 21, 22, 23, 86, 87, 88, 89, 137, 138, 139, 140, 141, 142, 143, 144, 145, 146, 147, 148, 149, 150, 151, 152, 153, 154, 155, 156, 157, 158, 159, 160] (by decide +kernel) (by decide +kernel)) (goodIn_sub (fun _ h => List.mem_cons_of_mem _ (List.mem_append_right _ h)) (by decide +kernel))
set_option maxRecDepth 20000 in
theorem gX9_does_X9_leaves : GoodIn wsX9_does (wsV RX9 153 RX9 yX9_leaves wsX9_leaves) := goodIn_app (goodIn_of _ (by decide +kernel)) ggX9_does_X9_leaves
set_option maxRecDepth 20000 in
theorem ggX9_does_X9_draws : GoodIn wsX9_does wsX9_draws := goodIn_ca (goodIn_r _ [93, 6, 7, 12, 13, 4, 14, 15, 16, 17, 18, 19, 94, 95, 96, 97, 28, 29, 30, 31, 24, 25, 26, 27, 32, 33, 34, 35, 36, 37, 38, 39, 40, 41, 42, 43, 98, 99, 100, 101, 102, 103, 104, 63, 64, 65, 105, 106, 107, 108, 86, 87, 88, 89, 70, 71, 72, 73, 74, 75, 76, 77, 78, 79, 80, 81, 137, 138, 139, 140, 141, 142, 143, 144, 145, 146, 147, 148, 149, 150, 151, 152, 153, 154, 155, 156, 157, 158, 159, 160] (by decide +kernel) (by decide +kernel)) (goodIn_sub (fun _ h => List.mem_cons_of_mem _ (List.mem_append_right _ h)) (by decide +kernel))
set_option maxRecDepth 20000 in
theorem gX9_does_X9_draws : GoodIn wsX9_does (wsV RX9 169 RX9 yX9_draws wsX9_draws) := goodIn_app (goodIn_of _ (by decide +kernel)) ggX9_does_X9_draws
set_option maxRecDepth 20000 in
theorem ggX9_does_X9_nights : GoodIn wsX9_does wsX9_nights := goodIn_ca (goodIn_r _ [112, 6, 7, 12, 13, 4, 14, 15, 16, 17, 18, 19, 113, 114, 115, 116, 63, 64, 30, 65, 70, 71, 72, 73, 137, 138, 139, 140, 141, 142, 143, 144, 145, 146, 147, 148, 149, 150, 151, 152, 153, 154, 155, 156, 157, 158, 159, 160] (by decide +kernel) (by decide +kernel)) (goodIn_sub (fun _ h => List.mem_cons_of_mem _ (List.mem_append_right _ h)) (by decide +kernel))
set_option maxRecDepth 20000 in
theorem gX9_does_X9_nights : GoodIn wsX9_does (wsV RX9 187 RX9 yX9_nights wsX9_nights) := goodIn_app (goodIn_of _ (by decide +kernel)) ggX9_does_X9_nights
set_option maxRecDepth 20000 in
theorem ggX9_does_X9_rains : GoodIn wsX9_does wsX9_rains := goodIn_ca (goodIn_r _ [120, 7, 12, 13, 4, 14, 15, 16, 17, 18, 6, 19, 137, 138, 139, 140, 141, 142, 143, 144, 145, 146, 147, 148, 149, 150, 151, 152, 153, 154, 155, 156, 157, 158, 159, 160] (by decide +kernel) (by decide +kernel)) (goodIn_sub (fun _ h => List.mem_cons_of_mem _ (List.mem_append_right _ h)) (by decide +kernel))
set_option maxRecDepth 20000 in
theorem gX9_does_X9_rains : GoodIn wsX9_does (wsV RX9 181 RX9 yX9_rains wsX9_rains) := goodIn_app (goodIn_of _ (by decide +kernel)) ggX9_does_X9_rains
set_option maxRecDepth 20000 in
theorem ggX9_does_X9_votes : GoodIn wsX9_does wsX9_votes := goodIn_ca (goodIn_r _ [124, 7, 6, 15, 16, 17, 4, 18, 19, 125, 126, 127, 128, 129, 130, 131, 132, 36, 37, 38, 39, 40, 41, 42, 43, 74, 75, 76, 77, 24, 25, 26, 27, 28, 29, 30, 31, 32, 33, 34, 35, 86, 87, 88, 89, 137, 138, 139, 140, 141, 142, 143, 144, 145, 146, 147, 148, 149, 150, 151, 152, 153, 154, 155, 156, 157, 158, 159, 160] (by decide +kernel) (by decide +kernel)) (goodIn_sub (fun _ h => List.mem_cons_of_mem _ (List.mem_append_right _ h)) (by decide +kernel))
set_option maxRecDepth 20000 in
theorem gX9_does_X9_votes : GoodIn wsX9_does (wsV RX9 178 RX9 yX9_votes wsX9_votes) := goodIn_app (goodIn_of _ (by decide +kernel)) ggX9_does_X9_votes
set_option maxRecDepth 20000 in
theorem ggX9_does_X9_renews : GoodIn wsX9_does wsX9_renews := goodIn_ca (goodIn_r _ [136, 7, 6, 15, 16, 17, 4, 18, 19, 74, 75, 76, 77, 137, 138, 139, 140, 141, 142, 143, 144, 145, 146, 147, 148, 149, 150, 151, 152, 153, 154, 155, 156, 157, 158, 159, 160] (by decide +kernel) (by decide +kernel)) (goodIn_sub (fun _ h => List.mem_cons_of_mem _ (List.mem_append_right _ h)) (by decide +kernel))
set_option maxRecDepth 20000 in
theorem gX9_does_X9_renews : GoodIn wsX9_does (wsV RX9 190 RX9 yX9_renews wsX9_renews) := goodIn_app (goodIn_of _ (by decide +kernel)) ggX9_does_X9_renews
theorem dX9_does_0 : decode cX9_does 0 = .ok (.iload_n 1, 1) := by decide +kernel
theorem dX9_does_1 : decode cX9_does 1 = .ok (.tableswitch 126 100 118 #[103, 126, 126, 126, 126, 126, 91, 126, 97, 126, 109, 126, 126, 126, 115, 126, 126, 126, 121], 91) := by decide +kernel
theorem dX9_does_92 : decode cX9_does 92 = .ok (.aload_n 0, 1) := by decide +kernel
theorem dX9_does_93 : decode cX9_does 93 = .ok (.iload_n 2, 1) := by decide +kernel
theorem dX9_does_94 : decode cX9_does 94 = .ok (.invokevirtual 147, 3) := by decide +kernel
theorem dX9_does_97 : decode cX9_does 97 = .ok (.ireturn, 1) := by decide +kernel
theorem dX9_does_98 : decode cX9_does 98 = .ok (.aload_n 0, 1) := by decide +kernel
theorem dX9_does_99 : decode cX9_does 99 = .ok (.iload_n 2, 1) := by decide +kernel
theorem dX9_does_100 : decode cX9_does 100 = .ok (.invokevirtual 153, 3) := by decide +kernel
theorem dX9_does_103 : decode cX9_does 103 = .ok (.ireturn, 1) := by decide +kernel
theorem dX9_does_104 : decode cX9_does 104 = .ok (.aload_n 0, 1) := by decide +kernel
theorem dX9_does_105 : decode cX9_does 105 = .ok (.iload_n 2, 1) := by decide +kernel
theorem dX9_does_106 : decode cX9_does 106 = .ok (.invokevirtual 169, 3) := by decide +kernel
theorem dX9_does_109 : decode cX9_does 109 = .ok (.ireturn, 1) := by decide +kernel
theorem dX9_does_110 : decode cX9_does 110 = .ok (.aload_n 0, 1) := by decide +kernel
theorem dX9_does_111 : decode cX9_does 111 = .ok (.iload_n 2, 1) := by decide +kernel
theorem dX9_does_112 : decode cX9_does 112 = .ok (.invokevirtual 187, 3) := by decide +kernel
theorem dX9_does_115 : decode cX9_does 115 = .ok (.ireturn, 1) := by decide +kernel
theorem dX9_does_116 : decode cX9_does 116 = .ok (.aload_n 0, 1) := by decide +kernel
theorem dX9_does_117 : decode cX9_does 117 = .ok (.iload_n 2, 1) := by decide +kernel
theorem dX9_does_118 : decode cX9_does 118 = .ok (.invokevirtual 181, 3) := by decide +kernel
theorem dX9_does_121 : decode cX9_does 121 = .ok (.ireturn, 1) := by decide +kernel
theorem dX9_does_122 : decode cX9_does 122 = .ok (.aload_n 0, 1) := by decide +kernel
theorem dX9_does_123 : decode cX9_does 123 = .ok (.invokevirtual 178, 3) := by decide +kernel
theorem dX9_does_126 : decode cX9_does 126 = .ok (.ireturn, 1) := by decide +kernel
theorem dX9_does_127 : decode cX9_does 127 = .ok (.aload_n 0, 1) := by decide +kernel
theorem dX9_does_128 : decode cX9_does 128 = .ok (.invokevirtual 190, 3) := by decide +kernel
theorem dX9_does_131 : decode cX9_does 131 = .ok (.ireturn, 1) := by decide +kernel
set_option maxRecDepth 20000 in
theorem ggX9_commands_X9_readsAll : GoodIn wsX9_commands wsX9_readsAll := goodIn_ca (goodIn_r _ [14, 15, 3, 6, 2, 16, 17, 18, 13, 19, 8, 9, 20, 21, 22, 23, 24, 25, 26, 27, 28, 29, 30, 31, 32, 33, 34, 35, 192, 193, 194, 195, 196, 197, 198, 199, 200, 201, 202, 203, 204, 205, 206, 207, 208, 209, 210, 211, 212, 213, 214, 215] (by decide +kernel) (by decide +kernel)) (goodIn_sub (fun _ h => List.mem_cons_of_mem _ (List.mem_append_right _ h)) (by decide +kernel))
set_option maxRecDepth 20000 in
theorem gX9_commands_X9_readsAll : GoodIn wsX9_commands (wsV RX9 223 RX9 yX9_readsAll wsX9_readsAll) := goodIn_app (goodIn_of _ (by decide +kernel)) ggX9_commands_X9_readsAll
set_option maxRecDepth 20000 in
theorem ggX9_commands_X9_begins : GoodIn wsX9_commands wsX9_begins := goodIn_ca (goodIn_r _ [39, 40, 41, 7, 42, 43, 13, 44, 192, 193, 194, 195, 196, 197, 198, 199, 200, 201, 202, 203, 204, 205, 206, 207, 208, 209, 210, 211, 212, 213, 214, 215] (by decide +kernel) (by decide +kernel)) (goodIn_sub (fun _ h => List.mem_cons_of_mem _ (List.mem_append_right _ h)) (by decide +kernel))
set_option maxRecDepth 20000 in
theorem gX9_commands_X9_begins : GoodIn wsX9_commands (wsV RX9 93 RX9 yX9_begins wsX9_begins) := goodIn_app (goodIn_of _ (by decide +kernel)) ggX9_commands_X9_begins
set_option maxRecDepth 20000 in
theorem ggX9_commands_X9_does : GoodIn wsX9_commands wsX9_does := goodIn_ca (goodIn_r _ [48, 49, 50, 51, 13, 52, 7, 40, 53, 54, 55, 56, 29, 30, 31, 57, 58, 59, 60, 61, 62, 63, 64, 65, 66, 67, 68, 69, 70, 71, 72, 73, 74, 75, 76, 77, 78, 79, 80, 81, 82, 83, 84, 85, 86, 87, 88, 89, 90, 91, 92, 93, 94, 95, 96, 97, 98, 99, 100, 101, 102, 103, 104, 105, 106, 107, 108, 109, 110, 111, 112, 113, 114, 115, 116, 117, 118, 119, 120, 121, 122, 123, 124, 125, 126, 127, 128, 129, 130, 131, 132, 133, 134, 135, 136, 137, 138, 139, 140, 141, 142, 143, 144, 145, 146, 147, 148, 149, 150, 151, 152, 153, 154, 155, 156, 157, 158, 159, 160, 161, 162, 163, 164, 165, 166, 167, 168, 169, 170, 171, 172, 173, 174, 175, 176, 177, 178, 192, 193, 194, 195, 196, 197, 198, 199, 200, 201, 202, 203, 204, 205, 206, 207, 208, 209, 210, 211, 212, 213, 214, 215] (by decide +kernel) (by decide +kernel)) (goodIn_sub (fun _ h => List.mem_cons_of_mem _ (List.mem_append_right _ h)) (by decide +kernel))
set_option maxRecDepth 20000 in
theorem gX9_commands_X9_does : GoodIn wsX9_commands (wsV RX9 226 RX9 yX9_does wsX9_does) := goodIn_app (goodIn_of _ (by decide +kernel)) ggX9_commands_X9_does
set_option maxRecDepth 20000 in
theorem ggX9_commands_X9_ends : GoodIn wsX9_commands wsX9_ends := goodIn_ca (goodIn_r _ [182, 7, 5, 183, 61, 184, 185, 41, 40, 42, 43, 13, 44, 186, 187, 188, 189, 190, 191, 192, 193, 194, 195, 196, 197, 198, 199, 200, 201, 202, 203, 204, 205, 206, 207, 208, 209, 210, 211, 212, 213, 214, 215] (by decide +kernel) (by decide +kernel)) (goodIn_sub (fun _ h => List.mem_cons_of_mem _ (List.mem_append_right _ h)) (by decide +kernel))
set_option maxRecDepth 20000 in
theorem gX9_commands_X9_ends : GoodIn wsX9_commands (wsV RX9 104 RX9 yX9_ends wsX9_ends) := goodIn_app (goodIn_of _ (by decide +kernel)) ggX9_commands_X9_ends
theorem dX9_commands_0 : decode cX9_commands 0 = .ok (.aload_n 0, 1) := by decide +kernel
theorem dX9_commands_1 : decode cX9_commands 1 = .ok (.aload_n 0, 1) := by decide +kernel
theorem dX9_commands_2 : decode cX9_commands 2 = .ok (.getfield 196, 3) := by decide +kernel
theorem dX9_commands_5 : decode cX9_commands 5 = .ok (.putfield 202, 3) := by decide +kernel
theorem dX9_commands_8 : decode cX9_commands 8 = .ok (.aload_n 0, 1) := by decide +kernel
theorem dX9_commands_9 : decode cX9_commands 9 = .ok (.iconst 0, 1) := by decide +kernel
theorem dX9_commands_10 : decode cX9_commands 10 = .ok (.putfield 196, 3) := by decide +kernel
theorem dX9_commands_13 : decode cX9_commands 13 = .ok (.aload_n 0, 1) := by decide +kernel
theorem dX9_commands_14 : decode cX9_commands 14 = .ok (.invokevirtual 223, 3) := by decide +kernel
theorem dX9_commands_17 : decode cX9_commands 17 = .ok (.aload_n 0, 1) := by decide +kernel
theorem dX9_commands_18 : decode cX9_commands 18 = .ok (.aload_n 0, 1) := by decide +kernel
theorem dX9_commands_19 : decode cX9_commands 19 = .ok (.getfield 205, 3) := by decide +kernel
theorem dX9_commands_22 : decode cX9_commands 22 = .ok (.putfield 28, 3) := by decide +kernel
theorem dX9_commands_25 : decode cX9_commands 25 = .ok (.aload_n 0, 1) := by decide +kernel
theorem dX9_commands_26 : decode cX9_commands 26 = .ok (.aload_n 0, 1) := by decide +kernel
theorem dX9_commands_27 : decode cX9_commands 27 = .ok (.getfield 205, 3) := by decide +kernel
theorem dX9_commands_30 : decode cX9_commands 30 = .ok (.iconst (-1), 1) := by decide +kernel
theorem dX9_commands_31 : decode cX9_commands 31 = .ok (.if_icmp .eq 7, 3) := by decide +kernel
theorem dX9_commands_34 : decode cX9_commands 34 = .ok (.iconst 1, 1) := by decide +kernel
theorem dX9_commands_35 : decode cX9_commands 35 = .ok (.goto 4, 3) := by decide +kernel
theorem dX9_commands_38 : decode cX9_commands 38 = .ok (.iconst 0, 1) := by decide +kernel
theorem dX9_commands_39 : decode cX9_commands 39 = .ok (.putfield 41, 3) := by decide +kernel
theorem dX9_commands_42 : decode cX9_commands 42 = .ok (.aload_n 0, 1) := by decide +kernel
theorem dX9_commands_43 : decode cX9_commands 43 = .ok (.getfield 41, 3) := by decide +kernel
theorem dX9_commands_46 : decode cX9_commands 46 = .ok (.ifCond .eq 5, 3) := by decide +kernel
theorem dX9_commands_49 : decode cX9_commands 49 = .ok (.iconst 0, 1) := by decide +kernel
theorem dX9_commands_50 : decode cX9_commands 50 = .ok (.ireturn, 1) := by decide +kernel
theorem dX9_commands_51 : decode cX9_commands 51 = .ok (.aload_n 0, 1) := by decide +kernel
theorem dX9_commands_52 : decode cX9_commands 52 = .ok (.invokevirtual 93, 3) := by decide +kernel
theorem dX9_commands_55 : decode cX9_commands 55 = .ok (.iconst 0, 1) := by decide +kernel
theorem dX9_commands_56 : decode cX9_commands 56 = .ok (.istore_n 1, 1) := by decide +kernel
theorem dX9_commands_57 : decode cX9_commands 57 = .ok (.iload_n 1, 1) := by decide +kernel
theorem dX9_commands_58 : decode cX9_commands 58 = .ok (.aload_n 0, 1) := by decide +kernel
theorem dX9_commands_59 : decode cX9_commands 59 = .ok (.getfield 214, 3) := by decide +kernel
theorem dX9_commands_62 : decode cX9_commands 62 = .ok (.if_icmp .ge 33, 3) := by decide +kernel
theorem dX9_commands_65 : decode cX9_commands 65 = .ok (.aload_n 0, 1) := by decide +kernel
theorem dX9_commands_66 : decode cX9_commands 66 = .ok (.getfield 44, 3) := by decide +kernel
theorem dX9_commands_69 : decode cX9_commands 69 = .ok (.ifCond .ne 26, 3) := by decide +kernel
theorem dX9_commands_72 : decode cX9_commands 72 = .ok (.aload_n 0, 1) := by decide +kernel
theorem dX9_commands_73 : decode cX9_commands 73 = .ok (.aload_n 0, 1) := by decide +kernel
theorem dX9_commands_74 : decode cX9_commands 74 = .ok (.getfield 35, 3) := by decide +kernel
theorem dX9_commands_77 : decode cX9_commands 77 = .ok (.iload_n 1, 1) := by decide +kernel
theorem dX9_commands_78 : decode cX9_commands 78 = .ok (.iaload, 1) := by decide +kernel
theorem dX9_commands_79 : decode cX9_commands 79 = .ok (.aload_n 0, 1) := by decide +kernel
theorem dX9_commands_80 : decode cX9_commands 80 = .ok (.getfield 38, 3) := by decide +kernel
theorem dX9_commands_83 : decode cX9_commands 83 = .ok (.iload_n 1, 1) := by decide +kernel
theorem dX9_commands_84 : decode cX9_commands 84 = .ok (.iaload, 1) := by decide +kernel
theorem dX9_commands_85 : decode cX9_commands 85 = .ok (.invokevirtual 226, 3) := by decide +kernel
theorem dX9_commands_88 : decode cX9_commands 88 = .ok (.istore_n 2, 1) := by decide +kernel
theorem dX9_commands_89 : decode cX9_commands 89 = .ok (.iinc 1 1, 3) := by decide +kernel
theorem dX9_commands_92 : decode cX9_commands 92 = .ok (.goto (-35), 3) := by decide +kernel
theorem dX9_commands_95 : decode cX9_commands 95 = .ok (.aload_n 0, 1) := by decide +kernel
theorem dX9_commands_96 : decode cX9_commands 96 = .ok (.aload_n 0, 1) := by decide +kernel
theorem dX9_commands_97 : decode cX9_commands 97 = .ok (.getfield 214, 3) := by decide +kernel
theorem dX9_commands_100 : decode cX9_commands 100 = .ok (.iconst 2, 1) := by decide +kernel
theorem dX9_commands_101 : decode cX9_commands 101 = .ok (.iload_n 1, 1) := by decide +kernel
theorem dX9_commands_102 : decode cX9_commands 102 = .ok (.iconst 1, 1) := by decide +kernel
theorem dX9_commands_103 : decode cX9_commands 103 = .ok (.isub, 1) := by decide +kernel
theorem dX9_commands_104 : decode cX9_commands 104 = .ok (.invokevirtual 104, 3) := by decide +kernel
theorem dX9_commands_107 : decode cX9_commands 107 = .ok (.ireturn, 1) := by decide +kernel
theorem dX9_faultPosition_0 : decode cX9_faultPosition 0 = .ok (.aload_n 0, 1) := by decide +kernel
theorem dX9_faultPosition_1 : decode cX9_faultPosition 1 = .ok (.iconst 0, 1) := by decide +kernel
theorem dX9_faultPosition_2 : decode cX9_faultPosition 2 = .ok (.putfield 41, 3) := by decide +kernel
theorem dX9_faultPosition_5 : decode cX9_faultPosition 5 = .ok (.aload_n 0, 1) := by decide +kernel
theorem dX9_faultPosition_6 : decode cX9_faultPosition 6 = .ok (.getfield 28, 3) := by decide +kernel
theorem dX9_faultPosition_9 : decode cX9_faultPosition 9 = .ok (.ireturn, 1) := by decide +kernel
theorem dX9_put_0 : decode cX9_put 0 = .ok (.aload_n 0, 1) := by decide +kernel
theorem dX9_put_1 : decode cX9_put 1 = .ok (.getfield 32, 3) := by decide +kernel
theorem dX9_put_4 : decode cX9_put 4 = .ok (.iload_n 1, 1) := by decide +kernel
theorem dX9_put_5 : decode cX9_put 5 = .ok (.iload_n 2, 1) := by decide +kernel
theorem dX9_put_6 : decode cX9_put 6 = .ok (.iastore, 1) := by decide +kernel
theorem dX9_put_7 : decode cX9_put 7 = .ok (.iload_n 1, 1) := by decide +kernel
theorem dX9_put_8 : decode cX9_put 8 = .ok (.iconst 1, 1) := by decide +kernel
theorem dX9_put_9 : decode cX9_put 9 = .ok (.iadd, 1) := by decide +kernel
theorem dX9_put_10 : decode cX9_put 10 = .ok (.ireturn, 1) := by decide +kernel
set_option maxRecDepth 20000 in
theorem ggX9_writes_X9_put : GoodIn wsX9_writes wsX9_put := goodIn_ca (goodIn_r _ [5, 6, 7, 8, 9, 10, 11, 12, 13, 14, 15, 16, 17, 18, 19, 20, 21, 22, 23, 24, 25, 26, 27, 28, 29, 30] (by decide +kernel) (by decide +kernel)) (goodIn_sub (fun _ h => List.mem_cons_of_mem _ (List.mem_append_right _ h)) (by decide +kernel))
set_option maxRecDepth 20000 in
theorem gX9_writes_X9_put : GoodIn wsX9_writes (wsV RX9 229 RX9 yX9_put wsX9_put) := goodIn_app (goodIn_of _ (by decide +kernel)) ggX9_writes_X9_put
theorem dX9_writes_0 : decode cX9_writes 0 = .ok (.iload_n 1, 1) := by decide +kernel
theorem dX9_writes_1 : decode cX9_writes 1 = .ok (.istore_n 3, 1) := by decide +kernel
theorem dX9_writes_2 : decode cX9_writes 2 = .ok (.iconst 1, 1) := by decide +kernel
theorem dX9_writes_3 : decode cX9_writes 3 = .ok (.istore 4, 2) := by decide +kernel
theorem dX9_writes_5 : decode cX9_writes 5 = .ok (.iload_n 2, 1) := by decide +kernel
theorem dX9_writes_6 : decode cX9_writes 6 = .ok (.iload 4, 2) := by decide +kernel
theorem dX9_writes_8 : decode cX9_writes 8 = .ok (.idiv, 1) := by decide +kernel
theorem dX9_writes_9 : decode cX9_writes 9 = .ok (.bipush 10, 2) := by decide +kernel
theorem dX9_writes_11 : decode cX9_writes 11 = .ok (.if_icmp .lt 13, 3) := by decide +kernel
theorem dX9_writes_14 : decode cX9_writes 14 = .ok (.iload 4, 2) := by decide +kernel
theorem dX9_writes_16 : decode cX9_writes 16 = .ok (.bipush 10, 2) := by decide +kernel
theorem dX9_writes_18 : decode cX9_writes 18 = .ok (.imul, 1) := by decide +kernel
theorem dX9_writes_19 : decode cX9_writes 19 = .ok (.istore 4, 2) := by decide +kernel
theorem dX9_writes_21 : decode cX9_writes 21 = .ok (.goto (-16), 3) := by decide +kernel
theorem dX9_writes_24 : decode cX9_writes 24 = .ok (.iload 4, 2) := by decide +kernel
theorem dX9_writes_26 : decode cX9_writes 26 = .ok (.ifCond .le 29, 3) := by decide +kernel
theorem dX9_writes_29 : decode cX9_writes 29 = .ok (.aload_n 0, 1) := by decide +kernel
theorem dX9_writes_30 : decode cX9_writes 30 = .ok (.iload_n 3, 1) := by decide +kernel
theorem dX9_writes_31 : decode cX9_writes 31 = .ok (.bipush 48, 2) := by decide +kernel
theorem dX9_writes_33 : decode cX9_writes 33 = .ok (.iload_n 2, 1) := by decide +kernel
theorem dX9_writes_34 : decode cX9_writes 34 = .ok (.iload 4, 2) := by decide +kernel
theorem dX9_writes_36 : decode cX9_writes 36 = .ok (.idiv, 1) := by decide +kernel
theorem dX9_writes_37 : decode cX9_writes 37 = .ok (.bipush 10, 2) := by decide +kernel
theorem dX9_writes_39 : decode cX9_writes 39 = .ok (.irem, 1) := by decide +kernel
theorem dX9_writes_40 : decode cX9_writes 40 = .ok (.iadd, 1) := by decide +kernel
theorem dX9_writes_41 : decode cX9_writes 41 = .ok (.invokevirtual 229, 3) := by decide +kernel
theorem dX9_writes_44 : decode cX9_writes 44 = .ok (.istore_n 3, 1) := by decide +kernel
theorem dX9_writes_45 : decode cX9_writes 45 = .ok (.iload 4, 2) := by decide +kernel
theorem dX9_writes_47 : decode cX9_writes 47 = .ok (.bipush 10, 2) := by decide +kernel
theorem dX9_writes_49 : decode cX9_writes 49 = .ok (.idiv, 1) := by decide +kernel
theorem dX9_writes_50 : decode cX9_writes 50 = .ok (.istore 4, 2) := by decide +kernel
theorem dX9_writes_52 : decode cX9_writes 52 = .ok (.goto (-28), 3) := by decide +kernel
theorem dX9_writes_55 : decode cX9_writes 55 = .ok (.iload_n 3, 1) := by decide +kernel
theorem dX9_writes_56 : decode cX9_writes 56 = .ok (.ireturn, 1) := by decide +kernel
set_option maxRecDepth 20000 in
theorem ggX9_line_X9_isIn : GoodIn wsX9_line wsX9_isIn := goodIn_r _ [7] (by decide +kernel) (by decide +kernel)
set_option maxRecDepth 20000 in
theorem gX9_line_X9_isIn : GoodIn wsX9_line (va_wsS RX9 69 yX9_isIn wsX9_isIn) := goodIn_app (goodIn_of _ (by decide +kernel)) ggX9_line_X9_isIn
set_option maxRecDepth 20000 in
theorem ggX9_line_X9_put : GoodIn wsX9_line wsX9_put := goodIn_ca (goodIn_r _ [11, 12, 17, 18, 19, 20, 21, 22, 23, 24, 25, 26, 27, 28, 29, 30, 31, 32, 33, 34, 35, 36, 37, 38, 39, 40] (by decide +kernel) (by decide +kernel)) (goodIn_sub (fun _ h => List.mem_cons_of_mem _ (List.mem_append_left _ (List.mem_append_right _ h))) (by decide +kernel))
set_option maxRecDepth 20000 in
theorem gX9_line_X9_put : GoodIn wsX9_line (wsV RX9 229 RX9 yX9_put wsX9_put) := goodIn_app (goodIn_of _ (by decide +kernel)) ggX9_line_X9_put
set_option maxRecDepth 20000 in
theorem ggX9_line_X9_writes : GoodIn wsX9_line wsX9_writes := goodIn_ca (goodIn_ca (goodIn_r _ [16, 8, 9, 10, 6, 11, 12, 17, 18, 19, 20, 21, 22, 23, 24, 25, 26, 27, 28, 29, 30, 31, 32, 33, 34, 35, 36, 37, 38, 39, 40] (by decide +kernel) (by decide +kernel)) (goodIn_sub (fun _ h => List.mem_cons_of_mem _ (List.mem_append_right _ h)) (by decide +kernel))) (goodIn_sub (fun _ h => List.mem_cons_of_mem _ (List.mem_append_left _ (List.mem_append_right _ h))) (by decide +kernel))
set_option maxRecDepth 20000 in
theorem gX9_line_X9_writes : GoodIn wsX9_line (wsV RX9 232 RX9 yX9_writes wsX9_writes) := goodIn_app (goodIn_of _ (by decide +kernel)) ggX9_line_X9_writes
theorem dX9_line_0 : decode cX9_line 0 = .ok (.aload_n 0, 1) := by decide +kernel
theorem dX9_line_1 : decode cX9_line 1 = .ok (.iload_n 1, 1) := by decide +kernel
theorem dX9_line_2 : decode cX9_line 2 = .ok (.iconst 0, 1) := by decide +kernel
theorem dX9_line_3 : decode cX9_line 3 = .ok (.aload_n 0, 1) := by decide +kernel
theorem dX9_line_4 : decode cX9_line 4 = .ok (.getfield 9, 3) := by decide +kernel
theorem dX9_line_7 : decode cX9_line 7 = .ok (.bipush 122, 2) := by decide +kernel
theorem dX9_line_9 : decode cX9_line 9 = .ok (.iaload, 1) := by decide +kernel
theorem dX9_line_10 : decode cX9_line 10 = .ok (.iconst 1, 1) := by decide +kernel
theorem dX9_line_11 : decode cX9_line 11 = .ok (.isub, 1) := by decide +kernel
theorem dX9_line_12 : decode cX9_line 12 = .ok (.invokestatic 69, 3) := by decide +kernel
theorem dX9_line_15 : decode cX9_line 15 = .ok (.ifCond .eq 7, 3) := by decide +kernel
theorem dX9_line_18 : decode cX9_line 18 = .ok (.iconst 0, 1) := by decide +kernel
theorem dX9_line_19 : decode cX9_line 19 = .ok (.goto 4, 3) := by decide +kernel
theorem dX9_line_22 : decode cX9_line 22 = .ok (.iconst 1, 1) := by decide +kernel
theorem dX9_line_23 : decode cX9_line 23 = .ok (.putfield 41, 3) := by decide +kernel
theorem dX9_line_26 : decode cX9_line 26 = .ok (.aload_n 0, 1) := by decide +kernel
theorem dX9_line_27 : decode cX9_line 27 = .ok (.getfield 41, 3) := by decide +kernel
theorem dX9_line_30 : decode cX9_line 30 = .ok (.ifCond .eq 5, 3) := by decide +kernel
theorem dX9_line_33 : decode cX9_line 33 = .ok (.iconst 0, 1) := by decide +kernel
theorem dX9_line_34 : decode cX9_line 34 = .ok (.ireturn, 1) := by decide +kernel
theorem dX9_line_35 : decode cX9_line 35 = .ok (.bipush 123, 2) := by decide +kernel
theorem dX9_line_37 : decode cX9_line 37 = .ok (.iconst 4, 1) := by decide +kernel
theorem dX9_line_38 : decode cX9_line 38 = .ok (.iload_n 1, 1) := by decide +kernel
theorem dX9_line_39 : decode cX9_line 39 = .ok (.imul, 1) := by decide +kernel
theorem dX9_line_40 : decode cX9_line 40 = .ok (.iadd, 1) := by decide +kernel
theorem dX9_line_41 : decode cX9_line 41 = .ok (.istore_n 2, 1) := by decide +kernel
theorem dX9_line_42 : decode cX9_line 42 = .ok (.aload_n 0, 1) := by decide +kernel
theorem dX9_line_43 : decode cX9_line 43 = .ok (.aload_n 0, 1) := by decide +kernel
theorem dX9_line_44 : decode cX9_line 44 = .ok (.aload_n 0, 1) := by decide +kernel
theorem dX9_line_45 : decode cX9_line 45 = .ok (.iconst 0, 1) := by decide +kernel
theorem dX9_line_46 : decode cX9_line 46 = .ok (.bipush 100, 2) := by decide +kernel
theorem dX9_line_48 : decode cX9_line 48 = .ok (.invokevirtual 229, 3) := by decide +kernel
theorem dX9_line_51 : decode cX9_line 51 = .ok (.aload_n 0, 1) := by decide +kernel
theorem dX9_line_52 : decode cX9_line 52 = .ok (.getfield 9, 3) := by decide +kernel
theorem dX9_line_55 : decode cX9_line 55 = .ok (.iload_n 2, 1) := by decide +kernel
theorem dX9_line_56 : decode cX9_line 56 = .ok (.iconst 1, 1) := by decide +kernel
theorem dX9_line_57 : decode cX9_line 57 = .ok (.iadd, 1) := by decide +kernel
theorem dX9_line_58 : decode cX9_line 58 = .ok (.iaload, 1) := by decide +kernel
theorem dX9_line_59 : decode cX9_line 59 = .ok (.invokevirtual 232, 3) := by decide +kernel
theorem dX9_line_62 : decode cX9_line 62 = .ok (.bipush 32, 2) := by decide +kernel
theorem dX9_line_64 : decode cX9_line 64 = .ok (.invokevirtual 229, 3) := by decide +kernel
theorem dX9_line_67 : decode cX9_line 67 = .ok (.istore_n 3, 1) := by decide +kernel
theorem dX9_line_68 : decode cX9_line 68 = .ok (.aload_n 0, 1) := by decide +kernel
theorem dX9_line_69 : decode cX9_line 69 = .ok (.getfield 9, 3) := by decide +kernel
theorem dX9_line_72 : decode cX9_line 72 = .ok (.iload_n 2, 1) := by decide +kernel
theorem dX9_line_73 : decode cX9_line 73 = .ok (.iaload, 1) := by decide +kernel
theorem dX9_line_74 : decode cX9_line 74 = .ok (.iconst 2, 1) := by decide +kernel
theorem dX9_line_75 : decode cX9_line 75 = .ok (.if_icmp .ge 60, 3) := by decide +kernel
theorem dX9_line_78 : decode cX9_line 78 = .ok (.aload_n 0, 1) := by decide +kernel
theorem dX9_line_79 : decode cX9_line 79 = .ok (.aload_n 0, 1) := by decide +kernel
theorem dX9_line_80 : decode cX9_line 80 = .ok (.iload_n 3, 1) := by decide +kernel
theorem dX9_line_81 : decode cX9_line 81 = .ok (.bipush 104, 2) := by decide +kernel
theorem dX9_line_83 : decode cX9_line 83 = .ok (.invokevirtual 229, 3) := by decide +kernel
theorem dX9_line_86 : decode cX9_line 86 = .ok (.aload_n 0, 1) := by decide +kernel
theorem dX9_line_87 : decode cX9_line 87 = .ok (.getfield 9, 3) := by decide +kernel
theorem dX9_line_90 : decode cX9_line 90 = .ok (.iload_n 2, 1) := by decide +kernel
theorem dX9_line_91 : decode cX9_line 91 = .ok (.iconst 2, 1) := by decide +kernel
theorem dX9_line_92 : decode cX9_line 92 = .ok (.iadd, 1) := by decide +kernel
theorem dX9_line_93 : decode cX9_line 93 = .ok (.iaload, 1) := by decide +kernel
theorem dX9_line_94 : decode cX9_line 94 = .ok (.invokevirtual 232, 3) := by decide +kernel
theorem dX9_line_97 : decode cX9_line 97 = .ok (.istore_n 3, 1) := by decide +kernel
theorem dX9_line_98 : decode cX9_line 98 = .ok (.aload_n 0, 1) := by decide +kernel
theorem dX9_line_99 : decode cX9_line 99 = .ok (.aload_n 0, 1) := by decide +kernel
theorem dX9_line_100 : decode cX9_line 100 = .ok (.iload_n 3, 1) := by decide +kernel
theorem dX9_line_101 : decode cX9_line 101 = .ok (.aload_n 0, 1) := by decide +kernel
theorem dX9_line_102 : decode cX9_line 102 = .ok (.getfield 9, 3) := by decide +kernel
theorem dX9_line_105 : decode cX9_line 105 = .ok (.iload_n 2, 1) := by decide +kernel
theorem dX9_line_106 : decode cX9_line 106 = .ok (.iaload, 1) := by decide +kernel
theorem dX9_line_107 : decode cX9_line 107 = .ok (.ifCond .ne 8, 3) := by decide +kernel
theorem dX9_line_110 : decode cX9_line 110 = .ok (.bipush 98, 2) := by decide +kernel
theorem dX9_line_112 : decode cX9_line 112 = .ok (.goto 5, 3) := by decide +kernel
theorem dX9_line_115 : decode cX9_line 115 = .ok (.bipush 120, 2) := by decide +kernel
theorem dX9_line_117 : decode cX9_line 117 = .ok (.invokevirtual 229, 3) := by decide +kernel
theorem dX9_line_120 : decode cX9_line 120 = .ok (.aload_n 0, 1) := by decide +kernel
theorem dX9_line_121 : decode cX9_line 121 = .ok (.getfield 9, 3) := by decide +kernel
theorem dX9_line_124 : decode cX9_line 124 = .ok (.iload_n 2, 1) := by decide +kernel
theorem dX9_line_125 : decode cX9_line 125 = .ok (.iconst 3, 1) := by decide +kernel
theorem dX9_line_126 : decode cX9_line 126 = .ok (.iadd, 1) := by decide +kernel
theorem dX9_line_127 : decode cX9_line 127 = .ok (.iaload, 1) := by decide +kernel
theorem dX9_line_128 : decode cX9_line 128 = .ok (.invokevirtual 232, 3) := by decide +kernel
theorem dX9_line_131 : decode cX9_line 131 = .ok (.istore_n 3, 1) := by decide +kernel
theorem dX9_line_132 : decode cX9_line 132 = .ok (.goto 94, 3) := by decide +kernel
theorem dX9_line_135 : decode cX9_line 135 = .ok (.aload_n 0, 1) := by decide +kernel
theorem dX9_line_136 : decode cX9_line 136 = .ok (.getfield 9, 3) := by decide +kernel
theorem dX9_line_139 : decode cX9_line 139 = .ok (.iload_n 2, 1) := by decide +kernel
theorem dX9_line_140 : decode cX9_line 140 = .ok (.iaload, 1) := by decide +kernel
theorem dX9_line_141 : decode cX9_line 141 = .ok (.iconst 2, 1) := by decide +kernel
theorem dX9_line_142 : decode cX9_line 142 = .ok (.if_icmp .ne 38, 3) := by decide +kernel
theorem dX9_line_145 : decode cX9_line 145 = .ok (.aload_n 0, 1) := by decide +kernel
theorem dX9_line_146 : decode cX9_line 146 = .ok (.aload_n 0, 1) := by decide +kernel
theorem dX9_line_147 : decode cX9_line 147 = .ok (.aload_n 0, 1) := by decide +kernel
theorem dX9_line_148 : decode cX9_line 148 = .ok (.aload_n 0, 1) := by decide +kernel
theorem dX9_line_149 : decode cX9_line 149 = .ok (.iload_n 3, 1) := by decide +kernel
theorem dX9_line_150 : decode cX9_line 150 = .ok (.bipush 108, 2) := by decide +kernel
theorem dX9_line_152 : decode cX9_line 152 = .ok (.invokevirtual 229, 3) := by decide +kernel
theorem dX9_line_155 : decode cX9_line 155 = .ok (.bipush 97, 2) := by decide +kernel
theorem dX9_line_157 : decode cX9_line 157 = .ok (.invokevirtual 229, 3) := by decide +kernel
theorem dX9_line_160 : decode cX9_line 160 = .ok (.bipush 119, 2) := by decide +kernel
theorem dX9_line_162 : decode cX9_line 162 = .ok (.invokevirtual 229, 3) := by decide +kernel
theorem dX9_line_165 : decode cX9_line 165 = .ok (.aload_n 0, 1) := by decide +kernel
theorem dX9_line_166 : decode cX9_line 166 = .ok (.getfield 9, 3) := by decide +kernel
theorem dX9_line_169 : decode cX9_line 169 = .ok (.iload_n 2, 1) := by decide +kernel
theorem dX9_line_170 : decode cX9_line 170 = .ok (.iconst 2, 1) := by decide +kernel
theorem dX9_line_171 : decode cX9_line 171 = .ok (.iadd, 1) := by decide +kernel
theorem dX9_line_172 : decode cX9_line 172 = .ok (.iaload, 1) := by decide +kernel
theorem dX9_line_173 : decode cX9_line 173 = .ok (.invokevirtual 232, 3) := by decide +kernel
theorem dX9_line_176 : decode cX9_line 176 = .ok (.istore_n 3, 1) := by decide +kernel
theorem dX9_line_177 : decode cX9_line 177 = .ok (.goto 49, 3) := by decide +kernel
theorem dX9_line_180 : decode cX9_line 180 = .ok (.aload_n 0, 1) := by decide +kernel
theorem dX9_line_181 : decode cX9_line 181 = .ok (.aload_n 0, 1) := by decide +kernel
theorem dX9_line_182 : decode cX9_line 182 = .ok (.aload_n 0, 1) := by decide +kernel
theorem dX9_line_183 : decode cX9_line 183 = .ok (.aload_n 0, 1) := by decide +kernel
theorem dX9_line_184 : decode cX9_line 184 = .ok (.iload_n 3, 1) := by decide +kernel
theorem dX9_line_185 : decode cX9_line 185 = .ok (.bipush 108, 2) := by decide +kernel
theorem dX9_line_187 : decode cX9_line 187 = .ok (.invokevirtual 229, 3) := by decide +kernel
theorem dX9_line_190 : decode cX9_line 190 = .ok (.bipush 101, 2) := by decide +kernel
theorem dX9_line_192 : decode cX9_line 192 = .ok (.invokevirtual 229, 3) := by decide +kernel
theorem dX9_line_195 : decode cX9_line 195 = .ok (.bipush 97, 2) := by decide +kernel
theorem dX9_line_197 : decode cX9_line 197 = .ok (.invokevirtual 229, 3) := by decide +kernel
theorem dX9_line_200 : decode cX9_line 200 = .ok (.bipush 116, 2) := by decide +kernel
theorem dX9_line_202 : decode cX9_line 202 = .ok (.invokevirtual 229, 3) := by decide +kernel
theorem dX9_line_205 : decode cX9_line 205 = .ok (.istore_n 3, 1) := by decide +kernel
theorem dX9_line_206 : decode cX9_line 206 = .ok (.aload_n 0, 1) := by decide +kernel
theorem dX9_line_207 : decode cX9_line 207 = .ok (.aload_n 0, 1) := by decide +kernel
theorem dX9_line_208 : decode cX9_line 208 = .ok (.aload_n 0, 1) := by decide +kernel
theorem dX9_line_209 : decode cX9_line 209 = .ok (.iload_n 3, 1) := by decide +kernel
theorem dX9_line_210 : decode cX9_line 210 = .ok (.bipush 104, 2) := by decide +kernel
theorem dX9_line_212 : decode cX9_line 212 = .ok (.invokevirtual 229, 3) := by decide +kernel
theorem dX9_line_215 : decode cX9_line 215 = .ok (.bipush 101, 2) := by decide +kernel
theorem dX9_line_217 : decode cX9_line 217 = .ok (.invokevirtual 229, 3) := by decide +kernel
theorem dX9_line_220 : decode cX9_line 220 = .ok (.bipush 114, 2) := by decide +kernel
theorem dX9_line_222 : decode cX9_line 222 = .ok (.invokevirtual 229, 3) := by decide +kernel
theorem dX9_line_225 : decode cX9_line 225 = .ok (.istore_n 3, 1) := by decide +kernel
theorem dX9_line_226 : decode cX9_line 226 = .ok (.aload_n 0, 1) := by decide +kernel
theorem dX9_line_227 : decode cX9_line 227 = .ok (.iload_n 3, 1) := by decide +kernel
theorem dX9_line_228 : decode cX9_line 228 = .ok (.putfield 235, 3) := by decide +kernel
theorem dX9_line_231 : decode cX9_line 231 = .ok (.aload_n 0, 1) := by decide +kernel
theorem dX9_line_232 : decode cX9_line 232 = .ok (.getfield 235, 3) := by decide +kernel
theorem dX9_line_235 : decode cX9_line 235 = .ok (.ireturn, 1) := by decide +kernel
set_option maxRecDepth 20000 in
theorem ggX9_character_X9_isIn : GoodIn wsX9_character wsX9_isIn := goodIn_r _ [7] (by decide +kernel) (by decide +kernel)
set_option maxRecDepth 20000 in
theorem gX9_character_X9_isIn : GoodIn wsX9_character (va_wsS RX9 69 yX9_isIn wsX9_isIn) := goodIn_app (goodIn_of _ (by decide +kernel)) ggX9_character_X9_isIn
theorem dX9_character_0 : decode cX9_character 0 = .ok (.aload_n 0, 1) := by decide +kernel
theorem dX9_character_1 : decode cX9_character 1 = .ok (.iload_n 1, 1) := by decide +kernel
theorem dX9_character_2 : decode cX9_character 2 = .ok (.iconst 0, 1) := by decide +kernel
theorem dX9_character_3 : decode cX9_character 3 = .ok (.aload_n 0, 1) := by decide +kernel
theorem dX9_character_4 : decode cX9_character 4 = .ok (.getfield 235, 3) := by decide +kernel
theorem dX9_character_7 : decode cX9_character 7 = .ok (.iconst 1, 1) := by decide +kernel
theorem dX9_character_8 : decode cX9_character 8 = .ok (.isub, 1) := by decide +kernel
theorem dX9_character_9 : decode cX9_character 9 = .ok (.invokestatic 69, 3) := by decide +kernel
theorem dX9_character_12 : decode cX9_character 12 = .ok (.ifCond .eq 7, 3) := by decide +kernel
theorem dX9_character_15 : decode cX9_character 15 = .ok (.iconst 0, 1) := by decide +kernel
theorem dX9_character_16 : decode cX9_character 16 = .ok (.goto 4, 3) := by decide +kernel
theorem dX9_character_19 : decode cX9_character 19 = .ok (.iconst 1, 1) := by decide +kernel
theorem dX9_character_20 : decode cX9_character 20 = .ok (.putfield 41, 3) := by decide +kernel
theorem dX9_character_23 : decode cX9_character 23 = .ok (.aload_n 0, 1) := by decide +kernel
theorem dX9_character_24 : decode cX9_character 24 = .ok (.getfield 41, 3) := by decide +kernel
theorem dX9_character_27 : decode cX9_character 27 = .ok (.ifCond .ne 13, 3) := by decide +kernel
theorem dX9_character_30 : decode cX9_character 30 = .ok (.aload_n 0, 1) := by decide +kernel
theorem dX9_character_31 : decode cX9_character 31 = .ok (.getfield 32, 3) := by decide +kernel
theorem dX9_character_34 : decode cX9_character 34 = .ok (.iload_n 1, 1) := by decide +kernel
theorem dX9_character_35 : decode cX9_character 35 = .ok (.iaload, 1) := by decide +kernel
theorem dX9_character_36 : decode cX9_character 36 = .ok (.i2c, 1) := by decide +kernel
theorem dX9_character_37 : decode cX9_character 37 = .ok (.goto 4, 3) := by decide +kernel
theorem dX9_character_40 : decode cX9_character 40 = .ok (.iconst 0, 1) := by decide +kernel
theorem dX9_character_41 : decode cX9_character 41 = .ok (.ireturn, 1) := by decide +kernel
set_option maxRecDepth 20000 in
theorem ggX9_meanTemper_X9_of : GoodIn wsX9_meanTemper wsX9_of := goodIn_ca (goodIn_r _ [7, 1, 8, 9, 10, 11, 12, 13, 14, 15, 16, 17, 18, 19, 20, 21, 22, 23, 24, 25, 26, 27, 28, 29, 30, 31] (by decide +kernel) (by decide +kernel)) (goodIn_sub (fun _ h => List.mem_cons_of_mem _ (List.mem_append_right _ h)) (by decide +kernel))
set_option maxRecDepth 20000 in
theorem gX9_meanTemper_X9_of : GoodIn wsX9_meanTemper (wsV RX9 77 RX9 yX9_of wsX9_of) := goodIn_app (goodIn_of _ (by decide +kernel)) ggX9_meanTemper_X9_of
theorem dX9_meanTemper_0 : decode cX9_meanTemper 0 = .ok (.iconst 0, 1) := by decide +kernel
theorem dX9_meanTemper_1 : decode cX9_meanTemper 1 = .ok (.istore_n 1, 1) := by decide +kernel
theorem dX9_meanTemper_2 : decode cX9_meanTemper 2 = .ok (.iconst 0, 1) := by decide +kernel
theorem dX9_meanTemper_3 : decode cX9_meanTemper 3 = .ok (.istore_n 2, 1) := by decide +kernel
theorem dX9_meanTemper_4 : decode cX9_meanTemper 4 = .ok (.iload_n 2, 1) := by decide +kernel
theorem dX9_meanTemper_5 : decode cX9_meanTemper 5 = .ok (.aload_n 0, 1) := by decide +kernel
theorem dX9_meanTemper_6 : decode cX9_meanTemper 6 = .ok (.getfield 9, 3) := by decide +kernel
theorem dX9_meanTemper_9 : decode cX9_meanTemper 9 = .ok (.iconst 0, 1) := by decide +kernel
theorem dX9_meanTemper_10 : decode cX9_meanTemper 10 = .ok (.iaload, 1) := by decide +kernel
theorem dX9_meanTemper_11 : decode cX9_meanTemper 11 = .ok (.if_icmp .ge 18, 3) := by decide +kernel
theorem dX9_meanTemper_14 : decode cX9_meanTemper 14 = .ok (.iload_n 1, 1) := by decide +kernel
theorem dX9_meanTemper_15 : decode cX9_meanTemper 15 = .ok (.aload_n 0, 1) := by decide +kernel
theorem dX9_meanTemper_16 : decode cX9_meanTemper 16 = .ok (.iload_n 2, 1) := by decide +kernel
theorem dX9_meanTemper_17 : decode cX9_meanTemper 17 = .ok (.iconst 2, 1) := by decide +kernel
theorem dX9_meanTemper_18 : decode cX9_meanTemper 18 = .ok (.invokevirtual 77, 3) := by decide +kernel
theorem dX9_meanTemper_21 : decode cX9_meanTemper 21 = .ok (.iadd, 1) := by decide +kernel
theorem dX9_meanTemper_22 : decode cX9_meanTemper 22 = .ok (.istore_n 1, 1) := by decide +kernel
theorem dX9_meanTemper_23 : decode cX9_meanTemper 23 = .ok (.iinc 2 1, 3) := by decide +kernel
theorem dX9_meanTemper_26 : decode cX9_meanTemper 26 = .ok (.goto (-22), 3) := by decide +kernel
theorem dX9_meanTemper_29 : decode cX9_meanTemper 29 = .ok (.aload_n 0, 1) := by decide +kernel
theorem dX9_meanTemper_30 : decode cX9_meanTemper 30 = .ok (.aload_n 0, 1) := by decide +kernel
theorem dX9_meanTemper_31 : decode cX9_meanTemper 31 = .ok (.getfield 9, 3) := by decide +kernel
theorem dX9_meanTemper_34 : decode cX9_meanTemper 34 = .ok (.iconst 0, 1) := by decide +kernel
theorem dX9_meanTemper_35 : decode cX9_meanTemper 35 = .ok (.iaload, 1) := by decide +kernel
theorem dX9_meanTemper_36 : decode cX9_meanTemper 36 = .ok (.ifCond .ne 7, 3) := by decide +kernel
theorem dX9_meanTemper_39 : decode cX9_meanTemper 39 = .ok (.iconst 1, 1) := by decide +kernel
theorem dX9_meanTemper_40 : decode cX9_meanTemper 40 = .ok (.goto 4, 3) := by decide +kernel
theorem dX9_meanTemper_43 : decode cX9_meanTemper 43 = .ok (.iconst 0, 1) := by decide +kernel
theorem dX9_meanTemper_44 : decode cX9_meanTemper 44 = .ok (.putfield 41, 3) := by decide +kernel
theorem dX9_meanTemper_47 : decode cX9_meanTemper 47 = .ok (.aload_n 0, 1) := by decide +kernel
theorem dX9_meanTemper_48 : decode cX9_meanTemper 48 = .ok (.getfield 41, 3) := by decide +kernel
theorem dX9_meanTemper_51 : decode cX9_meanTemper 51 = .ok (.ifCond .ne 16, 3) := by decide +kernel
theorem dX9_meanTemper_54 : decode cX9_meanTemper 54 = .ok (.iload_n 1, 1) := by decide +kernel
theorem dX9_meanTemper_55 : decode cX9_meanTemper 55 = .ok (.i2f, 1) := by decide +kernel
theorem dX9_meanTemper_56 : decode cX9_meanTemper 56 = .ok (.aload_n 0, 1) := by decide +kernel
theorem dX9_meanTemper_57 : decode cX9_meanTemper 57 = .ok (.getfield 9, 3) := by decide +kernel
theorem dX9_meanTemper_60 : decode cX9_meanTemper 60 = .ok (.iconst 0, 1) := by decide +kernel
theorem dX9_meanTemper_61 : decode cX9_meanTemper 61 = .ok (.iaload, 1) := by decide +kernel
theorem dX9_meanTemper_62 : decode cX9_meanTemper 62 = .ok (.i2f, 1) := by decide +kernel
theorem dX9_meanTemper_63 : decode cX9_meanTemper 63 = .ok (.fdiv, 1) := by decide +kernel
theorem dX9_meanTemper_64 : decode cX9_meanTemper 64 = .ok (.goto 4, 3) := by decide +kernel
theorem dX9_meanTemper_67 : decode cX9_meanTemper 67 = .ok (.fconst 0, 1) := by decide +kernel
theorem dX9_meanTemper_68 : decode cX9_meanTemper 68 = .ok (.freturn, 1) := by decide +kernel
set_option maxRecDepth 20000 in
theorem ggX9_share_X9_isHousehold : GoodIn wsX9_share wsX9_isHousehold := goodIn_ca (goodIn_r _ [7, 1, 8, 9, 6, 10, 15, 16, 17, 18, 19, 20, 21, 22, 23, 24, 25, 26, 27, 28, 29, 30, 31, 32, 33, 34, 35, 36, 37, 38] (by decide +kernel) (by decide +kernel)) (goodIn_sub (fun _ h => List.mem_cons_of_mem _ (List.mem_append_right _ h)) (by decide +kernel))
set_option maxRecDepth 20000 in
theorem gX9_share_X9_isHousehold : GoodIn wsX9_share (wsV RX9 127 RX9 yX9_isHousehold wsX9_isHousehold) := goodIn_app (goodIn_of _ (by decide +kernel)) ggX9_share_X9_isHousehold
set_option maxRecDepth 20000 in
theorem ggX9_share_X9_of : GoodIn wsX9_share wsX9_of := goodIn_ca (goodIn_r _ [14, 1, 15, 16, 17, 18, 19, 20, 21, 22, 23, 24, 25, 26, 27, 28, 29, 30, 31, 32, 33, 34, 35, 36, 37, 38] (by decide +kernel) (by decide +kernel)) (goodIn_sub (fun _ h => List.mem_cons_of_mem _ (List.mem_append_right _ h)) (by decide +kernel))
set_option maxRecDepth 20000 in
theorem gX9_share_X9_of : GoodIn wsX9_share (wsV RX9 77 RX9 yX9_of wsX9_of) := goodIn_app (goodIn_of _ (by decide +kernel)) ggX9_share_X9_of
theorem dX9_share_0 : decode cX9_share 0 = .ok (.aload_n 0, 1) := by decide +kernel
theorem dX9_share_1 : decode cX9_share 1 = .ok (.aload_n 0, 1) := by decide +kernel
theorem dX9_share_2 : decode cX9_share 2 = .ok (.iload_n 1, 1) := by decide +kernel
theorem dX9_share_3 : decode cX9_share 3 = .ok (.invokevirtual 127, 3) := by decide +kernel
theorem dX9_share_6 : decode cX9_share 6 = .ok (.ifCond .ne 7, 3) := by decide +kernel
theorem dX9_share_9 : decode cX9_share 9 = .ok (.iconst 1, 1) := by decide +kernel
theorem dX9_share_10 : decode cX9_share 10 = .ok (.goto 19, 3) := by decide +kernel
theorem dX9_share_13 : decode cX9_share 13 = .ok (.aload_n 0, 1) := by decide +kernel
theorem dX9_share_14 : decode cX9_share 14 = .ok (.getfield 9, 3) := by decide +kernel
theorem dX9_share_17 : decode cX9_share 17 = .ok (.sipush 210, 3) := by decide +kernel
theorem dX9_share_20 : decode cX9_share 20 = .ok (.iaload, 1) := by decide +kernel
theorem dX9_share_21 : decode cX9_share 21 = .ok (.ifCond .ne 7, 3) := by decide +kernel
theorem dX9_share_24 : decode cX9_share 24 = .ok (.iconst 2, 1) := by decide +kernel
theorem dX9_share_25 : decode cX9_share 25 = .ok (.goto 4, 3) := by decide +kernel
theorem dX9_share_28 : decode cX9_share 28 = .ok (.iconst 0, 1) := by decide +kernel
theorem dX9_share_29 : decode cX9_share 29 = .ok (.putfield 41, 3) := by decide +kernel
theorem dX9_share_32 : decode cX9_share 32 = .ok (.aload_n 0, 1) := by decide +kernel
theorem dX9_share_33 : decode cX9_share 33 = .ok (.getfield 41, 3) := by decide +kernel
theorem dX9_share_36 : decode cX9_share 36 = .ok (.ifCond .ne 23, 3) := by decide +kernel
theorem dX9_share_39 : decode cX9_share 39 = .ok (.aload_n 0, 1) := by decide +kernel
theorem dX9_share_40 : decode cX9_share 40 = .ok (.iload_n 1, 1) := by decide +kernel
theorem dX9_share_41 : decode cX9_share 41 = .ok (.iconst 5, 1) := by decide +kernel
theorem dX9_share_42 : decode cX9_share 42 = .ok (.invokevirtual 77, 3) := by decide +kernel
theorem dX9_share_45 : decode cX9_share 45 = .ok (.i2d, 1) := by decide +kernel
theorem dX9_share_46 : decode cX9_share 46 = .ok (.aload_n 0, 1) := by decide +kernel
theorem dX9_share_47 : decode cX9_share 47 = .ok (.getfield 9, 3) := by decide +kernel
theorem dX9_share_50 : decode cX9_share 50 = .ok (.sipush 210, 3) := by decide +kernel
theorem dX9_share_53 : decode cX9_share 53 = .ok (.iaload, 1) := by decide +kernel
theorem dX9_share_54 : decode cX9_share 54 = .ok (.i2d, 1) := by decide +kernel
theorem dX9_share_55 : decode cX9_share 55 = .ok (.ddiv, 1) := by decide +kernel
theorem dX9_share_56 : decode cX9_share 56 = .ok (.goto 4, 3) := by decide +kernel
theorem dX9_share_59 : decode cX9_share 59 = .ok (.dconst 0, 1) := by decide +kernel
theorem dX9_share_60 : decode cX9_share 60 = .ok (.dreturn, 1) := by decide +kernel
set_option maxRecDepth 20000 in
theorem ggX9_account_X9_isIn : GoodIn wsX9_account wsX9_isIn := goodIn_r _ [8] (by decide +kernel) (by decide +kernel)
set_option maxRecDepth 20000 in
theorem gX9_account_X9_isIn : GoodIn wsX9_account (va_wsS RX9 69 yX9_isIn wsX9_isIn) := goodIn_app (goodIn_of _ (by decide +kernel)) ggX9_account_X9_isIn
theorem dX9_account_0 : decode cX9_account 0 = .ok (.aload_n 0, 1) := by decide +kernel
theorem dX9_account_1 : decode cX9_account 1 = .ok (.iload_n 1, 1) := by decide +kernel
theorem dX9_account_2 : decode cX9_account 2 = .ok (.iconst 0, 1) := by decide +kernel
theorem dX9_account_3 : decode cX9_account 3 = .ok (.bipush 15, 2) := by decide +kernel
theorem dX9_account_5 : decode cX9_account 5 = .ok (.invokestatic 69, 3) := by decide +kernel
theorem dX9_account_8 : decode cX9_account 8 = .ok (.ifCond .eq 7, 3) := by decide +kernel
theorem dX9_account_11 : decode cX9_account 11 = .ok (.iconst 0, 1) := by decide +kernel
theorem dX9_account_12 : decode cX9_account 12 = .ok (.goto 4, 3) := by decide +kernel
theorem dX9_account_15 : decode cX9_account 15 = .ok (.iconst 1, 1) := by decide +kernel
theorem dX9_account_16 : decode cX9_account 16 = .ok (.putfield 41, 3) := by decide +kernel
theorem dX9_account_19 : decode cX9_account 19 = .ok (.iload_n 1, 1) := by decide +kernel
theorem dX9_account_20 : decode cX9_account 20 = .ok (.tableswitch 212 0 15 #[80, 89, 96, 104, 113, 122, 131, 140, 149, 158, 167, 176, 185, 194, 202, 207], 80) := by decide +kernel
theorem dX9_account_100 : decode cX9_account 100 = .ok (.aload_n 0, 1) := by decide +kernel
theorem dX9_account_101 : decode cX9_account 101 = .ok (.getfield 9, 3) := by decide +kernel
theorem dX9_account_104 : decode cX9_account 104 = .ok (.sipush 206, 3) := by decide +kernel
theorem dX9_account_107 : decode cX9_account 107 = .ok (.iaload, 1) := by decide +kernel
theorem dX9_account_108 : decode cX9_account 108 = .ok (.ireturn, 1) := by decide +kernel
theorem dX9_account_109 : decode cX9_account 109 = .ok (.aload_n 0, 1) := by decide +kernel
theorem dX9_account_110 : decode cX9_account 110 = .ok (.getfield 9, 3) := by decide +kernel
theorem dX9_account_113 : decode cX9_account 113 = .ok (.iconst 0, 1) := by decide +kernel
theorem dX9_account_114 : decode cX9_account 114 = .ok (.iaload, 1) := by decide +kernel
theorem dX9_account_115 : decode cX9_account 115 = .ok (.ireturn, 1) := by decide +kernel
theorem dX9_account_116 : decode cX9_account 116 = .ok (.aload_n 0, 1) := by decide +kernel
theorem dX9_account_117 : decode cX9_account 117 = .ok (.getfield 9, 3) := by decide +kernel
theorem dX9_account_120 : decode cX9_account 120 = .ok (.bipush 49, 2) := by decide +kernel
theorem dX9_account_122 : decode cX9_account 122 = .ok (.iaload, 1) := by decide +kernel
theorem dX9_account_123 : decode cX9_account 123 = .ok (.ireturn, 1) := by decide +kernel
theorem dX9_account_124 : decode cX9_account 124 = .ok (.aload_n 0, 1) := by decide +kernel
theorem dX9_account_125 : decode cX9_account 125 = .ok (.getfield 9, 3) := by decide +kernel
theorem dX9_account_128 : decode cX9_account 128 = .ok (.sipush 204, 3) := by decide +kernel
theorem dX9_account_131 : decode cX9_account 131 = .ok (.iaload, 1) := by decide +kernel
theorem dX9_account_132 : decode cX9_account 132 = .ok (.ireturn, 1) := by decide +kernel
theorem dX9_account_133 : decode cX9_account 133 = .ok (.aload_n 0, 1) := by decide +kernel
theorem dX9_account_134 : decode cX9_account 134 = .ok (.getfield 9, 3) := by decide +kernel
theorem dX9_account_137 : decode cX9_account 137 = .ok (.sipush 210, 3) := by decide +kernel
theorem dX9_account_140 : decode cX9_account 140 = .ok (.iaload, 1) := by decide +kernel
theorem dX9_account_141 : decode cX9_account 141 = .ok (.ireturn, 1) := by decide +kernel
theorem dX9_account_142 : decode cX9_account 142 = .ok (.aload_n 0, 1) := by decide +kernel
theorem dX9_account_143 : decode cX9_account 143 = .ok (.getfield 9, 3) := by decide +kernel
theorem dX9_account_146 : decode cX9_account 146 = .ok (.sipush 211, 3) := by decide +kernel
theorem dX9_account_149 : decode cX9_account 149 = .ok (.iaload, 1) := by decide +kernel
theorem dX9_account_150 : decode cX9_account 150 = .ok (.ireturn, 1) := by decide +kernel
theorem dX9_account_151 : decode cX9_account 151 = .ok (.aload_n 0, 1) := by decide +kernel
theorem dX9_account_152 : decode cX9_account 152 = .ok (.getfield 9, 3) := by decide +kernel
theorem dX9_account_155 : decode cX9_account 155 = .ok (.sipush 212, 3) := by decide +kernel
theorem dX9_account_158 : decode cX9_account 158 = .ok (.iaload, 1) := by decide +kernel
theorem dX9_account_159 : decode cX9_account 159 = .ok (.ireturn, 1) := by decide +kernel
theorem dX9_account_160 : decode cX9_account 160 = .ok (.aload_n 0, 1) := by decide +kernel
theorem dX9_account_161 : decode cX9_account 161 = .ok (.getfield 9, 3) := by decide +kernel
theorem dX9_account_164 : decode cX9_account 164 = .ok (.sipush 213, 3) := by decide +kernel
theorem dX9_account_167 : decode cX9_account 167 = .ok (.iaload, 1) := by decide +kernel
theorem dX9_account_168 : decode cX9_account 168 = .ok (.ireturn, 1) := by decide +kernel
theorem dX9_account_169 : decode cX9_account 169 = .ok (.aload_n 0, 1) := by decide +kernel
theorem dX9_account_170 : decode cX9_account 170 = .ok (.getfield 9, 3) := by decide +kernel
theorem dX9_account_173 : decode cX9_account 173 = .ok (.sipush 205, 3) := by decide +kernel
theorem dX9_account_176 : decode cX9_account 176 = .ok (.iaload, 1) := by decide +kernel
theorem dX9_account_177 : decode cX9_account 177 = .ok (.ireturn, 1) := by decide +kernel
theorem dX9_account_178 : decode cX9_account 178 = .ok (.aload_n 0, 1) := by decide +kernel
theorem dX9_account_179 : decode cX9_account 179 = .ok (.getfield 9, 3) := by decide +kernel
theorem dX9_account_182 : decode cX9_account 182 = .ok (.sipush 209, 3) := by decide +kernel
theorem dX9_account_185 : decode cX9_account 185 = .ok (.iaload, 1) := by decide +kernel
theorem dX9_account_186 : decode cX9_account 186 = .ok (.ireturn, 1) := by decide +kernel
theorem dX9_account_187 : decode cX9_account 187 = .ok (.aload_n 0, 1) := by decide +kernel
theorem dX9_account_188 : decode cX9_account 188 = .ok (.getfield 9, 3) := by decide +kernel
theorem dX9_account_191 : decode cX9_account 191 = .ok (.sipush 203, 3) := by decide +kernel
theorem dX9_account_194 : decode cX9_account 194 = .ok (.iaload, 1) := by decide +kernel
theorem dX9_account_195 : decode cX9_account 195 = .ok (.ireturn, 1) := by decide +kernel
theorem dX9_account_196 : decode cX9_account 196 = .ok (.aload_n 0, 1) := by decide +kernel
theorem dX9_account_197 : decode cX9_account 197 = .ok (.getfield 9, 3) := by decide +kernel
theorem dX9_account_200 : decode cX9_account 200 = .ok (.sipush 208, 3) := by decide +kernel
theorem dX9_account_203 : decode cX9_account 203 = .ok (.iaload, 1) := by decide +kernel
theorem dX9_account_204 : decode cX9_account 204 = .ok (.ireturn, 1) := by decide +kernel
theorem dX9_account_205 : decode cX9_account 205 = .ok (.aload_n 0, 1) := by decide +kernel
theorem dX9_account_206 : decode cX9_account 206 = .ok (.getfield 9, 3) := by decide +kernel
theorem dX9_account_209 : decode cX9_account 209 = .ok (.sipush 207, 3) := by decide +kernel
theorem dX9_account_212 : decode cX9_account 212 = .ok (.iaload, 1) := by decide +kernel
theorem dX9_account_213 : decode cX9_account 213 = .ok (.ireturn, 1) := by decide +kernel
theorem dX9_account_214 : decode cX9_account 214 = .ok (.aload_n 0, 1) := by decide +kernel
theorem dX9_account_215 : decode cX9_account 215 = .ok (.getfield 9, 3) := by decide +kernel
theorem dX9_account_218 : decode cX9_account 218 = .ok (.bipush 122, 2) := by decide +kernel
theorem dX9_account_220 : decode cX9_account 220 = .ok (.iaload, 1) := by decide +kernel
theorem dX9_account_221 : decode cX9_account 221 = .ok (.ireturn, 1) := by decide +kernel
theorem dX9_account_222 : decode cX9_account 222 = .ok (.aload_n 0, 1) := by decide +kernel
theorem dX9_account_223 : decode cX9_account 223 = .ok (.getfield 54, 3) := by decide +kernel
theorem dX9_account_226 : decode cX9_account 226 = .ok (.ireturn, 1) := by decide +kernel
theorem dX9_account_227 : decode cX9_account 227 = .ok (.aload_n 0, 1) := by decide +kernel
theorem dX9_account_228 : decode cX9_account 228 = .ok (.getfield 196, 3) := by decide +kernel
theorem dX9_account_231 : decode cX9_account 231 = .ok (.ireturn, 1) := by decide +kernel
theorem dX9_account_232 : decode cX9_account 232 = .ok (.iconst 0, 1) := by decide +kernel
theorem dX9_account_233 : decode cX9_account 233 = .ok (.ireturn, 1) := by decide +kernel
