theorem dL_cell_0 : decode cL_cell 0 = .ok (.ldc 7, 2) := by decide +kernel
theorem dL_cell_2 : decode cL_cell 2 = .ok (.iload_n 1, 1) := by decide +kernel
theorem dL_cell_3 : decode cL_cell 3 = .ok (.aload_n 0, 1) := by decide +kernel
theorem dL_cell_4 : decode cL_cell 4 = .ok (.arraylength, 1) := by decide +kernel
theorem dL_cell_5 : decode cL_cell 5 = .ok (.if_icmp .ge 9, 3) := by decide +kernel
theorem dL_cell_8 : decode cL_cell 8 = .ok (.aload_n 0, 1) := by decide +kernel
theorem dL_cell_9 : decode cL_cell 9 = .ok (.iload_n 1, 1) := by decide +kernel
theorem dL_cell_10 : decode cL_cell 10 = .ok (.iaload, 1) := by decide +kernel
theorem dL_cell_11 : decode cL_cell 11 = .ok (.goto 4, 3) := by decide +kernel
theorem dL_cell_14 : decode cL_cell 14 = .ok (.iconst 0, 1) := by decide +kernel
theorem dL_cell_15 : decode cL_cell 15 = .ok (.sipush 1009, 3) := by decide +kernel
theorem dL_cell_18 : decode cL_cell 18 = .ok (.iload_n 1, 1) := by decide +kernel
theorem dL_cell_19 : decode cL_cell 19 = .ok (.imul, 1) := by decide +kernel
theorem dL_cell_20 : decode cL_cell 20 = .ok (.iadd, 1) := by decide +kernel
theorem dL_cell_21 : decode cL_cell 21 = .ok (.imul, 1) := by decide +kernel
theorem dL_cell_22 : decode cL_cell 22 = .ok (.sipush 12345, 3) := by decide +kernel
theorem dL_cell_25 : decode cL_cell 25 = .ok (.iadd, 1) := by decide +kernel
theorem dL_cell_26 : decode cL_cell 26 = .ok (.istore_n 2, 1) := by decide +kernel
theorem dL_cell_27 : decode cL_cell 27 = .ok (.iload_n 2, 1) := by decide +kernel
theorem dL_cell_28 : decode cL_cell 28 = .ok (.iload_n 2, 1) := by decide +kernel
theorem dL_cell_29 : decode cL_cell 29 = .ok (.bipush 13, 2) := by decide +kernel
theorem dL_cell_31 : decode cL_cell 31 = .ok (.iushr, 1) := by decide +kernel
theorem dL_cell_32 : decode cL_cell 32 = .ok (.ixor, 1) := by decide +kernel
theorem dL_cell_33 : decode cL_cell 33 = .ok (.ldc 8, 2) := by decide +kernel
theorem dL_cell_35 : decode cL_cell 35 = .ok (.imul, 1) := by decide +kernel
theorem dL_cell_36 : decode cL_cell 36 = .ok (.istore_n 2, 1) := by decide +kernel
theorem dL_cell_37 : decode cL_cell 37 = .ok (.iload_n 2, 1) := by decide +kernel
theorem dL_cell_38 : decode cL_cell 38 = .ok (.iload_n 2, 1) := by decide +kernel
theorem dL_cell_39 : decode cL_cell 39 = .ok (.bipush 16, 2) := by decide +kernel
theorem dL_cell_41 : decode cL_cell 41 = .ok (.iushr, 1) := by decide +kernel
theorem dL_cell_42 : decode cL_cell 42 = .ok (.ixor, 1) := by decide +kernel
theorem dL_cell_43 : decode cL_cell 43 = .ok (.ireturn, 1) := by decide +kernel
set_option maxRecDepth 20000 in
theorem ggL_pick_L_cell : GoodIn wsL_pick wsL_cell := goodIn_r _ [4, 5, 6] (by decide +kernel) (by decide +kernel)
set_option maxRecDepth 20000 in
theorem gL_pick_L_cell : GoodIn wsL_pick (va_wsS RL 9 yL_cell wsL_cell) := goodIn_app (goodIn_of _ (by decide +kernel)) ggL_pick_L_cell
theorem dL_pick_0 : decode cL_pick 0 = .ok (.aload_n 0, 1) := by decide +kernel
theorem dL_pick_1 : decode cL_pick 1 = .ok (.iload_n 1, 1) := by decide +kernel
theorem dL_pick_2 : decode cL_pick 2 = .ok (.invokestatic 9, 3) := by decide +kernel
theorem dL_pick_5 : decode cL_pick 5 = .ok (.bipush 8, 2) := by decide +kernel
theorem dL_pick_7 : decode cL_pick 7 = .ok (.iushr, 1) := by decide +kernel
theorem dL_pick_8 : decode cL_pick 8 = .ok (.iload_n 2, 1) := by decide +kernel
theorem dL_pick_9 : decode cL_pick 9 = .ok (.irem, 1) := by decide +kernel
theorem dL_pick_10 : decode cL_pick 10 = .ok (.ireturn, 1) := by decide +kernel
set_option maxRecDepth 20000 in
theorem ggL_lay_L_pick : GoodIn wsL_lay wsL_pick := goodIn_r _ [4, 5, 6, 3, 7, 8, 9] (by decide +kernel) (by decide +kernel)
set_option maxRecDepth 20000 in
theorem gL_lay_L_pick : GoodIn wsL_lay (va_wsS RL 15 yL_pick wsL_pick) := goodIn_app (goodIn_of _ (by decide +kernel)) ggL_lay_L_pick
set_option maxRecDepth 20000 in
theorem ggL_lay_X8_rain : GoodIn wsL_lay wsX8_rain := goodIn_ca (goodIn_r _ [14, 15, 16, 17, 18, 19, 20, 21, 22, 23, 24, 13, 25, 26, 27, 28, 29, 30, 31, 32, 33, 34, 35, 36, 37, 38, 39, 40, 41, 42, 43, 44, 45, 46, 47, 48, 49, 50, 51, 52, 53, 54, 55, 56, 57, 58, 59, 60, 61, 62, 63, 64, 65, 66, 67, 68, 69, 70, 71, 72, 73, 74, 75, 76, 77, 78, 79, 80, 81, 82, 83, 84, 85, 86, 87, 88, 89, 90, 91, 92, 93, 94, 95, 96, 97, 98, 99, 100, 101, 102, 103, 104, 291, 292, 293, 294, 295, 296, 297, 298, 299, 300, 301, 302, 303, 304, 305, 306, 307, 308, 309, 310, 311, 312, 313, 314, 315, 316, 317, 318, 319, 320, 321, 322, 323, 324, 325, 326, 327, 328, 329, 330, 331, 332, 333, 334, 335, 336, 337, 338] (by decide +kernel) (by decide +kernel)) (goodIn_sub (fun _ h => List.mem_cons_of_mem _ (List.mem_append_left _ (List.mem_append_right _ h))) (by decide +kernel))
set_option maxRecDepth 20000 in
theorem gL_lay_X8_rain : GoodIn wsL_lay (wsV RL 19 RX8 yX8_rain wsX8_rain) := goodIn_app (goodIn_of _ (by decide +kernel)) ggL_lay_X8_rain
set_option maxRecDepth 20000 in
theorem ggL_lay_X8_household : GoodIn wsL_lay wsX8_household := goodIn_ca (goodIn_r _ [108, 15, 16, 17, 18, 19, 109, 21, 110, 111, 48, 24, 13, 25, 26, 27, 28, 29, 30, 31, 32, 33, 34, 35, 36, 37, 38, 39, 40, 41, 42, 43, 44, 45, 46, 47, 49, 50, 51, 52, 53, 54, 55, 56, 57, 58, 59, 60, 61, 62, 63, 64, 65, 66, 67, 68, 69, 70, 71, 72, 73, 74, 75, 76, 77, 78, 79, 80, 81, 82, 83, 84, 85, 86, 87, 88, 89, 90, 91, 92, 93, 94, 95, 96, 97, 98, 99, 100, 101, 112, 113, 114, 291, 292, 293, 294, 295, 296, 297, 298, 299, 300, 301, 302, 303, 304, 305, 306, 314, 315, 316, 317, 318, 319, 320, 321, 322, 307, 308, 309, 310, 311, 312, 313, 323, 324, 325, 326, 327, 328, 329, 330, 331, 332, 333, 334, 335, 336, 337, 338] (by decide +kernel) (by decide +kernel)) (goodIn_sub (fun _ h => List.mem_cons_of_mem _ (List.mem_append_left _ (List.mem_append_right _ h))) (by decide +kernel))
set_option maxRecDepth 20000 in
theorem gL_lay_X8_household : GoodIn wsL_lay (wsV RL 25 RX8 yX8_household wsX8_household) := goodIn_app (goodIn_of _ (by decide +kernel)) ggL_lay_X8_household
set_option maxRecDepth 20000 in
theorem ggL_lay_L_acts : GoodIn wsL_lay wsL_acts := goodIn_ca (goodIn_ca (goodIn_r _ [117, 118, 119, 120, 3, 121, 122, 123, 124, 13, 125, 126, 127, 17, 19, 128, 1, 2, 4, 5, 6, 7, 8, 9, 129, 130, 131, 132, 15, 16, 18, 133, 21, 134, 135, 48, 49, 136, 56, 137, 138, 59, 26, 27, 28, 29, 30, 31, 32, 33, 139, 73, 140, 141, 76, 77, 142, 143, 144, 145, 146, 147, 43, 148, 149, 150, 151, 152, 53, 50, 153, 154, 155, 61, 63, 34, 35, 36, 37, 38, 39, 40, 41, 42, 44, 45, 46, 47, 51, 52, 54, 55, 57, 58, 60, 62, 64, 65, 66, 67, 68, 69, 70, 71, 72, 74, 75, 78, 79, 80, 81, 82, 83, 84, 85, 86, 87, 88, 89, 90, 91, 92, 93, 94, 95, 96, 97, 98, 99, 100, 101, 156, 157, 158, 159, 160, 161, 162, 163, 164, 165, 166, 167, 168, 169, 170, 171, 172, 173, 174, 175, 176, 177, 178, 179, 180, 181, 182, 183, 184, 185, 186, 187, 188, 189, 190, 191, 192, 193, 194, 195, 196, 197, 198, 199, 200, 201, 202, 203, 204, 205, 206, 207, 208, 209, 210, 211, 24, 25, 212, 213, 214, 215, 216, 217, 218, 219, 220, 221, 222, 223, 224, 225, 226, 227, 228, 229, 230, 231, 232, 233, 234, 235, 236, 237, 238, 239, 240, 241, 242, 243, 244, 245, 246, 247, 248, 249, 250, 251, 252, 253, 254, 10, 11, 12, 14, 20, 22, 23, 102, 103, 104, 255, 256, 257, 258, 259, 260, 261, 262, 263, 264, 265, 266, 267, 268, 269, 270, 271, 272, 273, 274, 275, 276, 277, 278, 279, 280, 281, 282, 283, 284, 285, 286, 287, 288, 289, 290, 291, 292, 293, 294, 295, 296, 297, 298, 299, 300, 301, 302, 303, 304, 305, 306, 314, 315, 316, 317, 318, 319, 320, 321, 322, 323, 324, 325, 326, 327, 328, 329, 330, 331, 332, 333, 334, 335, 336, 337, 338, 311, 312, 313, 339, 340, 341, 342, 343, 307, 308, 309, 310] (by decide +kernel) (by decide +kernel)) (goodIn_sub (fun _ h => List.mem_cons_of_mem _ (List.mem_append_right _ h)) (by decide +kernel))) (goodIn_sub (fun _ h => List.mem_cons_of_mem _ (List.mem_append_left _ (List.mem_append_right _ h))) (by decide +kernel))
set_option maxRecDepth 20000 in
theorem gL_lay_L_acts : GoodIn wsL_lay (va_wsS RL 29 yL_acts wsL_acts) := goodIn_app (goodIn_of _ (by decide +kernel)) ggL_lay_L_acts
theorem dL_lay_0 : decode cL_lay 0 = .ok (.aload_n 0, 1) := by decide +kernel
theorem dL_lay_1 : decode cL_lay 1 = .ok (.aload_n 1, 1) := by decide +kernel
theorem dL_lay_2 : decode cL_lay 2 = .ok (.iconst 0, 1) := by decide +kernel
theorem dL_lay_3 : decode cL_lay 3 = .ok (.bipush 10, 2) := by decide +kernel
theorem dL_lay_5 : decode cL_lay 5 = .ok (.invokestatic 15, 3) := by decide +kernel
theorem dL_lay_8 : decode cL_lay 8 = .ok (.invokevirtual 19, 3) := by decide +kernel
theorem dL_lay_11 : decode cL_lay 11 = .ok (.istore_n 2, 1) := by decide +kernel
theorem dL_lay_12 : decode cL_lay 12 = .ok (.iconst 3, 1) := by decide +kernel
theorem dL_lay_13 : decode cL_lay 13 = .ok (.aload_n 1, 1) := by decide +kernel
theorem dL_lay_14 : decode cL_lay 14 = .ok (.iconst 1, 1) := by decide +kernel
theorem dL_lay_15 : decode cL_lay 15 = .ok (.bipush 6, 2) := by decide +kernel
theorem dL_lay_17 : decode cL_lay 17 = .ok (.invokestatic 15, 3) := by decide +kernel
theorem dL_lay_20 : decode cL_lay 20 = .ok (.iadd, 1) := by decide +kernel
theorem dL_lay_21 : decode cL_lay 21 = .ok (.istore_n 3, 1) := by decide +kernel
theorem dL_lay_22 : decode cL_lay 22 = .ok (.iconst 0, 1) := by decide +kernel
theorem dL_lay_23 : decode cL_lay 23 = .ok (.istore 4, 2) := by decide +kernel
theorem dL_lay_25 : decode cL_lay 25 = .ok (.iload 4, 2) := by decide +kernel
theorem dL_lay_27 : decode cL_lay 27 = .ok (.iload_n 3, 1) := by decide +kernel
theorem dL_lay_28 : decode cL_lay 28 = .ok (.if_icmp .ge 48, 3) := by decide +kernel
theorem dL_lay_31 : decode cL_lay 31 = .ok (.aload_n 0, 1) := by decide +kernel
theorem dL_lay_32 : decode cL_lay 32 = .ok (.iconst 1, 1) := by decide +kernel
theorem dL_lay_33 : decode cL_lay 33 = .ok (.aload_n 1, 1) := by decide +kernel
theorem dL_lay_34 : decode cL_lay 34 = .ok (.iconst 2, 1) := by decide +kernel
theorem dL_lay_35 : decode cL_lay 35 = .ok (.iload 4, 2) := by decide +kernel
theorem dL_lay_37 : decode cL_lay 37 = .ok (.iadd, 1) := by decide +kernel
theorem dL_lay_38 : decode cL_lay 38 = .ok (.bipush 9, 2) := by decide +kernel
theorem dL_lay_40 : decode cL_lay 40 = .ok (.invokestatic 15, 3) := by decide +kernel
theorem dL_lay_43 : decode cL_lay 43 = .ok (.iadd, 1) := by decide +kernel
theorem dL_lay_44 : decode cL_lay 44 = .ok (.aload_n 1, 1) := by decide +kernel
theorem dL_lay_45 : decode cL_lay 45 = .ok (.bipush 10, 2) := by decide +kernel
theorem dL_lay_47 : decode cL_lay 47 = .ok (.iload 4, 2) := by decide +kernel
theorem dL_lay_49 : decode cL_lay 49 = .ok (.iadd, 1) := by decide +kernel
theorem dL_lay_50 : decode cL_lay 50 = .ok (.bipush 8, 2) := by decide +kernel
theorem dL_lay_52 : decode cL_lay 52 = .ok (.invokestatic 15, 3) := by decide +kernel
theorem dL_lay_55 : decode cL_lay 55 = .ok (.aload_n 1, 1) := by decide +kernel
theorem dL_lay_56 : decode cL_lay 56 = .ok (.bipush 18, 2) := by decide +kernel
theorem dL_lay_58 : decode cL_lay 58 = .ok (.iload 4, 2) := by decide +kernel
theorem dL_lay_60 : decode cL_lay 60 = .ok (.iadd, 1) := by decide +kernel
theorem dL_lay_61 : decode cL_lay 61 = .ok (.bipush 10, 2) := by decide +kernel
theorem dL_lay_63 : decode cL_lay 63 = .ok (.invokestatic 15, 3) := by decide +kernel
theorem dL_lay_66 : decode cL_lay 66 = .ok (.invokevirtual 25, 3) := by decide +kernel
theorem dL_lay_69 : decode cL_lay 69 = .ok (.istore_n 2, 1) := by decide +kernel
theorem dL_lay_70 : decode cL_lay 70 = .ok (.iinc 4 1, 3) := by decide +kernel
theorem dL_lay_73 : decode cL_lay 73 = .ok (.goto (-48), 3) := by decide +kernel
theorem dL_lay_76 : decode cL_lay 76 = .ok (.iconst 0, 1) := by decide +kernel
theorem dL_lay_77 : decode cL_lay 77 = .ok (.istore 4, 2) := by decide +kernel
theorem dL_lay_79 : decode cL_lay 79 = .ok (.iload 4, 2) := by decide +kernel
theorem dL_lay_81 : decode cL_lay 81 = .ok (.iconst 4, 1) := by decide +kernel
theorem dL_lay_82 : decode cL_lay 82 = .ok (.if_icmp .ge 24, 3) := by decide +kernel
theorem dL_lay_85 : decode cL_lay 85 = .ok (.aload_n 0, 1) := by decide +kernel
theorem dL_lay_86 : decode cL_lay 86 = .ok (.aload_n 1, 1) := by decide +kernel
theorem dL_lay_87 : decode cL_lay 87 = .ok (.sipush 300, 3) := by decide +kernel
theorem dL_lay_90 : decode cL_lay 90 = .ok (.iconst 3, 1) := by decide +kernel
theorem dL_lay_91 : decode cL_lay 91 = .ok (.iload 4, 2) := by decide +kernel
theorem dL_lay_93 : decode cL_lay 93 = .ok (.imul, 1) := by decide +kernel
theorem dL_lay_94 : decode cL_lay 94 = .ok (.iadd, 1) := by decide +kernel
theorem dL_lay_95 : decode cL_lay 95 = .ok (.iconst 0, 1) := by decide +kernel
theorem dL_lay_96 : decode cL_lay 96 = .ok (.invokestatic 29, 3) := by decide +kernel
theorem dL_lay_99 : decode cL_lay 99 = .ok (.istore_n 2, 1) := by decide +kernel
theorem dL_lay_100 : decode cL_lay 100 = .ok (.iinc 4 1, 3) := by decide +kernel
theorem dL_lay_103 : decode cL_lay 103 = .ok (.goto (-24), 3) := by decide +kernel
theorem dL_lay_106 : decode cL_lay 106 = .ok (.return_, 1) := by decide +kernel
set_option maxRecDepth 20000 in
theorem ggL_done_X8_account : GoodIn wsL_done wsX8_account := goodIn_ca (goodIn_r _ [5, 6, 7, 8, 9, 10, 274, 275, 276, 277, 278, 279, 280, 281, 282, 283, 284, 285, 286, 287, 288, 289, 290, 291, 292, 293, 294, 295, 296, 297, 298, 299, 300, 301, 302, 303, 304, 305, 306, 307, 308, 309, 310, 311, 312, 313, 314, 315, 316, 317, 318, 319, 320, 321, 322] (by decide +kernel) (by decide +kernel)) (goodIn_sub (fun _ h => List.mem_cons_of_mem _ (List.mem_append_left _ (List.mem_append_right _ h))) (by decide +kernel))
set_option maxRecDepth 20000 in
theorem gL_done_X8_account : GoodIn wsL_done (wsV RL 33 RX8 yX8_account wsX8_account) := goodIn_app (goodIn_of _ (by decide +kernel)) ggL_done_X8_account
set_option maxRecDepth 20000 in
theorem ggL_done_L_pick : GoodIn wsL_done wsL_pick := goodIn_r _ [14, 15, 16, 13, 17, 18, 19] (by decide +kernel) (by decide +kernel)
set_option maxRecDepth 20000 in
theorem gL_done_L_pick : GoodIn wsL_done (va_wsS RL 15 yL_pick wsL_pick) := goodIn_app (goodIn_of _ (by decide +kernel)) ggL_done_L_pick
set_option maxRecDepth 20000 in
theorem ggL_done_X8_join : GoodIn wsL_done wsX8_join := goodIn_ca (goodIn_r _ [23, 24, 25, 8, 26, 9, 27, 28, 29, 30, 31, 32, 33, 34, 35, 36, 37, 38, 39, 40, 41, 42, 43, 44, 45, 46, 47, 48, 49, 50, 51, 52, 53, 54, 55, 56, 57, 58, 59, 60, 61, 62, 63, 64, 65, 66, 67, 68, 69, 70, 71, 72, 73, 74, 75, 76, 77, 78, 79, 80, 81, 82, 83, 84, 85, 86, 87, 88, 89, 90, 91, 92, 93, 94, 95, 96, 97, 98, 99, 100, 101, 102, 103, 104, 105, 106, 107, 108, 109, 110, 111, 112, 113, 114, 115, 116, 117, 118, 119, 120, 121, 122, 123, 124, 125, 126, 127, 128, 129, 130, 131, 132, 133, 134, 135, 136, 137, 138, 139, 140, 141, 142, 143, 144, 145, 146, 147, 148, 149, 150, 151, 152, 153, 154, 155, 156, 157, 158, 159, 160, 161, 162, 163, 164, 165, 274, 275, 276, 277, 278, 279, 280, 281, 282, 283, 284, 285, 286, 287, 288, 289, 290, 291, 292, 293, 294, 295, 296, 297, 298, 323, 324, 325, 326, 299, 300, 301, 302, 303, 304, 305, 306, 307, 308, 315, 316, 317, 309, 310, 311, 312, 313, 314] (by decide +kernel) (by decide +kernel)) (goodIn_sub (fun _ h => List.mem_cons_of_mem _ (List.mem_append_right _ h)) (by decide +kernel))
set_option maxRecDepth 20000 in
theorem gL_done_X8_join : GoodIn wsL_done (wsV RL 36 RX8 yX8_join wsX8_join) := goodIn_app (goodIn_of _ (by decide +kernel)) ggL_done_X8_join
set_option maxRecDepth 20000 in
theorem ggL_done_X8_leave : GoodIn wsL_done wsX8_leave := goodIn_ca (goodIn_r _ [169, 24, 25, 8, 26, 9, 170, 28, 171, 172, 31, 32, 33, 34, 35, 36, 37, 38, 39, 40, 41, 42, 43, 44, 45, 46, 47, 48, 49, 50, 51, 71, 72, 73, 74, 75, 76, 77, 78, 79, 58, 80, 81, 82, 83, 65, 84, 85, 64, 86, 87, 88, 89, 90, 69, 91, 70, 92, 93, 94, 95, 96, 97, 98, 99, 100, 101, 102, 103, 104, 105, 106, 107, 108, 109, 110, 111, 112, 113, 114, 115, 116, 117, 118, 119, 120, 121, 122, 123, 124, 125, 126, 173, 174, 175, 156, 157, 158, 159, 160, 161, 162, 274, 275, 276, 277, 278, 279, 280, 281, 282, 283, 284, 285, 286, 287, 288, 289, 290, 291, 292, 293, 294, 295, 296, 297, 298, 323, 324, 325, 326, 299, 300, 315, 316, 317, 301, 302, 303, 304, 305, 306, 307, 308, 309, 310, 311, 312, 313, 314] (by decide +kernel) (by decide +kernel)) (goodIn_sub (fun _ h => List.mem_cons_of_mem _ (List.mem_append_right _ h)) (by decide +kernel))
set_option maxRecDepth 20000 in
theorem gL_done_X8_leave : GoodIn wsL_done (wsV RL 39 RX8 yX8_leave wsX8_leave) := goodIn_app (goodIn_of _ (by decide +kernel)) ggL_done_X8_leave
set_option maxRecDepth 20000 in
theorem ggL_done_X8_draw : GoodIn wsL_done wsX8_draw := goodIn_ca (goodIn_r _ [179, 24, 25, 8, 26, 9, 180, 28, 181, 182, 65, 183, 4, 184, 38, 39, 40, 41, 42, 43, 44, 45, 185, 186, 187, 188, 32, 52, 53, 54, 55, 31, 56, 57, 58, 59, 60, 61, 62, 63, 64, 66, 34, 67, 68, 69, 70, 189, 105, 190, 191, 113, 192, 79, 80, 193, 194, 195, 71, 72, 73, 74, 75, 76, 77, 78, 81, 82, 83, 84, 85, 86, 87, 88, 89, 37, 90, 91, 92, 93, 94, 95, 96, 97, 98, 99, 100, 47, 101, 102, 50, 51, 103, 104, 106, 107, 108, 109, 110, 111, 112, 114, 115, 116, 117, 118, 119, 120, 121, 122, 123, 124, 125, 126, 196, 197, 198, 199, 200, 201, 202, 203, 204, 205, 152, 153, 154, 155, 156, 157, 158, 159, 160, 161, 162, 163, 164, 165, 274, 275, 276, 277, 278, 279, 280, 281, 282, 283, 284, 285, 286, 287, 288, 289, 301, 302, 303, 304, 305, 306, 307, 308, 323, 324, 325, 326, 299, 300, 290, 291, 292, 293, 294, 295, 296, 297, 298, 315, 316, 317, 309, 310, 311, 312, 313, 314] (by decide +kernel) (by decide +kernel)) (goodIn_sub (fun _ h => List.mem_cons_of_mem _ (List.mem_append_right _ h)) (by decide +kernel))
set_option maxRecDepth 20000 in
theorem gL_done_X8_draw : GoodIn wsL_done (wsV RL 42 RX8 yX8_draw wsX8_draw) := goodIn_app (goodIn_of _ (by decide +kernel)) ggL_done_X8_draw
set_option maxRecDepth 20000 in
theorem ggL_done_X8_vote : GoodIn wsL_done wsX8_vote := goodIn_ca (goodIn_r _ [209, 24, 25, 8, 26, 9, 210, 28, 211, 212, 31, 38, 39, 40, 41, 42, 43, 44, 45, 71, 72, 73, 74, 75, 76, 77, 78, 79, 58, 80, 81, 82, 83, 32, 65, 84, 85, 64, 86, 87, 34, 88, 89, 37, 90, 69, 91, 70, 92, 93, 94, 95, 96, 97, 98, 99, 100, 47, 101, 102, 50, 51, 103, 104, 105, 106, 107, 108, 109, 110, 111, 112, 113, 114, 115, 116, 117, 118, 119, 120, 121, 122, 123, 124, 125, 126, 213, 214, 215, 216, 217, 218, 219, 220, 221, 222, 223, 224, 225, 226, 227, 66, 67, 68, 52, 53, 54, 55, 56, 57, 59, 60, 61, 62, 63, 156, 157, 158, 159, 160, 161, 162, 152, 153, 154, 155, 274, 275, 276, 277, 278, 279, 280, 281, 282, 283, 284, 285, 286, 287, 288, 289, 290, 291, 292, 293, 294, 295, 296, 297, 298, 323, 324, 325, 326, 315, 316, 317, 299, 300, 301, 302, 303, 304, 305, 306, 307, 308, 309, 310, 311, 312, 313, 314] (by decide +kernel) (by decide +kernel)) (goodIn_sub (fun _ h => List.mem_cons_of_mem _ (List.mem_append_right _ h)) (by decide +kernel))
set_option maxRecDepth 20000 in
theorem gL_done_X8_vote : GoodIn wsL_done (wsV RL 45 RX8 yX8_vote wsX8_vote) := goodIn_app (goodIn_of _ (by decide +kernel)) ggL_done_X8_vote
set_option maxRecDepth 20000 in
theorem ggL_done_X8_rain : GoodIn wsL_done wsX8_rain := goodIn_ca (goodIn_r _ [231, 24, 25, 8, 26, 9, 232, 28, 233, 234, 183, 4, 184, 38, 39, 40, 41, 42, 43, 44, 45, 71, 72, 73, 74, 75, 76, 77, 78, 79, 58, 80, 81, 82, 83, 31, 32, 65, 84, 85, 64, 86, 87, 34, 88, 89, 37, 90, 69, 91, 70, 92, 93, 94, 95, 96, 97, 98, 99, 100, 47, 101, 102, 50, 51, 103, 104, 105, 106, 107, 108, 109, 110, 111, 112, 113, 114, 115, 116, 117, 118, 119, 120, 121, 122, 123, 124, 125, 126, 235, 236, 237, 274, 275, 276, 277, 278, 279, 280, 281, 282, 283, 284, 285, 286, 287, 288, 289, 323, 324, 325, 326, 315, 316, 317, 290, 291, 292, 293, 294, 295, 296, 297, 298, 299, 300, 301, 302, 303, 304, 305, 306, 307, 308, 309, 310, 311, 312, 313, 314] (by decide +kernel) (by decide +kernel)) (goodIn_sub (fun _ h => List.mem_cons_of_mem _ (List.mem_append_right _ h)) (by decide +kernel))
set_option maxRecDepth 20000 in
theorem gL_done_X8_rain : GoodIn wsL_done (wsV RL 19 RX8 yX8_rain wsX8_rain) := goodIn_app (goodIn_of _ (by decide +kernel)) ggL_done_X8_rain
set_option maxRecDepth 20000 in
theorem ggL_done_X8_collect : GoodIn wsL_done wsX8_collect := goodIn_ca (goodIn_r _ [241, 24, 25, 8, 26, 9, 242, 28, 243, 244, 86, 183, 4, 184, 38, 39, 40, 41, 42, 43, 44, 45, 71, 72, 73, 74, 75, 76, 77, 78, 79, 58, 80, 81, 82, 83, 31, 32, 65, 84, 85, 64, 87, 34, 88, 89, 37, 90, 69, 91, 70, 92, 93, 94, 95, 96, 97, 98, 99, 100, 47, 101, 102, 50, 51, 103, 104, 105, 106, 107, 108, 109, 110, 111, 112, 113, 114, 115, 116, 117, 118, 119, 120, 121, 122, 123, 124, 125, 126, 274, 275, 276, 277, 278, 279, 280, 281, 282, 283, 284, 285, 286, 287, 288, 289, 323, 324, 325, 326, 315, 316, 317, 290, 291, 292, 293, 294, 295, 296, 297, 298, 299, 300, 301, 302, 303, 304, 305, 306, 307, 308, 309, 310, 311, 312, 313, 314] (by decide +kernel) (by decide +kernel)) (goodIn_sub (fun _ h => List.mem_cons_of_mem _ (List.mem_append_right _ h)) (by decide +kernel))
set_option maxRecDepth 20000 in
theorem gL_done_X8_collect : GoodIn wsL_done (wsV RL 49 RX8 yX8_collect wsX8_collect) := goodIn_app (goodIn_of _ (by decide +kernel)) ggL_done_X8_collect
set_option maxRecDepth 20000 in
theorem ggL_done_X8_leather : GoodIn wsL_done wsX8_leather := goodIn_ca (goodIn_r _ [248, 24, 25, 8, 26, 9, 249, 28, 250, 251, 86, 38, 39, 40, 41, 42, 43, 44, 45, 71, 72, 73, 74, 75, 76, 77, 78, 79, 58, 80, 81, 82, 83, 31, 32, 65, 84, 85, 64, 87, 34, 88, 89, 37, 90, 69, 91, 70, 92, 93, 94, 95, 96, 97, 98, 99, 100, 47, 101, 102, 50, 51, 103, 104, 105, 106, 107, 108, 109, 110, 111, 112, 113, 114, 115, 116, 117, 118, 119, 120, 121, 122, 123, 124, 125, 126, 252, 253, 254, 152, 153, 154, 155, 255, 256, 257, 274, 275, 276, 277, 278, 279, 280, 281, 282, 283, 284, 285, 286, 287, 288, 289, 323, 324, 325, 326, 315, 316, 317, 290, 291, 292, 293, 294, 295, 296, 297, 298, 299, 300, 301, 302, 303, 304, 305, 306, 307, 308, 309, 310, 311, 312, 313, 314] (by decide +kernel) (by decide +kernel)) (goodIn_sub (fun _ h => List.mem_cons_of_mem _ (List.mem_append_right _ h)) (by decide +kernel))
set_option maxRecDepth 20000 in
theorem gL_done_X8_leather : GoodIn wsL_done (wsV RL 52 RX8 yX8_leather wsX8_leather) := goodIn_app (goodIn_of _ (by decide +kernel)) ggL_done_X8_leather
set_option maxRecDepth 20000 in
theorem ggL_done_X8_night : GoodIn wsL_done wsX8_night := goodIn_ca (goodIn_r _ [261, 24, 25, 8, 26, 9, 262, 28, 263, 264, 183, 4, 184, 38, 39, 40, 41, 42, 43, 44, 45, 71, 72, 73, 74, 75, 76, 77, 78, 79, 58, 80, 81, 82, 83, 31, 32, 65, 84, 85, 64, 86, 87, 34, 88, 89, 37, 90, 69, 91, 70, 92, 93, 94, 95, 96, 97, 98, 99, 100, 47, 101, 102, 50, 51, 103, 104, 105, 106, 107, 108, 109, 110, 111, 112, 113, 114, 115, 116, 117, 118, 119, 120, 121, 122, 123, 124, 125, 126, 265, 266, 267, 268, 269, 270, 271, 272, 273, 274, 275, 276, 277, 278, 279, 280, 281, 282, 323, 324, 325, 326, 315, 316, 317, 283, 284, 285, 286, 287, 288, 289, 290, 291, 292, 293, 294, 295, 296, 297, 298, 299, 300, 301, 302, 303, 304, 305, 306, 307, 308, 309, 310, 311, 312, 313, 314] (by decide +kernel) (by decide +kernel)) (goodIn_sub (fun _ h => List.mem_cons_of_mem _ (List.mem_append_right _ h)) (by decide +kernel))
set_option maxRecDepth 20000 in
theorem gL_done_X8_night : GoodIn wsL_done (wsV RL 55 RX8 yX8_night wsX8_night) := goodIn_app (goodIn_of _ (by decide +kernel)) ggL_done_X8_night
theorem dL_done_0 : decode cL_done 0 = .ok (.aload_n 0, 1) := by decide +kernel
theorem dL_done_1 : decode cL_done 1 = .ok (.iconst 1, 1) := by decide +kernel
theorem dL_done_2 : decode cL_done 2 = .ok (.invokevirtual 33, 3) := by decide +kernel
theorem dL_done_5 : decode cL_done 5 = .ok (.istore 4, 2) := by decide +kernel
theorem dL_done_7 : decode cL_done 7 = .ok (.iload_n 3, 1) := by decide +kernel
theorem dL_done_8 : decode cL_done 8 = .ok (.tableswitch 147 0 11 #[64, 64, 64, 64, 78, 92, 92, 92, 107, 112, 126, 142], 64) := by decide +kernel
theorem dL_done_72 : decode cL_done 72 = .ok (.aload_n 0, 1) := by decide +kernel
theorem dL_done_73 : decode cL_done 73 = .ok (.aload_n 1, 1) := by decide +kernel
theorem dL_done_74 : decode cL_done 74 = .ok (.iload_n 2, 1) := by decide +kernel
theorem dL_done_75 : decode cL_done 75 = .ok (.iconst 1, 1) := by decide +kernel
theorem dL_done_76 : decode cL_done 76 = .ok (.iadd, 1) := by decide +kernel
theorem dL_done_77 : decode cL_done 77 = .ok (.iload 4, 2) := by decide +kernel
theorem dL_done_79 : decode cL_done 79 = .ok (.invokestatic 15, 3) := by decide +kernel
theorem dL_done_82 : decode cL_done 82 = .ok (.invokevirtual 36, 3) := by decide +kernel
theorem dL_done_85 : decode cL_done 85 = .ok (.ireturn, 1) := by decide +kernel
theorem dL_done_86 : decode cL_done 86 = .ok (.aload_n 0, 1) := by decide +kernel
theorem dL_done_87 : decode cL_done 87 = .ok (.aload_n 1, 1) := by decide +kernel
theorem dL_done_88 : decode cL_done 88 = .ok (.iload_n 2, 1) := by decide +kernel
theorem dL_done_89 : decode cL_done 89 = .ok (.iconst 1, 1) := by decide +kernel
theorem dL_done_90 : decode cL_done 90 = .ok (.iadd, 1) := by decide +kernel
theorem dL_done_91 : decode cL_done 91 = .ok (.iload 4, 2) := by decide +kernel
theorem dL_done_93 : decode cL_done 93 = .ok (.invokestatic 15, 3) := by decide +kernel
theorem dL_done_96 : decode cL_done 96 = .ok (.invokevirtual 39, 3) := by decide +kernel
theorem dL_done_99 : decode cL_done 99 = .ok (.ireturn, 1) := by decide +kernel
theorem dL_done_100 : decode cL_done 100 = .ok (.aload_n 0, 1) := by decide +kernel
theorem dL_done_101 : decode cL_done 101 = .ok (.iconst 1, 1) := by decide +kernel
theorem dL_done_102 : decode cL_done 102 = .ok (.aload_n 1, 1) := by decide +kernel
theorem dL_done_103 : decode cL_done 103 = .ok (.iload_n 2, 1) := by decide +kernel
theorem dL_done_104 : decode cL_done 104 = .ok (.iconst 1, 1) := by decide +kernel
theorem dL_done_105 : decode cL_done 105 = .ok (.iadd, 1) := by decide +kernel
theorem dL_done_106 : decode cL_done 106 = .ok (.iconst 3, 1) := by decide +kernel
theorem dL_done_107 : decode cL_done 107 = .ok (.invokestatic 15, 3) := by decide +kernel
theorem dL_done_110 : decode cL_done 110 = .ok (.iadd, 1) := by decide +kernel
theorem dL_done_111 : decode cL_done 111 = .ok (.invokevirtual 42, 3) := by decide +kernel
theorem dL_done_114 : decode cL_done 114 = .ok (.ireturn, 1) := by decide +kernel
theorem dL_done_115 : decode cL_done 115 = .ok (.aload_n 0, 1) := by decide +kernel
theorem dL_done_116 : decode cL_done 116 = .ok (.invokevirtual 45, 3) := by decide +kernel
theorem dL_done_119 : decode cL_done 119 = .ok (.ireturn, 1) := by decide +kernel
theorem dL_done_120 : decode cL_done 120 = .ok (.aload_n 0, 1) := by decide +kernel
theorem dL_done_121 : decode cL_done 121 = .ok (.aload_n 1, 1) := by decide +kernel
theorem dL_done_122 : decode cL_done 122 = .ok (.iload_n 2, 1) := by decide +kernel
theorem dL_done_123 : decode cL_done 123 = .ok (.iconst 1, 1) := by decide +kernel
theorem dL_done_124 : decode cL_done 124 = .ok (.iadd, 1) := by decide +kernel
theorem dL_done_125 : decode cL_done 125 = .ok (.bipush 10, 2) := by decide +kernel
theorem dL_done_127 : decode cL_done 127 = .ok (.invokestatic 15, 3) := by decide +kernel
theorem dL_done_130 : decode cL_done 130 = .ok (.invokevirtual 19, 3) := by decide +kernel
theorem dL_done_133 : decode cL_done 133 = .ok (.ireturn, 1) := by decide +kernel
theorem dL_done_134 : decode cL_done 134 = .ok (.aload_n 0, 1) := by decide +kernel
theorem dL_done_135 : decode cL_done 135 = .ok (.iconst 1, 1) := by decide +kernel
theorem dL_done_136 : decode cL_done 136 = .ok (.aload_n 1, 1) := by decide +kernel
theorem dL_done_137 : decode cL_done 137 = .ok (.iload_n 2, 1) := by decide +kernel
theorem dL_done_138 : decode cL_done 138 = .ok (.iconst 1, 1) := by decide +kernel
theorem dL_done_139 : decode cL_done 139 = .ok (.iadd, 1) := by decide +kernel
theorem dL_done_140 : decode cL_done 140 = .ok (.bipush 40, 2) := by decide +kernel
theorem dL_done_142 : decode cL_done 142 = .ok (.invokestatic 15, 3) := by decide +kernel
theorem dL_done_145 : decode cL_done 145 = .ok (.iadd, 1) := by decide +kernel
theorem dL_done_146 : decode cL_done 146 = .ok (.invokevirtual 49, 3) := by decide +kernel
theorem dL_done_149 : decode cL_done 149 = .ok (.ireturn, 1) := by decide +kernel
theorem dL_done_150 : decode cL_done 150 = .ok (.aload_n 0, 1) := by decide +kernel
theorem dL_done_151 : decode cL_done 151 = .ok (.invokevirtual 52, 3) := by decide +kernel
theorem dL_done_154 : decode cL_done 154 = .ok (.ireturn, 1) := by decide +kernel
theorem dL_done_155 : decode cL_done 155 = .ok (.aload_n 0, 1) := by decide +kernel
theorem dL_done_156 : decode cL_done 156 = .ok (.iconst 1, 1) := by decide +kernel
theorem dL_done_157 : decode cL_done 157 = .ok (.aload_n 1, 1) := by decide +kernel
theorem dL_done_158 : decode cL_done 158 = .ok (.iload_n 2, 1) := by decide +kernel
theorem dL_done_159 : decode cL_done 159 = .ok (.iconst 1, 1) := by decide +kernel
theorem dL_done_160 : decode cL_done 160 = .ok (.iadd, 1) := by decide +kernel
theorem dL_done_161 : decode cL_done 161 = .ok (.iconst 3, 1) := by decide +kernel
theorem dL_done_162 : decode cL_done 162 = .ok (.invokestatic 15, 3) := by decide +kernel
theorem dL_done_165 : decode cL_done 165 = .ok (.iadd, 1) := by decide +kernel
theorem dL_done_166 : decode cL_done 166 = .ok (.invokevirtual 55, 3) := by decide +kernel
theorem dL_done_169 : decode cL_done 169 = .ok (.ireturn, 1) := by decide +kernel
set_option maxRecDepth 20000 in
theorem ggL_acts_L_done : GoodIn wsL_acts wsL_done := goodIn_ca (goodIn_ca (goodIn_r _ [5, 6, 7, 8, 9, 10, 11, 12, 13, 14, 15, 16, 17, 4, 18, 19, 20, 21, 22, 23, 24, 25, 26, 27, 28, 29, 30, 31, 32, 33, 34, 35, 36, 37, 38, 39, 40, 41, 42, 43, 44, 45, 46, 47, 48, 49, 50, 51, 52, 53, 54, 55, 56, 57, 58, 59, 60, 61, 62, 63, 64, 65, 66, 67, 68, 69, 70, 71, 72, 73, 74, 75, 76, 77, 78, 79, 80, 81, 82, 83, 84, 85, 86, 87, 88, 89, 90, 91, 92, 93, 94, 95, 96, 97, 98, 99, 100, 101, 102, 103, 104, 105, 106, 107, 108, 109, 110, 111, 112, 113, 114, 115, 116, 117, 118, 119, 120, 121, 122, 123, 124, 125, 126, 127, 128, 129, 130, 131, 132, 133, 134, 135, 136, 137, 138, 139, 140, 141, 142, 143, 144, 145, 146, 147, 148, 149, 150, 151, 152, 153, 154, 155, 156, 157, 158, 159, 160, 161, 162, 163, 164, 165, 166, 167, 168, 169, 170, 171, 172, 173, 174, 175, 176, 177, 178, 179, 180, 181, 182, 183, 184, 185, 186, 187, 188, 189, 190, 191, 192, 193, 194, 195, 196, 197, 198, 199, 200, 201, 202, 203, 204, 205, 206, 207, 208, 209, 210, 211, 212, 213, 214, 215, 216, 217, 218, 219, 220, 221, 222, 223, 224, 225, 226, 227, 228, 229, 230, 231, 232, 233, 234, 235, 236, 237, 238, 239, 240, 241, 242, 243, 244, 245, 246, 247, 248, 249, 250, 251, 252, 253, 254, 255, 256, 257, 258, 259, 260, 261, 262, 263, 264, 265, 266, 267, 268, 269, 270, 271, 272, 273, 274, 275, 276, 277, 278, 279, 280, 281, 282, 283, 284, 285, 286, 287, 288, 289, 290, 291, 292, 293, 294, 295, 296, 297, 298, 299, 300, 301, 302, 303, 304, 305, 306, 307, 308, 309, 310, 311, 312, 313, 314, 315, 316, 317, 318, 319, 320, 321, 322, 323, 324, 325, 326, 327, 328, 329, 330] (by decide +kernel) (by decide +kernel)) (goodIn_sub (fun _ h => List.mem_cons_of_mem _ (List.mem_append_left _ (List.mem_append_right _ h))) (by decide +kernel))) (goodIn_sub (fun _ h => List.mem_cons_of_mem _ (List.mem_append_right _ h)) (by decide +kernel))
set_option maxRecDepth 20000 in
theorem gL_acts_L_done : GoodIn wsL_acts (va_wsS RL 58 yL_done wsL_done) := goodIn_app (goodIn_of _ (by decide +kernel)) ggL_acts_L_done
theorem dL_acts_0 : decode cL_acts 0 = .ok (.aload_n 0, 1) := by decide +kernel
theorem dL_acts_1 : decode cL_acts 1 = .ok (.aload_n 1, 1) := by decide +kernel
theorem dL_acts_2 : decode cL_acts 2 = .ok (.iload_n 2, 1) := by decide +kernel
theorem dL_acts_3 : decode cL_acts 3 = .ok (.iload_n 3, 1) := by decide +kernel
theorem dL_acts_4 : decode cL_acts 4 = .ok (.invokestatic 58, 3) := by decide +kernel
theorem dL_acts_7 : decode cL_acts 7 = .ok (.ireturn, 1) := by decide +kernel
theorem dL_acts_8 : decode cL_acts 8 = .ok (.astore 4, 2) := by decide +kernel
theorem dL_acts_10 : decode cL_acts 10 = .ok (.bipush (-9), 2) := by decide +kernel
theorem dL_acts_12 : decode cL_acts 12 = .ok (.ireturn, 1) := by decide +kernel
set_option maxRecDepth 20000 in
theorem ggL_any_L_pick : GoodIn wsL_any wsL_pick := goodIn_r _ [4, 5, 6, 3, 7, 8, 9] (by decide +kernel) (by decide +kernel)
set_option maxRecDepth 20000 in
theorem gL_any_L_pick : GoodIn wsL_any (va_wsS RL 15 yL_pick wsL_pick) := goodIn_app (goodIn_of _ (by decide +kernel)) ggL_any_L_pick
set_option maxRecDepth 20000 in
theorem ggL_any_L_acts : GoodIn wsL_any wsL_acts := goodIn_ca (goodIn_ca (goodIn_r _ [12, 13, 14, 15, 3, 16, 17, 18, 19, 20, 21, 22, 23, 24, 25, 26, 1, 2, 4, 5, 6, 7, 8, 9, 27, 28, 29, 30, 31, 32, 33, 34, 35, 36, 37, 38, 39, 40, 41, 42, 43, 44, 45, 46, 47, 48, 49, 50, 51, 52, 53, 54, 55, 56, 57, 58, 59, 60, 61, 62, 63, 64, 65, 66, 67, 68, 69, 70, 71, 72, 73, 74, 75, 76, 77, 78, 79, 80, 81, 82, 83, 84, 85, 86, 87, 88, 89, 90, 91, 92, 93, 94, 95, 96, 97, 98, 99, 100, 101, 102, 103, 104, 105, 106, 107, 108, 109, 110, 111, 112, 113, 114, 115, 116, 117, 118, 119, 120, 121, 122, 123, 124, 125, 126, 127, 128, 129, 130, 131, 132, 133, 134, 135, 136, 137, 138, 139, 140, 141, 142, 143, 144, 145, 146, 147, 148, 149, 150, 151, 152, 153, 154, 155, 156, 157, 158, 159, 160, 161, 162, 163, 164, 165, 166, 167, 168, 169, 170, 171, 172, 173, 174, 175, 176, 177, 178, 179, 180, 181, 182, 183, 184, 185, 186, 187, 188, 189, 190, 191, 192, 193, 194, 195, 196, 197, 198, 199, 200, 201, 202, 203, 204, 205, 206, 207, 208, 209, 210, 211, 212, 213, 214, 215, 216, 217, 218, 219, 220, 221, 222, 223, 224, 225, 226, 227, 228, 229, 230, 231, 232, 233, 234, 235, 236, 237, 238, 239, 240, 241, 242, 243, 244, 245, 246, 247, 248, 249, 250, 251, 252, 253, 254, 255, 256, 257, 258, 259, 260, 261, 262, 263, 264, 265, 266, 267, 268, 269, 270, 271, 272, 273, 274, 275, 276, 277, 278, 279, 280, 281, 282, 283, 284, 285, 286, 287, 288, 289, 290, 291, 292, 293, 294, 295, 296, 297, 298, 299, 300, 301, 302, 303, 304, 305, 306, 307, 308, 309, 310, 311, 312, 313, 314, 315, 316, 317, 318, 319, 320, 321, 322, 323, 324, 325, 326, 327, 328, 329, 330, 331, 332, 333] (by decide +kernel) (by decide +kernel)) (goodIn_sub (fun _ h => List.mem_cons_of_mem _ (List.mem_append_left _ (List.mem_append_right _ h))) (by decide +kernel))) (goodIn_sub (fun _ h => List.mem_cons_of_mem _ (List.mem_append_right _ h)) (by decide +kernel))
set_option maxRecDepth 20000 in
theorem gL_any_L_acts : GoodIn wsL_any (va_wsS RL 29 yL_acts wsL_acts) := goodIn_app (goodIn_of _ (by decide +kernel)) ggL_any_L_acts
theorem dL_any_0 : decode cL_any 0 = .ok (.aload_n 0, 1) := by decide +kernel
theorem dL_any_1 : decode cL_any 1 = .ok (.aload_n 1, 1) := by decide +kernel
theorem dL_any_2 : decode cL_any 2 = .ok (.iload_n 2, 1) := by decide +kernel
theorem dL_any_3 : decode cL_any 3 = .ok (.aload_n 1, 1) := by decide +kernel
theorem dL_any_4 : decode cL_any 4 = .ok (.iload_n 2, 1) := by decide +kernel
theorem dL_any_5 : decode cL_any 5 = .ok (.bipush 14, 2) := by decide +kernel
theorem dL_any_7 : decode cL_any 7 = .ok (.invokestatic 15, 3) := by decide +kernel
theorem dL_any_10 : decode cL_any 10 = .ok (.invokestatic 29, 3) := by decide +kernel
theorem dL_any_13 : decode cL_any 13 = .ok (.ireturn, 1) := by decide +kernel
set_option maxRecDepth 20000 in
theorem ggL_turns_X8_householdOf : GoodIn wsL_turns wsX8_householdOf := goodIn_ca (goodIn_ca (goodIn_r _ [5, 6, 7, 8, 9, 10, 11, 12, 13, 14, 15, 16, 17, 18, 19, 20, 21, 22, 23, 24, 25, 26, 27, 28, 29, 30, 31, 32, 33, 34, 35, 36, 37, 38, 39, 40, 41, 42, 43, 44, 45, 46, 47, 48, 49, 50, 51, 52, 53, 54, 55, 56, 57, 58, 59, 60, 61, 62, 63, 64, 65, 66, 67, 68, 69, 70, 71, 72, 73, 74, 75, 76] (by decide +kernel) (by decide +kernel)) (goodIn_sub (fun _ h => List.mem_cons_of_mem _ (List.mem_append_left _ (List.mem_append_right _ h))) (by decide +kernel))) (goodIn_sub (fun _ h => List.mem_cons_of_mem _ (List.mem_append_right _ h)) (by decide +kernel))
set_option maxRecDepth 20000 in
theorem gL_turns_X8_householdOf : GoodIn wsL_turns (wsV RL 63 RX8 yX8_householdOf wsX8_householdOf) := goodIn_app (goodIn_of _ (by decide +kernel)) ggL_turns_X8_householdOf
theorem dL_turns_0 : decode cL_turns 0 = .ok (.aload_n 0, 1) := by decide +kernel
theorem dL_turns_1 : decode cL_turns 1 = .ok (.iload_n 1, 1) := by decide +kernel
theorem dL_turns_2 : decode cL_turns 2 = .ok (.iconst 0, 1) := by decide +kernel
theorem dL_turns_3 : decode cL_turns 3 = .ok (.invokevirtual 63, 3) := by decide +kernel
theorem dL_turns_6 : decode cL_turns 6 = .ok (.istore_n 3, 1) := by decide +kernel
theorem dL_turns_7 : decode cL_turns 7 = .ok (.iload_n 2, 1) := by decide +kernel
theorem dL_turns_8 : decode cL_turns 8 = .ok (.ifCond .ne 11, 3) := by decide +kernel
theorem dL_turns_11 : decode cL_turns 11 = .ok (.iload_n 3, 1) := by decide +kernel
theorem dL_turns_12 : decode cL_turns 12 = .ok (.iconst 1, 1) := by decide +kernel
theorem dL_turns_13 : decode cL_turns 13 = .ok (.iadd, 1) := by decide +kernel
theorem dL_turns_14 : decode cL_turns 14 = .ok (.iconst 2, 1) := by decide +kernel
theorem dL_turns_15 : decode cL_turns 15 = .ok (.idiv, 1) := by decide +kernel
theorem dL_turns_16 : decode cL_turns 16 = .ok (.goto 31, 3) := by decide +kernel
theorem dL_turns_19 : decode cL_turns 19 = .ok (.iload_n 2, 1) := by decide +kernel
theorem dL_turns_20 : decode cL_turns 20 = .ok (.iconst 1, 1) := by decide +kernel
theorem dL_turns_21 : decode cL_turns 21 = .ok (.if_icmp .ne 7, 3) := by decide +kernel
theorem dL_turns_24 : decode cL_turns 24 = .ok (.iconst 3, 1) := by decide +kernel
theorem dL_turns_25 : decode cL_turns 25 = .ok (.goto 22, 3) := by decide +kernel
theorem dL_turns_28 : decode cL_turns 28 = .ok (.iload_n 2, 1) := by decide +kernel
theorem dL_turns_29 : decode cL_turns 29 = .ok (.iconst 2, 1) := by decide +kernel
theorem dL_turns_30 : decode cL_turns 30 = .ok (.if_icmp .ne 16, 3) := by decide +kernel
theorem dL_turns_33 : decode cL_turns 33 = .ok (.iconst 4, 1) := by decide +kernel
theorem dL_turns_34 : decode cL_turns 34 = .ok (.aload_n 0, 1) := by decide +kernel
theorem dL_turns_35 : decode cL_turns 35 = .ok (.iload_n 1, 1) := by decide +kernel
theorem dL_turns_36 : decode cL_turns 36 = .ok (.iconst 2, 1) := by decide +kernel
theorem dL_turns_37 : decode cL_turns 37 = .ok (.invokevirtual 63, 3) := by decide +kernel
theorem dL_turns_40 : decode cL_turns 40 = .ok (.iconst 3, 1) := by decide +kernel
theorem dL_turns_41 : decode cL_turns 41 = .ok (.idiv, 1) := by decide +kernel
theorem dL_turns_42 : decode cL_turns 42 = .ok (.isub, 1) := by decide +kernel
theorem dL_turns_43 : decode cL_turns 43 = .ok (.goto 4, 3) := by decide +kernel
theorem dL_turns_46 : decode cL_turns 46 = .ok (.iconst 1, 1) := by decide +kernel
theorem dL_turns_47 : decode cL_turns 47 = .ok (.ireturn, 1) := by decide +kernel
set_option maxRecDepth 20000 in
theorem ggL_isHouseholdRight_X8_turnsBy : GoodIn wsL_isHouseholdRight wsX8_turnsBy := goodIn_ca (goodIn_ca (goodIn_r _ [9, 10, 11, 12, 13, 14, 15, 16, 17, 18, 19, 20, 21, 8, 22, 23, 24, 25, 26, 27, 81, 82, 83, 84, 85, 86, 87, 88, 89, 90, 91, 92, 93, 94, 95, 96, 97, 98, 99, 100, 101, 102, 103, 104, 105] (by decide +kernel) (by decide +kernel)) (goodIn_sub (fun _ h => List.mem_cons_of_mem _ (List.mem_append_left _ (List.mem_append_left _ (List.mem_append_right _ h)))) (by decide +kernel))) (goodIn_sub (fun _ h => List.mem_cons_of_mem _ (List.mem_append_left _ (List.mem_append_right _ h))) (by decide +kernel))
set_option maxRecDepth 20000 in
theorem gL_isHouseholdRight_X8_turnsBy : GoodIn wsL_isHouseholdRight (wsV RL 80 RX8 yX8_turnsBy wsX8_turnsBy) := goodIn_app (goodIn_of _ (by decide +kernel)) ggL_isHouseholdRight_X8_turnsBy
set_option maxRecDepth 20000 in
theorem ggL_isHouseholdRight_L_turns : GoodIn wsL_isHouseholdRight wsL_turns := goodIn_ca (goodIn_ca (goodIn_r _ [31, 32, 33, 34, 8, 35, 10, 11, 12, 13, 14, 15, 16, 17, 18, 19, 36, 37, 38, 39, 40, 41, 42, 23, 24, 25, 26, 27, 43, 44, 45, 46, 2, 3, 4, 47, 48, 49, 50, 51, 52, 53, 81, 82, 83, 84, 85, 86, 87, 88, 89, 90, 91, 92, 93, 94, 95, 96, 97, 98, 99, 100, 101, 102, 103, 104, 105, 106, 107, 108, 109, 110, 111, 112, 113, 114, 115] (by decide +kernel) (by decide +kernel)) (goodIn_sub (fun _ h => List.mem_cons_of_mem _ (List.mem_append_left _ (List.mem_append_left _ (List.mem_append_right _ h)))) (by decide +kernel))) (goodIn_sub (fun _ h => List.mem_cons_of_mem _ (List.mem_append_left _ (List.mem_append_right _ h))) (by decide +kernel))
set_option maxRecDepth 20000 in
theorem gL_isHouseholdRight_L_turns : GoodIn wsL_isHouseholdRight (va_wsS RL 83 yL_turns wsL_turns) := goodIn_app (goodIn_of _ (by decide +kernel)) ggL_isHouseholdRight_L_turns
set_option maxRecDepth 20000 in
theorem ggL_isHouseholdRight_X8_account : GoodIn wsL_isHouseholdRight wsX8_account := goodIn_ca (goodIn_r _ [57, 12, 13, 14, 58, 59, 81, 82, 83, 84, 85, 86, 87, 88, 89, 90, 91, 92, 93, 94, 95, 96, 97, 98, 99, 100, 101, 102, 103, 104, 105, 114, 115, 106, 107, 108, 109, 110, 111, 112, 113, 116, 117, 118, 119, 120, 121, 122, 123, 124, 125, 126, 127, 128, 129] (by decide +kernel) (by decide +kernel)) (goodIn_sub (fun _ h => List.mem_cons_of_mem _ (List.mem_append_left _ (List.mem_append_right _ h))) (by decide +kernel))
set_option maxRecDepth 20000 in
theorem gL_isHouseholdRight_X8_account : GoodIn wsL_isHouseholdRight (wsV RL 33 RX8 yX8_account wsX8_account) := goodIn_app (goodIn_of _ (by decide +kernel)) ggL_isHouseholdRight_X8_account
set_option maxRecDepth 20000 in
theorem ggL_isHouseholdRight_X8_householdOf : GoodIn wsL_isHouseholdRight wsX8_householdOf := goodIn_ca (goodIn_ca (goodIn_r _ [35, 10, 11, 12, 13, 14, 15, 16, 17, 18, 19, 36, 37, 38, 39, 40, 41, 42, 23, 24, 25, 26, 27, 43, 44, 45, 46, 2, 3, 4, 47, 48, 49, 50, 51, 52, 53, 81, 82, 83, 84, 85, 86, 87, 88, 89, 90, 91, 92, 93, 94, 95, 96, 97, 98, 99, 100, 101, 102, 103, 104, 105, 106, 107, 108, 109, 110, 111, 112, 113, 114, 115] (by decide +kernel) (by decide +kernel)) (goodIn_sub (fun _ h => List.mem_cons_of_mem _ (List.mem_append_left _ (List.mem_append_left _ (List.mem_append_right _ h)))) (by decide +kernel))) (goodIn_sub (fun _ h => List.mem_cons_of_mem _ (List.mem_append_left _ (List.mem_append_right _ h))) (by decide +kernel))
set_option maxRecDepth 20000 in
theorem gL_isHouseholdRight_X8_householdOf : GoodIn wsL_isHouseholdRight (wsV RL 63 RX8 yX8_householdOf wsX8_householdOf) := goodIn_app (goodIn_of _ (by decide +kernel)) ggL_isHouseholdRight_X8_householdOf
set_option maxRecDepth 20000 in
theorem ggL_isHouseholdRight_X8_isFor : GoodIn wsL_isHouseholdRight wsX8_isFor := goodIn_ca (goodIn_r _ [63, 10, 11, 14, 15, 16, 17, 18, 19, 64, 65, 66, 67, 23, 24, 25, 26, 27, 81, 82, 83, 84, 85, 86, 87, 88, 89, 90, 91, 92, 93, 94, 95, 96, 97, 98, 99, 100, 101, 102, 103, 104, 105] (by decide +kernel) (by decide +kernel)) (goodIn_sub (fun _ h => List.mem_cons_of_mem _ (List.mem_append_left _ (List.mem_append_left _ (List.mem_append_right _ h)))) (by decide +kernel))
set_option maxRecDepth 20000 in
theorem gL_isHouseholdRight_X8_isFor : GoodIn wsL_isHouseholdRight (wsV RL 92 RX8 yX8_isFor wsX8_isFor) := goodIn_app (goodIn_of _ (by decide +kernel)) ggL_isHouseholdRight_X8_isFor
set_option maxRecDepth 20000 in
theorem ggL_isHouseholdRight_X8_at : GoodIn wsL_isHouseholdRight wsX8_at := goodIn_ca (goodIn_r _ [71, 10, 11, 14, 72, 49, 73, 74, 52, 81, 82, 83, 84, 85, 86, 87, 88, 89, 90, 91, 92, 93, 94, 95, 96, 114, 115] (by decide +kernel) (by decide +kernel)) (goodIn_sub (fun _ h => List.mem_cons_of_mem _ (List.mem_append_left _ (List.mem_append_left _ (List.mem_append_right _ h)))) (by decide +kernel))
set_option maxRecDepth 20000 in
theorem gL_isHouseholdRight_X8_at : GoodIn wsL_isHouseholdRight (wsV RL 70 RX8 yX8_at wsX8_at) := goodIn_app (goodIn_of _ (by decide +kernel)) ggL_isHouseholdRight_X8_at
set_option maxRecDepth 20000 in
theorem ggL_isHouseholdRight_X8_turnIn : GoodIn wsL_isHouseholdRight wsX8_turnIn := goodIn_ca (goodIn_ca (goodIn_r _ [78, 10, 11, 79, 80, 14, 15, 16, 17, 18, 19, 48, 49, 50, 51, 52, 53, 81, 82, 83, 84, 85, 86, 87, 88, 89, 90, 91, 92, 93, 94, 95, 96, 97, 98, 99, 100, 101, 102, 103, 104, 105, 114, 115] (by decide +kernel) (by decide +kernel)) (goodIn_sub (fun _ h => List.mem_cons_of_mem _ (List.mem_append_left _ (List.mem_append_left _ (List.mem_append_right _ h)))) (by decide +kernel))) (goodIn_sub (fun _ h => List.mem_cons_of_mem _ (List.mem_append_right _ h)) (by decide +kernel))
set_option maxRecDepth 20000 in
theorem gL_isHouseholdRight_X8_turnIn : GoodIn wsL_isHouseholdRight (wsV RL 95 RX8 yX8_turnIn wsX8_turnIn) := goodIn_app (goodIn_of _ (by decide +kernel)) ggL_isHouseholdRight_X8_turnIn
theorem dL_isHouseholdRight_0 : decode cL_isHouseholdRight 0 = .ok (.iconst 0, 1) := by decide +kernel
theorem dL_isHouseholdRight_1 : decode cL_isHouseholdRight 1 = .ok (.istore_n 2, 1) := by decide +kernel
theorem dL_isHouseholdRight_2 : decode cL_isHouseholdRight 2 = .ok (.iconst 1, 1) := by decide +kernel
theorem dL_isHouseholdRight_3 : decode cL_isHouseholdRight 3 = .ok (.istore_n 3, 1) := by decide +kernel
theorem dL_isHouseholdRight_4 : decode cL_isHouseholdRight 4 = .ok (.iconst 0, 1) := by decide +kernel
theorem dL_isHouseholdRight_5 : decode cL_isHouseholdRight 5 = .ok (.istore 4, 2) := by decide +kernel
theorem dL_isHouseholdRight_7 : decode cL_isHouseholdRight 7 = .ok (.iload 4, 2) := by decide +kernel
theorem dL_isHouseholdRight_9 : decode cL_isHouseholdRight 9 = .ok (.iconst 4, 1) := by decide +kernel
theorem dL_isHouseholdRight_10 : decode cL_isHouseholdRight 10 = .ok (.if_icmp .ge 59, 3) := by decide +kernel
theorem dL_isHouseholdRight_13 : decode cL_isHouseholdRight 13 = .ok (.iload_n 3, 1) := by decide +kernel
theorem dL_isHouseholdRight_14 : decode cL_isHouseholdRight 14 = .ok (.ifCond .eq 24, 3) := by decide +kernel
theorem dL_isHouseholdRight_17 : decode cL_isHouseholdRight 17 = .ok (.aload_n 0, 1) := by decide +kernel
theorem dL_isHouseholdRight_18 : decode cL_isHouseholdRight 18 = .ok (.iload_n 1, 1) := by decide +kernel
theorem dL_isHouseholdRight_19 : decode cL_isHouseholdRight 19 = .ok (.iload 4, 2) := by decide +kernel
theorem dL_isHouseholdRight_21 : decode cL_isHouseholdRight 21 = .ok (.invokevirtual 80, 3) := by decide +kernel
theorem dL_isHouseholdRight_24 : decode cL_isHouseholdRight 24 = .ok (.aload_n 0, 1) := by decide +kernel
theorem dL_isHouseholdRight_25 : decode cL_isHouseholdRight 25 = .ok (.iload_n 1, 1) := by decide +kernel
theorem dL_isHouseholdRight_26 : decode cL_isHouseholdRight 26 = .ok (.iload 4, 2) := by decide +kernel
theorem dL_isHouseholdRight_28 : decode cL_isHouseholdRight 28 = .ok (.invokestatic 83, 3) := by decide +kernel
theorem dL_isHouseholdRight_31 : decode cL_isHouseholdRight 31 = .ok (.if_icmp .ne 7, 3) := by decide +kernel
theorem dL_isHouseholdRight_34 : decode cL_isHouseholdRight 34 = .ok (.iconst 1, 1) := by decide +kernel
theorem dL_isHouseholdRight_35 : decode cL_isHouseholdRight 35 = .ok (.goto 4, 3) := by decide +kernel
theorem dL_isHouseholdRight_38 : decode cL_isHouseholdRight 38 = .ok (.iconst 0, 1) := by decide +kernel
theorem dL_isHouseholdRight_39 : decode cL_isHouseholdRight 39 = .ok (.istore_n 3, 1) := by decide +kernel
theorem dL_isHouseholdRight_40 : decode cL_isHouseholdRight 40 = .ok (.aload_n 0, 1) := by decide +kernel
theorem dL_isHouseholdRight_41 : decode cL_isHouseholdRight 41 = .ok (.iload_n 1, 1) := by decide +kernel
theorem dL_isHouseholdRight_42 : decode cL_isHouseholdRight 42 = .ok (.iload 4, 2) := by decide +kernel
theorem dL_isHouseholdRight_44 : decode cL_isHouseholdRight 44 = .ok (.invokestatic 83, 3) := by decide +kernel
theorem dL_isHouseholdRight_47 : decode cL_isHouseholdRight 47 = .ok (.aload_n 0, 1) := by decide +kernel
theorem dL_isHouseholdRight_48 : decode cL_isHouseholdRight 48 = .ok (.iload_n 1, 1) := by decide +kernel
theorem dL_isHouseholdRight_49 : decode cL_isHouseholdRight 49 = .ok (.iload_n 2, 1) := by decide +kernel
theorem dL_isHouseholdRight_50 : decode cL_isHouseholdRight 50 = .ok (.invokestatic 83, 3) := by decide +kernel
theorem dL_isHouseholdRight_53 : decode cL_isHouseholdRight 53 = .ok (.if_icmp .le 8, 3) := by decide +kernel
theorem dL_isHouseholdRight_56 : decode cL_isHouseholdRight 56 = .ok (.iload 4, 2) := by decide +kernel
theorem dL_isHouseholdRight_58 : decode cL_isHouseholdRight 58 = .ok (.goto 4, 3) := by decide +kernel
theorem dL_isHouseholdRight_61 : decode cL_isHouseholdRight 61 = .ok (.iload_n 2, 1) := by decide +kernel
theorem dL_isHouseholdRight_62 : decode cL_isHouseholdRight 62 = .ok (.istore_n 2, 1) := by decide +kernel
theorem dL_isHouseholdRight_63 : decode cL_isHouseholdRight 63 = .ok (.iinc 4 1, 3) := by decide +kernel
theorem dL_isHouseholdRight_66 : decode cL_isHouseholdRight 66 = .ok (.goto (-59), 3) := by decide +kernel
theorem dL_isHouseholdRight_69 : decode cL_isHouseholdRight 69 = .ok (.aload_n 0, 1) := by decide +kernel
theorem dL_isHouseholdRight_70 : decode cL_isHouseholdRight 70 = .ok (.iload_n 1, 1) := by decide +kernel
theorem dL_isHouseholdRight_71 : decode cL_isHouseholdRight 71 = .ok (.aload_n 0, 1) := by decide +kernel
theorem dL_isHouseholdRight_72 : decode cL_isHouseholdRight 72 = .ok (.bipush 10, 2) := by decide +kernel
theorem dL_isHouseholdRight_74 : decode cL_isHouseholdRight 74 = .ok (.invokevirtual 33, 3) := by decide +kernel
theorem dL_isHouseholdRight_77 : decode cL_isHouseholdRight 77 = .ok (.invokestatic 83, 3) := by decide +kernel
theorem dL_isHouseholdRight_80 : decode cL_isHouseholdRight 80 = .ok (.istore 4, 2) := by decide +kernel
theorem dL_isHouseholdRight_82 : decode cL_isHouseholdRight 82 = .ok (.aload_n 0, 1) := by decide +kernel
theorem dL_isHouseholdRight_83 : decode cL_isHouseholdRight 83 = .ok (.bipush 12, 2) := by decide +kernel
theorem dL_isHouseholdRight_85 : decode cL_isHouseholdRight 85 = .ok (.invokevirtual 33, 3) := by decide +kernel
theorem dL_isHouseholdRight_88 : decode cL_isHouseholdRight 88 = .ok (.iconst 1, 1) := by decide +kernel
theorem dL_isHouseholdRight_89 : decode cL_isHouseholdRight 89 = .ok (.if_icmp .ne 12, 3) := by decide +kernel
theorem dL_isHouseholdRight_92 : decode cL_isHouseholdRight 92 = .ok (.iload 4, 2) := by decide +kernel
theorem dL_isHouseholdRight_94 : decode cL_isHouseholdRight 94 = .ok (.iconst 1, 1) := by decide +kernel
theorem dL_isHouseholdRight_95 : decode cL_isHouseholdRight 95 = .ok (.iadd, 1) := by decide +kernel
theorem dL_isHouseholdRight_96 : decode cL_isHouseholdRight 96 = .ok (.iconst 2, 1) := by decide +kernel
theorem dL_isHouseholdRight_97 : decode cL_isHouseholdRight 97 = .ok (.idiv, 1) := by decide +kernel
theorem dL_isHouseholdRight_98 : decode cL_isHouseholdRight 98 = .ok (.goto 5, 3) := by decide +kernel
theorem dL_isHouseholdRight_101 : decode cL_isHouseholdRight 101 = .ok (.iload 4, 2) := by decide +kernel
theorem dL_isHouseholdRight_103 : decode cL_isHouseholdRight 103 = .ok (.istore 5, 2) := by decide +kernel
theorem dL_isHouseholdRight_105 : decode cL_isHouseholdRight 105 = .ok (.iconst 0, 1) := by decide +kernel
theorem dL_isHouseholdRight_106 : decode cL_isHouseholdRight 106 = .ok (.iload 5, 2) := by decide +kernel
theorem dL_isHouseholdRight_108 : decode cL_isHouseholdRight 108 = .ok (.aload_n 0, 1) := by decide +kernel
theorem dL_isHouseholdRight_109 : decode cL_isHouseholdRight 109 = .ok (.iload_n 1, 1) := by decide +kernel
theorem dL_isHouseholdRight_110 : decode cL_isHouseholdRight 110 = .ok (.iconst 5, 1) := by decide +kernel
theorem dL_isHouseholdRight_111 : decode cL_isHouseholdRight 111 = .ok (.invokevirtual 63, 3) := by decide +kernel
theorem dL_isHouseholdRight_114 : decode cL_isHouseholdRight 114 = .ok (.isub, 1) := by decide +kernel
theorem dL_isHouseholdRight_115 : decode cL_isHouseholdRight 115 = .ok (.aload_n 0, 1) := by decide +kernel
theorem dL_isHouseholdRight_116 : decode cL_isHouseholdRight 116 = .ok (.iload_n 1, 1) := by decide +kernel
theorem dL_isHouseholdRight_117 : decode cL_isHouseholdRight 117 = .ok (.bipush 6, 2) := by decide +kernel
theorem dL_isHouseholdRight_119 : decode cL_isHouseholdRight 119 = .ok (.invokevirtual 63, 3) := by decide +kernel
theorem dL_isHouseholdRight_122 : decode cL_isHouseholdRight 122 = .ok (.isub, 1) := by decide +kernel
theorem dL_isHouseholdRight_123 : decode cL_isHouseholdRight 123 = .ok (.invokestatic 87, 3) := by decide +kernel
theorem dL_isHouseholdRight_126 : decode cL_isHouseholdRight 126 = .ok (.istore 6, 2) := by decide +kernel
theorem dL_isHouseholdRight_128 : decode cL_isHouseholdRight 128 = .ok (.iload_n 3, 1) := by decide +kernel
theorem dL_isHouseholdRight_129 : decode cL_isHouseholdRight 129 = .ok (.ifCond .eq 58, 3) := by decide +kernel
theorem dL_isHouseholdRight_132 : decode cL_isHouseholdRight 132 = .ok (.aload_n 0, 1) := by decide +kernel
theorem dL_isHouseholdRight_133 : decode cL_isHouseholdRight 133 = .ok (.iload_n 1, 1) := by decide +kernel
theorem dL_isHouseholdRight_134 : decode cL_isHouseholdRight 134 = .ok (.invokevirtual 92, 3) := by decide +kernel
theorem dL_isHouseholdRight_137 : decode cL_isHouseholdRight 137 = .ok (.iload_n 2, 1) := by decide +kernel
theorem dL_isHouseholdRight_138 : decode cL_isHouseholdRight 138 = .ok (.if_icmp .ne 49, 3) := by decide +kernel
theorem dL_isHouseholdRight_141 : decode cL_isHouseholdRight 141 = .ok (.aload_n 0, 1) := by decide +kernel
theorem dL_isHouseholdRight_142 : decode cL_isHouseholdRight 142 = .ok (.iload_n 1, 1) := by decide +kernel
theorem dL_isHouseholdRight_143 : decode cL_isHouseholdRight 143 = .ok (.iconst 3, 1) := by decide +kernel
theorem dL_isHouseholdRight_144 : decode cL_isHouseholdRight 144 = .ok (.invokevirtual 63, 3) := by decide +kernel
theorem dL_isHouseholdRight_147 : decode cL_isHouseholdRight 147 = .ok (.iload 5, 2) := by decide +kernel
theorem dL_isHouseholdRight_149 : decode cL_isHouseholdRight 149 = .ok (.if_icmp .ne 38, 3) := by decide +kernel
theorem dL_isHouseholdRight_152 : decode cL_isHouseholdRight 152 = .ok (.aload_n 0, 1) := by decide +kernel
theorem dL_isHouseholdRight_153 : decode cL_isHouseholdRight 153 = .ok (.iload_n 1, 1) := by decide +kernel
theorem dL_isHouseholdRight_154 : decode cL_isHouseholdRight 154 = .ok (.iconst 4, 1) := by decide +kernel
theorem dL_isHouseholdRight_155 : decode cL_isHouseholdRight 155 = .ok (.invokevirtual 63, 3) := by decide +kernel
theorem dL_isHouseholdRight_158 : decode cL_isHouseholdRight 158 = .ok (.iload 6, 2) := by decide +kernel
theorem dL_isHouseholdRight_160 : decode cL_isHouseholdRight 160 = .ok (.if_icmp .ne 27, 3) := by decide +kernel
theorem dL_isHouseholdRight_163 : decode cL_isHouseholdRight 163 = .ok (.aload_n 0, 1) := by decide +kernel
theorem dL_isHouseholdRight_164 : decode cL_isHouseholdRight 164 = .ok (.iload_n 1, 1) := by decide +kernel
theorem dL_isHouseholdRight_165 : decode cL_isHouseholdRight 165 = .ok (.iconst 2, 1) := by decide +kernel
theorem dL_isHouseholdRight_166 : decode cL_isHouseholdRight 166 = .ok (.invokevirtual 63, 3) := by decide +kernel
theorem dL_isHouseholdRight_169 : decode cL_isHouseholdRight 169 = .ok (.ifCond .lt 18, 3) := by decide +kernel
theorem dL_isHouseholdRight_172 : decode cL_isHouseholdRight 172 = .ok (.aload_n 0, 1) := by decide +kernel
theorem dL_isHouseholdRight_173 : decode cL_isHouseholdRight 173 = .ok (.iload_n 1, 1) := by decide +kernel
theorem dL_isHouseholdRight_174 : decode cL_isHouseholdRight 174 = .ok (.iconst 2, 1) := by decide +kernel
theorem dL_isHouseholdRight_175 : decode cL_isHouseholdRight 175 = .ok (.invokevirtual 63, 3) := by decide +kernel
theorem dL_isHouseholdRight_178 : decode cL_isHouseholdRight 178 = .ok (.bipush 9, 2) := by decide +kernel
theorem dL_isHouseholdRight_180 : decode cL_isHouseholdRight 180 = .ok (.if_icmp .gt 7, 3) := by decide +kernel
theorem dL_isHouseholdRight_183 : decode cL_isHouseholdRight 183 = .ok (.iconst 1, 1) := by decide +kernel
theorem dL_isHouseholdRight_184 : decode cL_isHouseholdRight 184 = .ok (.goto 4, 3) := by decide +kernel
theorem dL_isHouseholdRight_187 : decode cL_isHouseholdRight 187 = .ok (.iconst 0, 1) := by decide +kernel
theorem dL_isHouseholdRight_188 : decode cL_isHouseholdRight 188 = .ok (.istore_n 3, 1) := by decide +kernel
theorem dL_isHouseholdRight_189 : decode cL_isHouseholdRight 189 = .ok (.aload_n 0, 1) := by decide +kernel
theorem dL_isHouseholdRight_190 : decode cL_isHouseholdRight 190 = .ok (.iload_n 1, 1) := by decide +kernel
theorem dL_isHouseholdRight_191 : decode cL_isHouseholdRight 191 = .ok (.bipush 8, 2) := by decide +kernel
theorem dL_isHouseholdRight_193 : decode cL_isHouseholdRight 193 = .ok (.invokevirtual 63, 3) := by decide +kernel
theorem dL_isHouseholdRight_196 : decode cL_isHouseholdRight 196 = .ok (.istore 7, 2) := by decide +kernel
theorem dL_isHouseholdRight_198 : decode cL_isHouseholdRight 198 = .ok (.iload_n 3, 1) := by decide +kernel
theorem dL_isHouseholdRight_199 : decode cL_isHouseholdRight 199 = .ok (.ifCond .eq 40, 3) := by decide +kernel
theorem dL_isHouseholdRight_202 : decode cL_isHouseholdRight 202 = .ok (.iload 7, 2) := by decide +kernel
theorem dL_isHouseholdRight_204 : decode cL_isHouseholdRight 204 = .ok (.iconst (-1), 1) := by decide +kernel
theorem dL_isHouseholdRight_205 : decode cL_isHouseholdRight 205 = .ok (.if_icmp .eq 30, 3) := by decide +kernel
theorem dL_isHouseholdRight_208 : decode cL_isHouseholdRight 208 = .ok (.aload_n 0, 1) := by decide +kernel
theorem dL_isHouseholdRight_209 : decode cL_isHouseholdRight 209 = .ok (.iload 7, 2) := by decide +kernel
theorem dL_isHouseholdRight_211 : decode cL_isHouseholdRight 211 = .ok (.invokevirtual 70, 3) := by decide +kernel
theorem dL_isHouseholdRight_214 : decode cL_isHouseholdRight 214 = .ok (.iload_n 1, 1) := by decide +kernel
theorem dL_isHouseholdRight_215 : decode cL_isHouseholdRight 215 = .ok (.if_icmp .ne 24, 3) := by decide +kernel
theorem dL_isHouseholdRight_218 : decode cL_isHouseholdRight 218 = .ok (.iload 6, 2) := by decide +kernel
theorem dL_isHouseholdRight_220 : decode cL_isHouseholdRight 220 = .ok (.ifCond .le 19, 3) := by decide +kernel
theorem dL_isHouseholdRight_223 : decode cL_isHouseholdRight 223 = .ok (.aload_n 0, 1) := by decide +kernel
theorem dL_isHouseholdRight_224 : decode cL_isHouseholdRight 224 = .ok (.iload_n 1, 1) := by decide +kernel
theorem dL_isHouseholdRight_225 : decode cL_isHouseholdRight 225 = .ok (.invokevirtual 95, 3) := by decide +kernel
theorem dL_isHouseholdRight_228 : decode cL_isHouseholdRight 228 = .ok (.iload 7, 2) := by decide +kernel
theorem dL_isHouseholdRight_230 : decode cL_isHouseholdRight 230 = .ok (.iconst 1, 1) := by decide +kernel
theorem dL_isHouseholdRight_231 : decode cL_isHouseholdRight 231 = .ok (.iadd, 1) := by decide +kernel
theorem dL_isHouseholdRight_232 : decode cL_isHouseholdRight 232 = .ok (.if_icmp .ne 7, 3) := by decide +kernel
theorem dL_isHouseholdRight_235 : decode cL_isHouseholdRight 235 = .ok (.iconst 1, 1) := by decide +kernel
theorem dL_isHouseholdRight_236 : decode cL_isHouseholdRight 236 = .ok (.goto 4, 3) := by decide +kernel
theorem dL_isHouseholdRight_239 : decode cL_isHouseholdRight 239 = .ok (.iconst 0, 1) := by decide +kernel
theorem dL_isHouseholdRight_240 : decode cL_isHouseholdRight 240 = .ok (.ireturn, 1) := by decide +kernel
