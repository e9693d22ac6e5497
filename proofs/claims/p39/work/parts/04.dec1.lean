theorem dX0_init_0 : decode cX0_init 0 = .ok (.aload_n 0, 1) := by decide +kernel
theorem dX0_init_1 : decode cX0_init 1 = .ok (.invokespecial 3, 3) := by decide +kernel
theorem dX0_init_4 : decode cX0_init 4 = .ok (.aload_n 0, 1) := by decide +kernel
theorem dX0_init_5 : decode cX0_init 5 = .ok (.bipush 60, 2) := by decide +kernel
theorem dX0_init_7 : decode cX0_init 7 = .ok (.newarray .char, 2) := by decide +kernel
theorem dX0_init_9 : decode cX0_init 9 = .ok (.putfield 9, 3) := by decide +kernel
theorem dX0_init_12 : decode cX0_init 12 = .ok (.aload_n 0, 1) := by decide +kernel
theorem dX0_init_13 : decode cX0_init 13 = .ok (.bipush 60, 2) := by decide +kernel
theorem dX0_init_15 : decode cX0_init 15 = .ok (.newarray .char, 2) := by decide +kernel
theorem dX0_init_17 : decode cX0_init 17 = .ok (.putfield 15, 3) := by decide +kernel
theorem dX0_init_20 : decode cX0_init 20 = .ok (.aload_n 0, 1) := by decide +kernel
theorem dX0_init_21 : decode cX0_init 21 = .ok (.bipush 60, 2) := by decide +kernel
theorem dX0_init_23 : decode cX0_init 23 = .ok (.newarray .int, 2) := by decide +kernel
theorem dX0_init_25 : decode cX0_init 25 = .ok (.putfield 18, 3) := by decide +kernel
theorem dX0_init_28 : decode cX0_init 28 = .ok (.return_, 1) := by decide +kernel
set_option maxRecDepth 20000 in
theorem ggX1_init_X6_init : GoodIn wsX1_init wsX6_init := goodIn_r _ [9, 10, 2, 3, 11, 12, 13, 14, 15, 16, 17, 18, 19, 20, 21, 22, 23, 24, 25, 26, 27, 28, 29, 30, 31, 32, 33, 34, 35, 36, 37, 38, 39, 40, 41, 42, 43, 44, 45, 46, 47, 48, 49, 50, 51, 52, 53, 54, 65, 66, 67, 68, 69, 70, 71, 72, 73, 58, 59, 60, 61, 62, 63, 64, 74, 75, 76, 77, 78, 79, 80, 81, 82, 83, 84, 85, 86, 87, 88, 89] (by decide +kernel) (by decide +kernel)
set_option maxRecDepth 20000 in
theorem gX1_init_X6_init_n17 : GoodIn wsX1_init (wsX6_init) := ggX1_init_X6_init
theorem dX1_init_0 : decode cX1_init 0 = .ok (.aload_n 0, 1) := by decide +kernel
theorem dX1_init_1 : decode cX1_init 1 = .ok (.invokespecial 3, 3) := by decide +kernel
theorem dX1_init_4 : decode cX1_init 4 = .ok (.aload_n 0, 1) := by decide +kernel
theorem dX1_init_5 : decode cX1_init 5 = .ok (.bipush 8, 2) := by decide +kernel
theorem dX1_init_7 : decode cX1_init 7 = .ok (.anewarray 9, 3) := by decide +kernel
theorem dX1_init_10 : decode cX1_init 10 = .ok (.putfield 11, 3) := by decide +kernel
theorem dX1_init_13 : decode cX1_init 13 = .ok (.iconst 0, 1) := by decide +kernel
theorem dX1_init_14 : decode cX1_init 14 = .ok (.istore_n 1, 1) := by decide +kernel
theorem dX1_init_15 : decode cX1_init 15 = .ok (.iload_n 1, 1) := by decide +kernel
theorem dX1_init_16 : decode cX1_init 16 = .ok (.bipush 8, 2) := by decide +kernel
theorem dX1_init_18 : decode cX1_init 18 = .ok (.if_icmp .ge 22, 3) := by decide +kernel
theorem dX1_init_21 : decode cX1_init 21 = .ok (.aload_n 0, 1) := by decide +kernel
theorem dX1_init_22 : decode cX1_init 22 = .ok (.getfield 11, 3) := by decide +kernel
theorem dX1_init_25 : decode cX1_init 25 = .ok (.iload_n 1, 1) := by decide +kernel
theorem dX1_init_26 : decode cX1_init 26 = .ok (.new 9, 3) := by decide +kernel
theorem dX1_init_29 : decode cX1_init 29 = .ok (.dup, 1) := by decide +kernel
theorem dX1_init_30 : decode cX1_init 30 = .ok (.invokespecial 17, 3) := by decide +kernel
theorem dX1_init_33 : decode cX1_init 33 = .ok (.aastore, 1) := by decide +kernel
theorem dX1_init_34 : decode cX1_init 34 = .ok (.iinc 1 1, 3) := by decide +kernel
theorem dX1_init_37 : decode cX1_init 37 = .ok (.goto (-22), 3) := by decide +kernel
theorem dX1_init_40 : decode cX1_init 40 = .ok (.return_, 1) := by decide +kernel
set_option maxRecDepth 20000 in
theorem ggX1_keep_X6_copyFrom : GoodIn wsX1_keep wsX6_copyFrom := goodIn_r _ [11, 12, 13, 14, 15, 16, 17, 18, 19, 20, 21, 22, 23, 24, 25, 26, 27, 28, 29, 30, 31, 32, 33, 34, 35, 36, 37, 38, 39, 40, 41, 42, 43, 44, 45, 46, 47, 48, 49, 50, 51, 52, 53, 54, 55, 56, 57, 58, 59, 60, 61, 62, 63, 64, 65, 69, 70, 71, 72, 73, 74, 75, 76, 77, 78, 79, 80, 81, 82, 83, 84, 85, 86, 87, 88, 89, 90, 91, 92, 93, 94, 95, 96, 97, 98, 99, 100] (by decide +kernel) (by decide +kernel)
set_option maxRecDepth 20000 in
theorem gX1_keep_X6_copyFrom_n22 : GoodIn wsX1_keep (wsX6_copyFrom) := ggX1_keep_X6_copyFrom
theorem dX1_keep_0 : decode cX1_keep 0 = .ok (.aload_n 0, 1) := by decide +kernel
theorem dX1_keep_1 : decode cX1_keep 1 = .ok (.getfield 11, 3) := by decide +kernel
theorem dX1_keep_4 : decode cX1_keep 4 = .ok (.aload_n 0, 1) := by decide +kernel
theorem dX1_keep_5 : decode cX1_keep 5 = .ok (.getfield 18, 3) := by decide +kernel
theorem dX1_keep_8 : decode cX1_keep 8 = .ok (.aaload, 1) := by decide +kernel
theorem dX1_keep_9 : decode cX1_keep 9 = .ok (.aload_n 1, 1) := by decide +kernel
theorem dX1_keep_10 : decode cX1_keep 10 = .ok (.invokevirtual 22, 3) := by decide +kernel
theorem dX1_keep_13 : decode cX1_keep 13 = .ok (.aload_n 0, 1) := by decide +kernel
theorem dX1_keep_14 : decode cX1_keep 14 = .ok (.aload_n 0, 1) := by decide +kernel
theorem dX1_keep_15 : decode cX1_keep 15 = .ok (.getfield 18, 3) := by decide +kernel
theorem dX1_keep_18 : decode cX1_keep 18 = .ok (.iconst 1, 1) := by decide +kernel
theorem dX1_keep_19 : decode cX1_keep 19 = .ok (.iadd, 1) := by decide +kernel
theorem dX1_keep_20 : decode cX1_keep 20 = .ok (.bipush 8, 2) := by decide +kernel
theorem dX1_keep_22 : decode cX1_keep 22 = .ok (.irem, 1) := by decide +kernel
theorem dX1_keep_23 : decode cX1_keep 23 = .ok (.putfield 18, 3) := by decide +kernel
theorem dX1_keep_26 : decode cX1_keep 26 = .ok (.aload_n 0, 1) := by decide +kernel
theorem dX1_keep_27 : decode cX1_keep 27 = .ok (.bipush 8, 2) := by decide +kernel
theorem dX1_keep_29 : decode cX1_keep 29 = .ok (.aload_n 0, 1) := by decide +kernel
theorem dX1_keep_30 : decode cX1_keep 30 = .ok (.getfield 26, 3) := by decide +kernel
theorem dX1_keep_33 : decode cX1_keep 33 = .ok (.iconst 1, 1) := by decide +kernel
theorem dX1_keep_34 : decode cX1_keep 34 = .ok (.iadd, 1) := by decide +kernel
theorem dX1_keep_35 : decode cX1_keep 35 = .ok (.invokestatic 29, 3) := by decide +kernel
theorem dX1_keep_38 : decode cX1_keep 38 = .ok (.putfield 26, 3) := by decide +kernel
theorem dX1_keep_41 : decode cX1_keep 41 = .ok (.return_, 1) := by decide +kernel
theorem dX2_init_0 : decode cX2_init 0 = .ok (.aload_n 0, 1) := by decide +kernel
theorem dX2_init_1 : decode cX2_init 1 = .ok (.invokespecial 3, 3) := by decide +kernel
theorem dX2_init_4 : decode cX2_init 4 = .ok (.aload_n 0, 1) := by decide +kernel
theorem dX2_init_5 : decode cX2_init 5 = .ok (.bipush 8, 2) := by decide +kernel
theorem dX2_init_7 : decode cX2_init 7 = .ok (.newarray .int, 2) := by decide +kernel
theorem dX2_init_9 : decode cX2_init 9 = .ok (.putfield 9, 3) := by decide +kernel
theorem dX2_init_12 : decode cX2_init 12 = .ok (.aload_n 0, 1) := by decide +kernel
theorem dX2_init_13 : decode cX2_init 13 = .ok (.bipush 8, 2) := by decide +kernel
theorem dX2_init_15 : decode cX2_init 15 = .ok (.newarray .int, 2) := by decide +kernel
theorem dX2_init_17 : decode cX2_init 17 = .ok (.putfield 15, 3) := by decide +kernel
theorem dX2_init_20 : decode cX2_init 20 = .ok (.aload_n 0, 1) := by decide +kernel
theorem dX2_init_21 : decode cX2_init 21 = .ok (.bipush 8, 2) := by decide +kernel
theorem dX2_init_23 : decode cX2_init 23 = .ok (.newarray .int, 2) := by decide +kernel
theorem dX2_init_25 : decode cX2_init 25 = .ok (.putfield 18, 3) := by decide +kernel
theorem dX2_init_28 : decode cX2_init 28 = .ok (.aload_n 0, 1) := by decide +kernel
theorem dX2_init_29 : decode cX2_init 29 = .ok (.bipush 8, 2) := by decide +kernel
theorem dX2_init_31 : decode cX2_init 31 = .ok (.newarray .int, 2) := by decide +kernel
theorem dX2_init_33 : decode cX2_init 33 = .ok (.putfield 21, 3) := by decide +kernel
theorem dX2_init_36 : decode cX2_init 36 = .ok (.aload_n 0, 1) := by decide +kernel
theorem dX2_init_37 : decode cX2_init 37 = .ok (.bipush 8, 2) := by decide +kernel
theorem dX2_init_39 : decode cX2_init 39 = .ok (.newarray .int, 2) := by decide +kernel
theorem dX2_init_41 : decode cX2_init 41 = .ok (.putfield 24, 3) := by decide +kernel
theorem dX2_init_44 : decode cX2_init 44 = .ok (.aload_n 0, 1) := by decide +kernel
theorem dX2_init_45 : decode cX2_init 45 = .ok (.bipush 8, 2) := by decide +kernel
theorem dX2_init_47 : decode cX2_init 47 = .ok (.newarray .int, 2) := by decide +kernel
theorem dX2_init_49 : decode cX2_init 49 = .ok (.putfield 27, 3) := by decide +kernel
theorem dX2_init_52 : decode cX2_init 52 = .ok (.aload_n 0, 1) := by decide +kernel
theorem dX2_init_53 : decode cX2_init 53 = .ok (.bipush 8, 2) := by decide +kernel
theorem dX2_init_55 : decode cX2_init 55 = .ok (.bipush 8, 2) := by decide +kernel
theorem dX2_init_57 : decode cX2_init 57 = .ok (.multianewarray 30 2, 4) := by decide +kernel
theorem dX2_init_61 : decode cX2_init 61 = .ok (.putfield 32, 3) := by decide +kernel
theorem dX2_init_64 : decode cX2_init 64 = .ok (.return_, 1) := by decide +kernel
theorem dX2_copyFrom_0 : decode cX2_copyFrom 0 = .ok (.aload_n 0, 1) := by decide +kernel
theorem dX2_copyFrom_1 : decode cX2_copyFrom 1 = .ok (.aload_n 1, 1) := by decide +kernel
theorem dX2_copyFrom_2 : decode cX2_copyFrom 2 = .ok (.getfield 35, 3) := by decide +kernel
theorem dX2_copyFrom_5 : decode cX2_copyFrom 5 = .ok (.putfield 35, 3) := by decide +kernel
theorem dX2_copyFrom_8 : decode cX2_copyFrom 8 = .ok (.aload_n 0, 1) := by decide +kernel
theorem dX2_copyFrom_9 : decode cX2_copyFrom 9 = .ok (.aload_n 1, 1) := by decide +kernel
theorem dX2_copyFrom_10 : decode cX2_copyFrom 10 = .ok (.getfield 39, 3) := by decide +kernel
theorem dX2_copyFrom_13 : decode cX2_copyFrom 13 = .ok (.putfield 39, 3) := by decide +kernel
theorem dX2_copyFrom_16 : decode cX2_copyFrom 16 = .ok (.iconst 0, 1) := by decide +kernel
theorem dX2_copyFrom_17 : decode cX2_copyFrom 17 = .ok (.istore_n 2, 1) := by decide +kernel
theorem dX2_copyFrom_18 : decode cX2_copyFrom 18 = .ok (.iload_n 2, 1) := by decide +kernel
theorem dX2_copyFrom_19 : decode cX2_copyFrom 19 = .ok (.bipush 8, 2) := by decide +kernel
theorem dX2_copyFrom_21 : decode cX2_copyFrom 21 = .ok (.if_icmp .ge 100, 3) := by decide +kernel
theorem dX2_copyFrom_24 : decode cX2_copyFrom 24 = .ok (.aload_n 0, 1) := by decide +kernel
theorem dX2_copyFrom_25 : decode cX2_copyFrom 25 = .ok (.getfield 9, 3) := by decide +kernel
theorem dX2_copyFrom_28 : decode cX2_copyFrom 28 = .ok (.iload_n 2, 1) := by decide +kernel
theorem dX2_copyFrom_29 : decode cX2_copyFrom 29 = .ok (.aload_n 1, 1) := by decide +kernel
theorem dX2_copyFrom_30 : decode cX2_copyFrom 30 = .ok (.getfield 9, 3) := by decide +kernel
theorem dX2_copyFrom_33 : decode cX2_copyFrom 33 = .ok (.iload_n 2, 1) := by decide +kernel
theorem dX2_copyFrom_34 : decode cX2_copyFrom 34 = .ok (.iaload, 1) := by decide +kernel
theorem dX2_copyFrom_35 : decode cX2_copyFrom 35 = .ok (.iastore, 1) := by decide +kernel
theorem dX2_copyFrom_36 : decode cX2_copyFrom 36 = .ok (.aload_n 0, 1) := by decide +kernel
theorem dX2_copyFrom_37 : decode cX2_copyFrom 37 = .ok (.getfield 15, 3) := by decide +kernel
theorem dX2_copyFrom_40 : decode cX2_copyFrom 40 = .ok (.iload_n 2, 1) := by decide +kernel
theorem dX2_copyFrom_41 : decode cX2_copyFrom 41 = .ok (.aload_n 1, 1) := by decide +kernel
theorem dX2_copyFrom_42 : decode cX2_copyFrom 42 = .ok (.getfield 15, 3) := by decide +kernel
theorem dX2_copyFrom_45 : decode cX2_copyFrom 45 = .ok (.iload_n 2, 1) := by decide +kernel
theorem dX2_copyFrom_46 : decode cX2_copyFrom 46 = .ok (.iaload, 1) := by decide +kernel
theorem dX2_copyFrom_47 : decode cX2_copyFrom 47 = .ok (.iastore, 1) := by decide +kernel
theorem dX2_copyFrom_48 : decode cX2_copyFrom 48 = .ok (.aload_n 0, 1) := by decide +kernel
theorem dX2_copyFrom_49 : decode cX2_copyFrom 49 = .ok (.getfield 18, 3) := by decide +kernel
theorem dX2_copyFrom_52 : decode cX2_copyFrom 52 = .ok (.iload_n 2, 1) := by decide +kernel
theorem dX2_copyFrom_53 : decode cX2_copyFrom 53 = .ok (.aload_n 1, 1) := by decide +kernel
theorem dX2_copyFrom_54 : decode cX2_copyFrom 54 = .ok (.getfield 18, 3) := by decide +kernel
theorem dX2_copyFrom_57 : decode cX2_copyFrom 57 = .ok (.iload_n 2, 1) := by decide +kernel
theorem dX2_copyFrom_58 : decode cX2_copyFrom 58 = .ok (.iaload, 1) := by decide +kernel
theorem dX2_copyFrom_59 : decode cX2_copyFrom 59 = .ok (.iastore, 1) := by decide +kernel
theorem dX2_copyFrom_60 : decode cX2_copyFrom 60 = .ok (.aload_n 0, 1) := by decide +kernel
theorem dX2_copyFrom_61 : decode cX2_copyFrom 61 = .ok (.getfield 21, 3) := by decide +kernel
theorem dX2_copyFrom_64 : decode cX2_copyFrom 64 = .ok (.iload_n 2, 1) := by decide +kernel
theorem dX2_copyFrom_65 : decode cX2_copyFrom 65 = .ok (.aload_n 1, 1) := by decide +kernel
theorem dX2_copyFrom_66 : decode cX2_copyFrom 66 = .ok (.getfield 21, 3) := by decide +kernel
theorem dX2_copyFrom_69 : decode cX2_copyFrom 69 = .ok (.iload_n 2, 1) := by decide +kernel
theorem dX2_copyFrom_70 : decode cX2_copyFrom 70 = .ok (.iaload, 1) := by decide +kernel
theorem dX2_copyFrom_71 : decode cX2_copyFrom 71 = .ok (.iastore, 1) := by decide +kernel
theorem dX2_copyFrom_72 : decode cX2_copyFrom 72 = .ok (.aload_n 0, 1) := by decide +kernel
theorem dX2_copyFrom_73 : decode cX2_copyFrom 73 = .ok (.getfield 24, 3) := by decide +kernel
theorem dX2_copyFrom_76 : decode cX2_copyFrom 76 = .ok (.iload_n 2, 1) := by decide +kernel
theorem dX2_copyFrom_77 : decode cX2_copyFrom 77 = .ok (.aload_n 1, 1) := by decide +kernel
theorem dX2_copyFrom_78 : decode cX2_copyFrom 78 = .ok (.getfield 24, 3) := by decide +kernel
theorem dX2_copyFrom_81 : decode cX2_copyFrom 81 = .ok (.iload_n 2, 1) := by decide +kernel
theorem dX2_copyFrom_82 : decode cX2_copyFrom 82 = .ok (.iaload, 1) := by decide +kernel
theorem dX2_copyFrom_83 : decode cX2_copyFrom 83 = .ok (.iastore, 1) := by decide +kernel
theorem dX2_copyFrom_84 : decode cX2_copyFrom 84 = .ok (.aload_n 0, 1) := by decide +kernel
theorem dX2_copyFrom_85 : decode cX2_copyFrom 85 = .ok (.getfield 27, 3) := by decide +kernel
theorem dX2_copyFrom_88 : decode cX2_copyFrom 88 = .ok (.iload_n 2, 1) := by decide +kernel
theorem dX2_copyFrom_89 : decode cX2_copyFrom 89 = .ok (.aload_n 1, 1) := by decide +kernel
theorem dX2_copyFrom_90 : decode cX2_copyFrom 90 = .ok (.getfield 27, 3) := by decide +kernel
theorem dX2_copyFrom_93 : decode cX2_copyFrom 93 = .ok (.iload_n 2, 1) := by decide +kernel
theorem dX2_copyFrom_94 : decode cX2_copyFrom 94 = .ok (.iaload, 1) := by decide +kernel
theorem dX2_copyFrom_95 : decode cX2_copyFrom 95 = .ok (.iastore, 1) := by decide +kernel
theorem dX2_copyFrom_96 : decode cX2_copyFrom 96 = .ok (.aload_n 1, 1) := by decide +kernel
theorem dX2_copyFrom_97 : decode cX2_copyFrom 97 = .ok (.getfield 32, 3) := by decide +kernel
theorem dX2_copyFrom_100 : decode cX2_copyFrom 100 = .ok (.iload_n 2, 1) := by decide +kernel
theorem dX2_copyFrom_101 : decode cX2_copyFrom 101 = .ok (.aaload, 1) := by decide +kernel
theorem dX2_copyFrom_102 : decode cX2_copyFrom 102 = .ok (.iconst 0, 1) := by decide +kernel
theorem dX2_copyFrom_103 : decode cX2_copyFrom 103 = .ok (.aload_n 0, 1) := by decide +kernel
theorem dX2_copyFrom_104 : decode cX2_copyFrom 104 = .ok (.getfield 32, 3) := by decide +kernel
theorem dX2_copyFrom_107 : decode cX2_copyFrom 107 = .ok (.iload_n 2, 1) := by decide +kernel
theorem dX2_copyFrom_108 : decode cX2_copyFrom 108 = .ok (.aaload, 1) := by decide +kernel
theorem dX2_copyFrom_109 : decode cX2_copyFrom 109 = .ok (.iconst 0, 1) := by decide +kernel
theorem dX2_copyFrom_110 : decode cX2_copyFrom 110 = .ok (.bipush 8, 2) := by decide +kernel
theorem dX2_copyFrom_112 : decode cX2_copyFrom 112 = .ok (.invokestatic 42, 3) := by decide +kernel
theorem dX2_copyFrom_115 : decode cX2_copyFrom 115 = .ok (.iinc 2 1, 3) := by decide +kernel
theorem dX2_copyFrom_118 : decode cX2_copyFrom 118 = .ok (.goto (-100), 3) := by decide +kernel
theorem dX2_copyFrom_121 : decode cX2_copyFrom 121 = .ok (.return_, 1) := by decide +kernel
theorem dX2_has_0 : decode cX2_has 0 = .ok (.iload_n 1, 1) := by decide +kernel
theorem dX2_has_1 : decode cX2_has 1 = .ok (.ifCond .lt 15, 3) := by decide +kernel
theorem dX2_has_4 : decode cX2_has 4 = .ok (.iload_n 1, 1) := by decide +kernel
theorem dX2_has_5 : decode cX2_has 5 = .ok (.aload_n 0, 1) := by decide +kernel
theorem dX2_has_6 : decode cX2_has 6 = .ok (.getfield 35, 3) := by decide +kernel
theorem dX2_has_9 : decode cX2_has 9 = .ok (.if_icmp .ge 7, 3) := by decide +kernel
theorem dX2_has_12 : decode cX2_has 12 = .ok (.iconst 1, 1) := by decide +kernel
theorem dX2_has_13 : decode cX2_has 13 = .ok (.goto 4, 3) := by decide +kernel
theorem dX2_has_16 : decode cX2_has 16 = .ok (.iconst 0, 1) := by decide +kernel
theorem dX2_has_17 : decode cX2_has 17 = .ok (.ireturn, 1) := by decide +kernel
theorem dX2_settle_0 : decode cX2_settle 0 = .ok (.aload_n 0, 1) := by decide +kernel
theorem dX2_settle_1 : decode cX2_settle 1 = .ok (.getfield 35, 3) := by decide +kernel
theorem dX2_settle_4 : decode cX2_settle 4 = .ok (.bipush 8, 2) := by decide +kernel
theorem dX2_settle_6 : decode cX2_settle 6 = .ok (.if_icmp .lt 5, 3) := by decide +kernel
theorem dX2_settle_9 : decode cX2_settle 9 = .ok (.iconst (-1), 1) := by decide +kernel
theorem dX2_settle_10 : decode cX2_settle 10 = .ok (.ireturn, 1) := by decide +kernel
theorem dX2_settle_11 : decode cX2_settle 11 = .ok (.aload_n 0, 1) := by decide +kernel
theorem dX2_settle_12 : decode cX2_settle 12 = .ok (.getfield 9, 3) := by decide +kernel
theorem dX2_settle_15 : decode cX2_settle 15 = .ok (.aload_n 0, 1) := by decide +kernel
theorem dX2_settle_16 : decode cX2_settle 16 = .ok (.getfield 35, 3) := by decide +kernel
theorem dX2_settle_19 : decode cX2_settle 19 = .ok (.iload_n 1, 1) := by decide +kernel
theorem dX2_settle_20 : decode cX2_settle 20 = .ok (.iastore, 1) := by decide +kernel
theorem dX2_settle_21 : decode cX2_settle 21 = .ok (.aload_n 0, 1) := by decide +kernel
theorem dX2_settle_22 : decode cX2_settle 22 = .ok (.getfield 15, 3) := by decide +kernel
theorem dX2_settle_25 : decode cX2_settle 25 = .ok (.aload_n 0, 1) := by decide +kernel
theorem dX2_settle_26 : decode cX2_settle 26 = .ok (.getfield 35, 3) := by decide +kernel
theorem dX2_settle_29 : decode cX2_settle 29 = .ok (.iload_n 2, 1) := by decide +kernel
theorem dX2_settle_30 : decode cX2_settle 30 = .ok (.iastore, 1) := by decide +kernel
theorem dX2_settle_31 : decode cX2_settle 31 = .ok (.aload_n 0, 1) := by decide +kernel
theorem dX2_settle_32 : decode cX2_settle 32 = .ok (.getfield 18, 3) := by decide +kernel
theorem dX2_settle_35 : decode cX2_settle 35 = .ok (.aload_n 0, 1) := by decide +kernel
theorem dX2_settle_36 : decode cX2_settle 36 = .ok (.getfield 35, 3) := by decide +kernel
theorem dX2_settle_39 : decode cX2_settle 39 = .ok (.iload_n 3, 1) := by decide +kernel
theorem dX2_settle_40 : decode cX2_settle 40 = .ok (.iastore, 1) := by decide +kernel
theorem dX2_settle_41 : decode cX2_settle 41 = .ok (.aload_n 0, 1) := by decide +kernel
theorem dX2_settle_42 : decode cX2_settle 42 = .ok (.dup, 1) := by decide +kernel
theorem dX2_settle_43 : decode cX2_settle 43 = .ok (.getfield 35, 3) := by decide +kernel
theorem dX2_settle_46 : decode cX2_settle 46 = .ok (.iconst 1, 1) := by decide +kernel
theorem dX2_settle_47 : decode cX2_settle 47 = .ok (.iadd, 1) := by decide +kernel
theorem dX2_settle_48 : decode cX2_settle 48 = .ok (.putfield 35, 3) := by decide +kernel
theorem dX2_settle_51 : decode cX2_settle 51 = .ok (.aload_n 0, 1) := by decide +kernel
theorem dX2_settle_52 : decode cX2_settle 52 = .ok (.getfield 35, 3) := by decide +kernel
theorem dX2_settle_55 : decode cX2_settle 55 = .ok (.iconst 1, 1) := by decide +kernel
theorem dX2_settle_56 : decode cX2_settle 56 = .ok (.isub, 1) := by decide +kernel
theorem dX2_settle_57 : decode cX2_settle 57 = .ok (.ireturn, 1) := by decide +kernel
theorem dX2_distance_0 : decode cX2_distance 0 = .ok (.aload_n 0, 1) := by decide +kernel
theorem dX2_distance_1 : decode cX2_distance 1 = .ok (.getfield 15, 3) := by decide +kernel
theorem dX2_distance_4 : decode cX2_distance 4 = .ok (.iload_n 1, 1) := by decide +kernel
theorem dX2_distance_5 : decode cX2_distance 5 = .ok (.iaload, 1) := by decide +kernel
theorem dX2_distance_6 : decode cX2_distance 6 = .ok (.aload_n 0, 1) := by decide +kernel
theorem dX2_distance_7 : decode cX2_distance 7 = .ok (.getfield 15, 3) := by decide +kernel
theorem dX2_distance_10 : decode cX2_distance 10 = .ok (.iload_n 2, 1) := by decide +kernel
theorem dX2_distance_11 : decode cX2_distance 11 = .ok (.iaload, 1) := by decide +kernel
theorem dX2_distance_12 : decode cX2_distance 12 = .ok (.isub, 1) := by decide +kernel
theorem dX2_distance_13 : decode cX2_distance 13 = .ok (.invokestatic 48, 3) := by decide +kernel
theorem dX2_distance_16 : decode cX2_distance 16 = .ok (.ireturn, 1) := by decide +kernel
set_option maxRecDepth 20000 in
theorem ggX2_neighbourSet_X2_distance : GoodIn wsX2_neighbourSet wsX2_distance := goodIn_r _ [6, 7, 8, 9, 10, 11, 12, 13, 14, 15, 16, 17, 18, 19, 20] (by decide +kernel) (by decide +kernel)
set_option maxRecDepth 20000 in
theorem gX2_neighbourSet_X2_distance : GoodIn wsX2_neighbourSet (wsV RX2 54 RX2 yX2_distance wsX2_distance) := goodIn_app (goodIn_of _ (by decide +kernel)) ggX2_neighbourSet_X2_distance
theorem dX2_neighbourSet_0 : decode cX2_neighbourSet 0 = .ok (.iconst 0, 1) := by decide +kernel
theorem dX2_neighbourSet_1 : decode cX2_neighbourSet 1 = .ok (.istore_n 2, 1) := by decide +kernel
theorem dX2_neighbourSet_2 : decode cX2_neighbourSet 2 = .ok (.iconst 0, 1) := by decide +kernel
theorem dX2_neighbourSet_3 : decode cX2_neighbourSet 3 = .ok (.istore_n 3, 1) := by decide +kernel
theorem dX2_neighbourSet_4 : decode cX2_neighbourSet 4 = .ok (.iload_n 3, 1) := by decide +kernel
theorem dX2_neighbourSet_5 : decode cX2_neighbourSet 5 = .ok (.aload_n 0, 1) := by decide +kernel
theorem dX2_neighbourSet_6 : decode cX2_neighbourSet 6 = .ok (.getfield 35, 3) := by decide +kernel
theorem dX2_neighbourSet_9 : decode cX2_neighbourSet 9 = .ok (.if_icmp .ge 30, 3) := by decide +kernel
theorem dX2_neighbourSet_12 : decode cX2_neighbourSet 12 = .ok (.iload_n 3, 1) := by decide +kernel
theorem dX2_neighbourSet_13 : decode cX2_neighbourSet 13 = .ok (.iload_n 1, 1) := by decide +kernel
theorem dX2_neighbourSet_14 : decode cX2_neighbourSet 14 = .ok (.if_icmp .eq 19, 3) := by decide +kernel
theorem dX2_neighbourSet_17 : decode cX2_neighbourSet 17 = .ok (.aload_n 0, 1) := by decide +kernel
theorem dX2_neighbourSet_18 : decode cX2_neighbourSet 18 = .ok (.iload_n 1, 1) := by decide +kernel
theorem dX2_neighbourSet_19 : decode cX2_neighbourSet 19 = .ok (.iload_n 3, 1) := by decide +kernel
theorem dX2_neighbourSet_20 : decode cX2_neighbourSet 20 = .ok (.invokevirtual 54, 3) := by decide +kernel
theorem dX2_neighbourSet_23 : decode cX2_neighbourSet 23 = .ok (.iconst 2, 1) := by decide +kernel
theorem dX2_neighbourSet_24 : decode cX2_neighbourSet 24 = .ok (.if_icmp .gt 9, 3) := by decide +kernel
theorem dX2_neighbourSet_27 : decode cX2_neighbourSet 27 = .ok (.iload_n 2, 1) := by decide +kernel
theorem dX2_neighbourSet_28 : decode cX2_neighbourSet 28 = .ok (.iconst 1, 1) := by decide +kernel
theorem dX2_neighbourSet_29 : decode cX2_neighbourSet 29 = .ok (.iload_n 3, 1) := by decide +kernel
theorem dX2_neighbourSet_30 : decode cX2_neighbourSet 30 = .ok (.ishl, 1) := by decide +kernel
theorem dX2_neighbourSet_31 : decode cX2_neighbourSet 31 = .ok (.ior, 1) := by decide +kernel
theorem dX2_neighbourSet_32 : decode cX2_neighbourSet 32 = .ok (.istore_n 2, 1) := by decide +kernel
theorem dX2_neighbourSet_33 : decode cX2_neighbourSet 33 = .ok (.iinc 3 1, 3) := by decide +kernel
theorem dX2_neighbourSet_36 : decode cX2_neighbourSet 36 = .ok (.goto (-32), 3) := by decide +kernel
theorem dX2_neighbourSet_39 : decode cX2_neighbourSet 39 = .ok (.iload_n 2, 1) := by decide +kernel
theorem dX2_neighbourSet_40 : decode cX2_neighbourSet 40 = .ok (.ireturn, 1) := by decide +kernel
set_option maxRecDepth 20000 in
theorem ggX2_wouldQuarrel_X2_distance : GoodIn wsX2_wouldQuarrel wsX2_distance := goodIn_r _ [6, 7, 8, 9, 10, 11, 12, 13, 14, 15, 16, 17, 18, 19, 20] (by decide +kernel) (by decide +kernel)
set_option maxRecDepth 20000 in
theorem gX2_wouldQuarrel_X2_distance : GoodIn wsX2_wouldQuarrel (wsV RX2 54 RX2 yX2_distance wsX2_distance) := goodIn_app (goodIn_of _ (by decide +kernel)) ggX2_wouldQuarrel_X2_distance
theorem dX2_wouldQuarrel_0 : decode cX2_wouldQuarrel 0 = .ok (.aload_n 0, 1) := by decide +kernel
theorem dX2_wouldQuarrel_1 : decode cX2_wouldQuarrel 1 = .ok (.iload_n 1, 1) := by decide +kernel
theorem dX2_wouldQuarrel_2 : decode cX2_wouldQuarrel 2 = .ok (.iload_n 2, 1) := by decide +kernel
theorem dX2_wouldQuarrel_3 : decode cX2_wouldQuarrel 3 = .ok (.invokevirtual 54, 3) := by decide +kernel
theorem dX2_wouldQuarrel_6 : decode cX2_wouldQuarrel 6 = .ok (.iconst 2, 1) := by decide +kernel
theorem dX2_wouldQuarrel_7 : decode cX2_wouldQuarrel 7 = .ok (.if_icmp .gt 25, 3) := by decide +kernel
theorem dX2_wouldQuarrel_10 : decode cX2_wouldQuarrel 10 = .ok (.aload_n 0, 1) := by decide +kernel
theorem dX2_wouldQuarrel_11 : decode cX2_wouldQuarrel 11 = .ok (.getfield 18, 3) := by decide +kernel
theorem dX2_wouldQuarrel_14 : decode cX2_wouldQuarrel 14 = .ok (.iload_n 1, 1) := by decide +kernel
theorem dX2_wouldQuarrel_15 : decode cX2_wouldQuarrel 15 = .ok (.iaload, 1) := by decide +kernel
theorem dX2_wouldQuarrel_16 : decode cX2_wouldQuarrel 16 = .ok (.aload_n 0, 1) := by decide +kernel
theorem dX2_wouldQuarrel_17 : decode cX2_wouldQuarrel 17 = .ok (.getfield 18, 3) := by decide +kernel
theorem dX2_wouldQuarrel_20 : decode cX2_wouldQuarrel 20 = .ok (.iload_n 2, 1) := by decide +kernel
theorem dX2_wouldQuarrel_21 : decode cX2_wouldQuarrel 21 = .ok (.iaload, 1) := by decide +kernel
theorem dX2_wouldQuarrel_22 : decode cX2_wouldQuarrel 22 = .ok (.iadd, 1) := by decide +kernel
theorem dX2_wouldQuarrel_23 : decode cX2_wouldQuarrel 23 = .ok (.bipush 10, 2) := by decide +kernel
theorem dX2_wouldQuarrel_25 : decode cX2_wouldQuarrel 25 = .ok (.if_icmp .lt 7, 3) := by decide +kernel
theorem dX2_wouldQuarrel_28 : decode cX2_wouldQuarrel 28 = .ok (.iconst 1, 1) := by decide +kernel
theorem dX2_wouldQuarrel_29 : decode cX2_wouldQuarrel 29 = .ok (.goto 4, 3) := by decide +kernel
theorem dX2_wouldQuarrel_32 : decode cX2_wouldQuarrel 32 = .ok (.iconst 0, 1) := by decide +kernel
theorem dX2_wouldQuarrel_33 : decode cX2_wouldQuarrel 33 = .ok (.ireturn, 1) := by decide +kernel
set_option maxRecDepth 20000 in
theorem ggX2_winnerOf_X2_distance : GoodIn wsX2_winnerOf wsX2_distance := goodIn_r _ [6, 7, 8, 9, 10, 11, 12, 13, 14, 15, 16, 17, 18, 19, 20] (by decide +kernel) (by decide +kernel)
set_option maxRecDepth 20000 in
theorem gX2_winnerOf_X2_distance : GoodIn wsX2_winnerOf (wsV RX2 54 RX2 yX2_distance wsX2_distance) := goodIn_app (goodIn_of _ (by decide +kernel)) ggX2_winnerOf_X2_distance
theorem dX2_winnerOf_0 : decode cX2_winnerOf 0 = .ok (.iconst 0, 1) := by decide +kernel
theorem dX2_winnerOf_1 : decode cX2_winnerOf 1 = .ok (.istore_n 3, 1) := by decide +kernel
theorem dX2_winnerOf_2 : decode cX2_winnerOf 2 = .ok (.iconst 0, 1) := by decide +kernel
theorem dX2_winnerOf_3 : decode cX2_winnerOf 3 = .ok (.istore 4, 2) := by decide +kernel
theorem dX2_winnerOf_5 : decode cX2_winnerOf 5 = .ok (.iload 4, 2) := by decide +kernel
theorem dX2_winnerOf_7 : decode cX2_winnerOf 7 = .ok (.aload_n 0, 1) := by decide +kernel
theorem dX2_winnerOf_8 : decode cX2_winnerOf 8 = .ok (.getfield 35, 3) := by decide +kernel
theorem dX2_winnerOf_11 : decode cX2_winnerOf 11 = .ok (.if_icmp .ge 46, 3) := by decide +kernel
theorem dX2_winnerOf_14 : decode cX2_winnerOf 14 = .ok (.iload 4, 2) := by decide +kernel
theorem dX2_winnerOf_16 : decode cX2_winnerOf 16 = .ok (.iload_n 1, 1) := by decide +kernel
theorem dX2_winnerOf_17 : decode cX2_winnerOf 17 = .ok (.if_icmp .eq 34, 3) := by decide +kernel
theorem dX2_winnerOf_20 : decode cX2_winnerOf 20 = .ok (.iload 4, 2) := by decide +kernel
theorem dX2_winnerOf_22 : decode cX2_winnerOf 22 = .ok (.iload_n 2, 1) := by decide +kernel
theorem dX2_winnerOf_23 : decode cX2_winnerOf 23 = .ok (.if_icmp .eq 28, 3) := by decide +kernel
theorem dX2_winnerOf_26 : decode cX2_winnerOf 26 = .ok (.iload_n 3, 1) := by decide +kernel
theorem dX2_winnerOf_27 : decode cX2_winnerOf 27 = .ok (.aload_n 0, 1) := by decide +kernel
theorem dX2_winnerOf_28 : decode cX2_winnerOf 28 = .ok (.iload 4, 2) := by decide +kernel
theorem dX2_winnerOf_30 : decode cX2_winnerOf 30 = .ok (.iload_n 1, 1) := by decide +kernel
theorem dX2_winnerOf_31 : decode cX2_winnerOf 31 = .ok (.invokevirtual 54, 3) := by decide +kernel
theorem dX2_winnerOf_34 : decode cX2_winnerOf 34 = .ok (.aload_n 0, 1) := by decide +kernel
theorem dX2_winnerOf_35 : decode cX2_winnerOf 35 = .ok (.iload 4, 2) := by decide +kernel
theorem dX2_winnerOf_37 : decode cX2_winnerOf 37 = .ok (.iload_n 2, 1) := by decide +kernel
theorem dX2_winnerOf_38 : decode cX2_winnerOf 38 = .ok (.invokevirtual 54, 3) := by decide +kernel
theorem dX2_winnerOf_41 : decode cX2_winnerOf 41 = .ok (.if_icmp .gt 7, 3) := by decide +kernel
theorem dX2_winnerOf_44 : decode cX2_winnerOf 44 = .ok (.iconst 1, 1) := by decide +kernel
theorem dX2_winnerOf_45 : decode cX2_winnerOf 45 = .ok (.goto 4, 3) := by decide +kernel
theorem dX2_winnerOf_48 : decode cX2_winnerOf 48 = .ok (.iconst (-1), 1) := by decide +kernel
theorem dX2_winnerOf_49 : decode cX2_winnerOf 49 = .ok (.iadd, 1) := by decide +kernel
theorem dX2_winnerOf_50 : decode cX2_winnerOf 50 = .ok (.istore_n 3, 1) := by decide +kernel
theorem dX2_winnerOf_51 : decode cX2_winnerOf 51 = .ok (.iinc 4 1, 3) := by decide +kernel
theorem dX2_winnerOf_54 : decode cX2_winnerOf 54 = .ok (.goto (-49), 3) := by decide +kernel
theorem dX2_winnerOf_57 : decode cX2_winnerOf 57 = .ok (.iload_n 3, 1) := by decide +kernel
theorem dX2_winnerOf_58 : decode cX2_winnerOf 58 = .ok (.ifCond .lt 7, 3) := by decide +kernel
theorem dX2_winnerOf_61 : decode cX2_winnerOf 61 = .ok (.iload_n 1, 1) := by decide +kernel
theorem dX2_winnerOf_62 : decode cX2_winnerOf 62 = .ok (.goto 4, 3) := by decide +kernel
theorem dX2_winnerOf_65 : decode cX2_winnerOf 65 = .ok (.iload_n 2, 1) := by decide +kernel
theorem dX2_winnerOf_66 : decode cX2_winnerOf 66 = .ok (.ireturn, 1) := by decide +kernel
theorem dX2_settleQuarrel_0 : decode cX2_settleQuarrel 0 = .ok (.aload_n 0, 1) := by decide +kernel
theorem dX2_settleQuarrel_1 : decode cX2_settleQuarrel 1 = .ok (.getfield 24, 3) := by decide +kernel
theorem dX2_settleQuarrel_4 : decode cX2_settleQuarrel 4 = .ok (.iload_n 2, 1) := by decide +kernel
theorem dX2_settleQuarrel_5 : decode cX2_settleQuarrel 5 = .ok (.dup2, 1) := by decide +kernel
theorem dX2_settleQuarrel_6 : decode cX2_settleQuarrel 6 = .ok (.iaload, 1) := by decide +kernel
theorem dX2_settleQuarrel_7 : decode cX2_settleQuarrel 7 = .ok (.iconst 1, 1) := by decide +kernel
theorem dX2_settleQuarrel_8 : decode cX2_settleQuarrel 8 = .ok (.iadd, 1) := by decide +kernel
theorem dX2_settleQuarrel_9 : decode cX2_settleQuarrel 9 = .ok (.iastore, 1) := by decide +kernel
theorem dX2_settleQuarrel_10 : decode cX2_settleQuarrel 10 = .ok (.aload_n 0, 1) := by decide +kernel
theorem dX2_settleQuarrel_11 : decode cX2_settleQuarrel 11 = .ok (.getfield 18, 3) := by decide +kernel
theorem dX2_settleQuarrel_14 : decode cX2_settleQuarrel 14 = .ok (.iload_n 2, 1) := by decide +kernel
theorem dX2_settleQuarrel_15 : decode cX2_settleQuarrel 15 = .ok (.bipush 9, 2) := by decide +kernel
theorem dX2_settleQuarrel_17 : decode cX2_settleQuarrel 17 = .ok (.aload_n 0, 1) := by decide +kernel
theorem dX2_settleQuarrel_18 : decode cX2_settleQuarrel 18 = .ok (.getfield 18, 3) := by decide +kernel
theorem dX2_settleQuarrel_21 : decode cX2_settleQuarrel 21 = .ok (.iload_n 2, 1) := by decide +kernel
theorem dX2_settleQuarrel_22 : decode cX2_settleQuarrel 22 = .ok (.iaload, 1) := by decide +kernel
theorem dX2_settleQuarrel_23 : decode cX2_settleQuarrel 23 = .ok (.iconst 1, 1) := by decide +kernel
theorem dX2_settleQuarrel_24 : decode cX2_settleQuarrel 24 = .ok (.iadd, 1) := by decide +kernel
theorem dX2_settleQuarrel_25 : decode cX2_settleQuarrel 25 = .ok (.invokestatic 58, 3) := by decide +kernel
theorem dX2_settleQuarrel_28 : decode cX2_settleQuarrel 28 = .ok (.iastore, 1) := by decide +kernel
theorem dX2_settleQuarrel_29 : decode cX2_settleQuarrel 29 = .ok (.aload_n 0, 1) := by decide +kernel
theorem dX2_settleQuarrel_30 : decode cX2_settleQuarrel 30 = .ok (.getfield 18, 3) := by decide +kernel
theorem dX2_settleQuarrel_33 : decode cX2_settleQuarrel 33 = .ok (.iload_n 1, 1) := by decide +kernel
theorem dX2_settleQuarrel_34 : decode cX2_settleQuarrel 34 = .ok (.iconst 0, 1) := by decide +kernel
theorem dX2_settleQuarrel_35 : decode cX2_settleQuarrel 35 = .ok (.aload_n 0, 1) := by decide +kernel
theorem dX2_settleQuarrel_36 : decode cX2_settleQuarrel 36 = .ok (.getfield 18, 3) := by decide +kernel
theorem dX2_settleQuarrel_39 : decode cX2_settleQuarrel 39 = .ok (.iload_n 1, 1) := by decide +kernel
theorem dX2_settleQuarrel_40 : decode cX2_settleQuarrel 40 = .ok (.iaload, 1) := by decide +kernel
theorem dX2_settleQuarrel_41 : decode cX2_settleQuarrel 41 = .ok (.iconst 1, 1) := by decide +kernel
theorem dX2_settleQuarrel_42 : decode cX2_settleQuarrel 42 = .ok (.isub, 1) := by decide +kernel
theorem dX2_settleQuarrel_43 : decode cX2_settleQuarrel 43 = .ok (.invokestatic 61, 3) := by decide +kernel
theorem dX2_settleQuarrel_46 : decode cX2_settleQuarrel 46 = .ok (.iastore, 1) := by decide +kernel
theorem dX2_settleQuarrel_47 : decode cX2_settleQuarrel 47 = .ok (.aload_n 0, 1) := by decide +kernel
theorem dX2_settleQuarrel_48 : decode cX2_settleQuarrel 48 = .ok (.getfield 32, 3) := by decide +kernel
theorem dX2_settleQuarrel_51 : decode cX2_settleQuarrel 51 = .ok (.iload_n 1, 1) := by decide +kernel
theorem dX2_settleQuarrel_52 : decode cX2_settleQuarrel 52 = .ok (.aaload, 1) := by decide +kernel
theorem dX2_settleQuarrel_53 : decode cX2_settleQuarrel 53 = .ok (.iload_n 2, 1) := by decide +kernel
theorem dX2_settleQuarrel_54 : decode cX2_settleQuarrel 54 = .ok (.dup2, 1) := by decide +kernel
theorem dX2_settleQuarrel_55 : decode cX2_settleQuarrel 55 = .ok (.iaload, 1) := by decide +kernel
theorem dX2_settleQuarrel_56 : decode cX2_settleQuarrel 56 = .ok (.iconst 1, 1) := by decide +kernel
theorem dX2_settleQuarrel_57 : decode cX2_settleQuarrel 57 = .ok (.iadd, 1) := by decide +kernel
theorem dX2_settleQuarrel_58 : decode cX2_settleQuarrel 58 = .ok (.iastore, 1) := by decide +kernel
theorem dX2_settleQuarrel_59 : decode cX2_settleQuarrel 59 = .ok (.aload_n 0, 1) := by decide +kernel
theorem dX2_settleQuarrel_60 : decode cX2_settleQuarrel 60 = .ok (.dup, 1) := by decide +kernel
theorem dX2_settleQuarrel_61 : decode cX2_settleQuarrel 61 = .ok (.getfield 39, 3) := by decide +kernel
theorem dX2_settleQuarrel_64 : decode cX2_settleQuarrel 64 = .ok (.iconst 1, 1) := by decide +kernel
theorem dX2_settleQuarrel_65 : decode cX2_settleQuarrel 65 = .ok (.iadd, 1) := by decide +kernel
theorem dX2_settleQuarrel_66 : decode cX2_settleQuarrel 66 = .ok (.putfield 39, 3) := by decide +kernel
theorem dX2_settleQuarrel_69 : decode cX2_settleQuarrel 69 = .ok (.return_, 1) := by decide +kernel
theorem dX2_lawfulTurns_0 : decode cX2_lawfulTurns 0 = .ok (.iload_n 2, 1) := by decide +kernel
theorem dX2_lawfulTurns_1 : decode cX2_lawfulTurns 1 = .ok (.tableswitch 51 0 2 #[27, 38, 40], 27) := by decide +kernel
theorem dX2_lawfulTurns_28 : decode cX2_lawfulTurns 28 = .ok (.aload_n 0, 1) := by decide +kernel
theorem dX2_lawfulTurns_29 : decode cX2_lawfulTurns 29 = .ok (.getfield 9, 3) := by decide +kernel
theorem dX2_lawfulTurns_32 : decode cX2_lawfulTurns 32 = .ok (.iload_n 1, 1) := by decide +kernel
theorem dX2_lawfulTurns_33 : decode cX2_lawfulTurns 33 = .ok (.iaload, 1) := by decide +kernel
theorem dX2_lawfulTurns_34 : decode cX2_lawfulTurns 34 = .ok (.iconst 1, 1) := by decide +kernel
theorem dX2_lawfulTurns_35 : decode cX2_lawfulTurns 35 = .ok (.iadd, 1) := by decide +kernel
theorem dX2_lawfulTurns_36 : decode cX2_lawfulTurns 36 = .ok (.iconst 2, 1) := by decide +kernel
theorem dX2_lawfulTurns_37 : decode cX2_lawfulTurns 37 = .ok (.idiv, 1) := by decide +kernel
theorem dX2_lawfulTurns_38 : decode cX2_lawfulTurns 38 = .ok (.ireturn, 1) := by decide +kernel
theorem dX2_lawfulTurns_39 : decode cX2_lawfulTurns 39 = .ok (.iconst 3, 1) := by decide +kernel
theorem dX2_lawfulTurns_40 : decode cX2_lawfulTurns 40 = .ok (.ireturn, 1) := by decide +kernel
theorem dX2_lawfulTurns_41 : decode cX2_lawfulTurns 41 = .ok (.iconst 4, 1) := by decide +kernel
theorem dX2_lawfulTurns_42 : decode cX2_lawfulTurns 42 = .ok (.aload_n 0, 1) := by decide +kernel
theorem dX2_lawfulTurns_43 : decode cX2_lawfulTurns 43 = .ok (.getfield 18, 3) := by decide +kernel
theorem dX2_lawfulTurns_46 : decode cX2_lawfulTurns 46 = .ok (.iload_n 1, 1) := by decide +kernel
theorem dX2_lawfulTurns_47 : decode cX2_lawfulTurns 47 = .ok (.iaload, 1) := by decide +kernel
theorem dX2_lawfulTurns_48 : decode cX2_lawfulTurns 48 = .ok (.iconst 3, 1) := by decide +kernel
theorem dX2_lawfulTurns_49 : decode cX2_lawfulTurns 49 = .ok (.idiv, 1) := by decide +kernel
theorem dX2_lawfulTurns_50 : decode cX2_lawfulTurns 50 = .ok (.isub, 1) := by decide +kernel
theorem dX2_lawfulTurns_51 : decode cX2_lawfulTurns 51 = .ok (.ireturn, 1) := by decide +kernel
theorem dX2_lawfulTurns_52 : decode cX2_lawfulTurns 52 = .ok (.iconst 1, 1) := by decide +kernel
theorem dX2_lawfulTurns_53 : decode cX2_lawfulTurns 53 = .ok (.ireturn, 1) := by decide +kernel
set_option maxRecDepth 20000 in
theorem ggX2_favouriteLaw_X2_lawfulTurns : GoodIn wsX2_favouriteLaw wsX2_lawfulTurns := goodIn_r _ [5, 6, 7, 8, 9, 10, 11, 12, 13, 14, 15, 16] (by decide +kernel) (by decide +kernel)
set_option maxRecDepth 20000 in
theorem gX2_favouriteLaw_X2_lawfulTurns : GoodIn wsX2_favouriteLaw (wsV RX2 64 RX2 yX2_lawfulTurns wsX2_lawfulTurns) := goodIn_app (goodIn_of _ (by decide +kernel)) ggX2_favouriteLaw_X2_lawfulTurns
theorem dX2_favouriteLaw_0 : decode cX2_favouriteLaw 0 = .ok (.iconst 0, 1) := by decide +kernel
theorem dX2_favouriteLaw_1 : decode cX2_favouriteLaw 1 = .ok (.istore_n 2, 1) := by decide +kernel
theorem dX2_favouriteLaw_2 : decode cX2_favouriteLaw 2 = .ok (.iconst 1, 1) := by decide +kernel
theorem dX2_favouriteLaw_3 : decode cX2_favouriteLaw 3 = .ok (.istore_n 3, 1) := by decide +kernel
theorem dX2_favouriteLaw_4 : decode cX2_favouriteLaw 4 = .ok (.iload_n 3, 1) := by decide +kernel
theorem dX2_favouriteLaw_5 : decode cX2_favouriteLaw 5 = .ok (.iconst 4, 1) := by decide +kernel
theorem dX2_favouriteLaw_6 : decode cX2_favouriteLaw 6 = .ok (.if_icmp .ge 26, 3) := by decide +kernel
theorem dX2_favouriteLaw_9 : decode cX2_favouriteLaw 9 = .ok (.aload_n 0, 1) := by decide +kernel
theorem dX2_favouriteLaw_10 : decode cX2_favouriteLaw 10 = .ok (.iload_n 1, 1) := by decide +kernel
theorem dX2_favouriteLaw_11 : decode cX2_favouriteLaw 11 = .ok (.iload_n 3, 1) := by decide +kernel
theorem dX2_favouriteLaw_12 : decode cX2_favouriteLaw 12 = .ok (.invokevirtual 64, 3) := by decide +kernel
theorem dX2_favouriteLaw_15 : decode cX2_favouriteLaw 15 = .ok (.aload_n 0, 1) := by decide +kernel
theorem dX2_favouriteLaw_16 : decode cX2_favouriteLaw 16 = .ok (.iload_n 1, 1) := by decide +kernel
theorem dX2_favouriteLaw_17 : decode cX2_favouriteLaw 17 = .ok (.iload_n 2, 1) := by decide +kernel
theorem dX2_favouriteLaw_18 : decode cX2_favouriteLaw 18 = .ok (.invokevirtual 64, 3) := by decide +kernel
theorem dX2_favouriteLaw_21 : decode cX2_favouriteLaw 21 = .ok (.if_icmp .le 5, 3) := by decide +kernel
theorem dX2_favouriteLaw_24 : decode cX2_favouriteLaw 24 = .ok (.iload_n 3, 1) := by decide +kernel
theorem dX2_favouriteLaw_25 : decode cX2_favouriteLaw 25 = .ok (.istore_n 2, 1) := by decide +kernel
theorem dX2_favouriteLaw_26 : decode cX2_favouriteLaw 26 = .ok (.iinc 3 1, 3) := by decide +kernel
theorem dX2_favouriteLaw_29 : decode cX2_favouriteLaw 29 = .ok (.goto (-25), 3) := by decide +kernel
theorem dX2_favouriteLaw_32 : decode cX2_favouriteLaw 32 = .ok (.iload_n 2, 1) := by decide +kernel
theorem dX2_favouriteLaw_33 : decode cX2_favouriteLaw 33 = .ok (.ireturn, 1) := by decide +kernel
set_option maxRecDepth 20000 in
theorem ggX2_membersBehind_X2_favouriteLaw : GoodIn wsX2_membersBehind wsX2_favouriteLaw := goodIn_r _ [7, 8, 9, 10, 6, 11, 2, 12, 13, 14, 15, 16, 17, 18, 19, 20, 21] (by decide +kernel) (by decide +kernel)
set_option maxRecDepth 20000 in
theorem gX2_membersBehind_X2_favouriteLaw : GoodIn wsX2_membersBehind (wsV RX2 67 RX2 yX2_favouriteLaw wsX2_favouriteLaw) := goodIn_app (goodIn_of _ (by decide +kernel)) ggX2_membersBehind_X2_favouriteLaw
theorem dX2_membersBehind_0 : decode cX2_membersBehind 0 = .ok (.iconst 0, 1) := by decide +kernel
theorem dX2_membersBehind_1 : decode cX2_membersBehind 1 = .ok (.istore_n 2, 1) := by decide +kernel
theorem dX2_membersBehind_2 : decode cX2_membersBehind 2 = .ok (.iconst 0, 1) := by decide +kernel
theorem dX2_membersBehind_3 : decode cX2_membersBehind 3 = .ok (.istore_n 3, 1) := by decide +kernel
theorem dX2_membersBehind_4 : decode cX2_membersBehind 4 = .ok (.iload_n 3, 1) := by decide +kernel
theorem dX2_membersBehind_5 : decode cX2_membersBehind 5 = .ok (.aload_n 0, 1) := by decide +kernel
theorem dX2_membersBehind_6 : decode cX2_membersBehind 6 = .ok (.getfield 35, 3) := by decide +kernel
theorem dX2_membersBehind_9 : decode cX2_membersBehind 9 = .ok (.if_icmp .ge 27, 3) := by decide +kernel
theorem dX2_membersBehind_12 : decode cX2_membersBehind 12 = .ok (.aload_n 0, 1) := by decide +kernel
theorem dX2_membersBehind_13 : decode cX2_membersBehind 13 = .ok (.iload_n 3, 1) := by decide +kernel
theorem dX2_membersBehind_14 : decode cX2_membersBehind 14 = .ok (.invokevirtual 67, 3) := by decide +kernel
theorem dX2_membersBehind_17 : decode cX2_membersBehind 17 = .ok (.iload_n 1, 1) := by decide +kernel
theorem dX2_membersBehind_18 : decode cX2_membersBehind 18 = .ok (.if_icmp .ne 12, 3) := by decide +kernel
theorem dX2_membersBehind_21 : decode cX2_membersBehind 21 = .ok (.iload_n 2, 1) := by decide +kernel
theorem dX2_membersBehind_22 : decode cX2_membersBehind 22 = .ok (.aload_n 0, 1) := by decide +kernel
theorem dX2_membersBehind_23 : decode cX2_membersBehind 23 = .ok (.getfield 9, 3) := by decide +kernel
theorem dX2_membersBehind_26 : decode cX2_membersBehind 26 = .ok (.iload_n 3, 1) := by decide +kernel
theorem dX2_membersBehind_27 : decode cX2_membersBehind 27 = .ok (.iaload, 1) := by decide +kernel
theorem dX2_membersBehind_28 : decode cX2_membersBehind 28 = .ok (.iadd, 1) := by decide +kernel
theorem dX2_membersBehind_29 : decode cX2_membersBehind 29 = .ok (.istore_n 2, 1) := by decide +kernel
theorem dX2_membersBehind_30 : decode cX2_membersBehind 30 = .ok (.iinc 3 1, 3) := by decide +kernel
theorem dX2_membersBehind_33 : decode cX2_membersBehind 33 = .ok (.goto (-29), 3) := by decide +kernel
theorem dX2_membersBehind_36 : decode cX2_membersBehind 36 = .ok (.iload_n 2, 1) := by decide +kernel
theorem dX2_membersBehind_37 : decode cX2_membersBehind 37 = .ok (.ireturn, 1) := by decide +kernel
set_option maxRecDepth 20000 in
theorem ggX2_lawOfMost_X2_membersBehind : GoodIn wsX2_lawOfMost wsX2_membersBehind := goodIn_r _ [5, 6, 7, 8, 9, 10, 4, 11, 12, 13, 14, 15, 16, 17, 18, 19, 20, 21, 22, 23, 24, 25] (by decide +kernel) (by decide +kernel)
set_option maxRecDepth 20000 in
theorem gX2_lawOfMost_X2_membersBehind : GoodIn wsX2_lawOfMost (wsV RX2 70 RX2 yX2_membersBehind wsX2_membersBehind) := goodIn_app (goodIn_of _ (by decide +kernel)) ggX2_lawOfMost_X2_membersBehind
theorem dX2_lawOfMost_0 : decode cX2_lawOfMost 0 = .ok (.iconst 0, 1) := by decide +kernel
theorem dX2_lawOfMost_1 : decode cX2_lawOfMost 1 = .ok (.istore_n 1, 1) := by decide +kernel
theorem dX2_lawOfMost_2 : decode cX2_lawOfMost 2 = .ok (.aload_n 0, 1) := by decide +kernel
theorem dX2_lawOfMost_3 : decode cX2_lawOfMost 3 = .ok (.iload_n 1, 1) := by decide +kernel
theorem dX2_lawOfMost_4 : decode cX2_lawOfMost 4 = .ok (.invokevirtual 70, 3) := by decide +kernel
theorem dX2_lawOfMost_7 : decode cX2_lawOfMost 7 = .ok (.istore_n 2, 1) := by decide +kernel
theorem dX2_lawOfMost_8 : decode cX2_lawOfMost 8 = .ok (.iconst 1, 1) := by decide +kernel
theorem dX2_lawOfMost_9 : decode cX2_lawOfMost 9 = .ok (.istore_n 3, 1) := by decide +kernel
theorem dX2_lawOfMost_10 : decode cX2_lawOfMost 10 = .ok (.iload_n 3, 1) := by decide +kernel
theorem dX2_lawOfMost_11 : decode cX2_lawOfMost 11 = .ok (.iconst 4, 1) := by decide +kernel
theorem dX2_lawOfMost_12 : decode cX2_lawOfMost 12 = .ok (.if_icmp .ge 27, 3) := by decide +kernel
theorem dX2_lawOfMost_15 : decode cX2_lawOfMost 15 = .ok (.aload_n 0, 1) := by decide +kernel
theorem dX2_lawOfMost_16 : decode cX2_lawOfMost 16 = .ok (.iload_n 3, 1) := by decide +kernel
theorem dX2_lawOfMost_17 : decode cX2_lawOfMost 17 = .ok (.invokevirtual 70, 3) := by decide +kernel
theorem dX2_lawOfMost_20 : decode cX2_lawOfMost 20 = .ok (.istore 4, 2) := by decide +kernel
theorem dX2_lawOfMost_22 : decode cX2_lawOfMost 22 = .ok (.iload 4, 2) := by decide +kernel
theorem dX2_lawOfMost_24 : decode cX2_lawOfMost 24 = .ok (.iload_n 2, 1) := by decide +kernel
theorem dX2_lawOfMost_25 : decode cX2_lawOfMost 25 = .ok (.if_icmp .le 8, 3) := by decide +kernel
theorem dX2_lawOfMost_28 : decode cX2_lawOfMost 28 = .ok (.iload_n 3, 1) := by decide +kernel
theorem dX2_lawOfMost_29 : decode cX2_lawOfMost 29 = .ok (.istore_n 1, 1) := by decide +kernel
theorem dX2_lawOfMost_30 : decode cX2_lawOfMost 30 = .ok (.iload 4, 2) := by decide +kernel
theorem dX2_lawOfMost_32 : decode cX2_lawOfMost 32 = .ok (.istore_n 2, 1) := by decide +kernel
theorem dX2_lawOfMost_33 : decode cX2_lawOfMost 33 = .ok (.iinc 3 1, 3) := by decide +kernel
theorem dX2_lawOfMost_36 : decode cX2_lawOfMost 36 = .ok (.goto (-26), 3) := by decide +kernel
theorem dX2_lawOfMost_39 : decode cX2_lawOfMost 39 = .ok (.iload_n 1, 1) := by decide +kernel
theorem dX2_lawOfMost_40 : decode cX2_lawOfMost 40 = .ok (.ireturn, 1) := by decide +kernel
theorem dX2_forgetDay_0 : decode cX2_forgetDay 0 = .ok (.iconst 0, 1) := by decide +kernel
theorem dX2_forgetDay_1 : decode cX2_forgetDay 1 = .ok (.istore_n 1, 1) := by decide +kernel
theorem dX2_forgetDay_2 : decode cX2_forgetDay 2 = .ok (.iload_n 1, 1) := by decide +kernel
theorem dX2_forgetDay_3 : decode cX2_forgetDay 3 = .ok (.aload_n 0, 1) := by decide +kernel
theorem dX2_forgetDay_4 : decode cX2_forgetDay 4 = .ok (.getfield 35, 3) := by decide +kernel
theorem dX2_forgetDay_7 : decode cX2_forgetDay 7 = .ok (.if_icmp .ge 23, 3) := by decide +kernel
theorem dX2_forgetDay_10 : decode cX2_forgetDay 10 = .ok (.aload_n 0, 1) := by decide +kernel
theorem dX2_forgetDay_11 : decode cX2_forgetDay 11 = .ok (.getfield 21, 3) := by decide +kernel
theorem dX2_forgetDay_14 : decode cX2_forgetDay 14 = .ok (.iload_n 1, 1) := by decide +kernel
theorem dX2_forgetDay_15 : decode cX2_forgetDay 15 = .ok (.iconst 0, 1) := by decide +kernel
theorem dX2_forgetDay_16 : decode cX2_forgetDay 16 = .ok (.iastore, 1) := by decide +kernel
theorem dX2_forgetDay_17 : decode cX2_forgetDay 17 = .ok (.aload_n 0, 1) := by decide +kernel
theorem dX2_forgetDay_18 : decode cX2_forgetDay 18 = .ok (.getfield 24, 3) := by decide +kernel
theorem dX2_forgetDay_21 : decode cX2_forgetDay 21 = .ok (.iload_n 1, 1) := by decide +kernel
theorem dX2_forgetDay_22 : decode cX2_forgetDay 22 = .ok (.iconst 0, 1) := by decide +kernel
theorem dX2_forgetDay_23 : decode cX2_forgetDay 23 = .ok (.iastore, 1) := by decide +kernel
theorem dX2_forgetDay_24 : decode cX2_forgetDay 24 = .ok (.iinc 1 1, 3) := by decide +kernel
theorem dX2_forgetDay_27 : decode cX2_forgetDay 27 = .ok (.goto (-25), 3) := by decide +kernel
theorem dX2_forgetDay_30 : decode cX2_forgetDay 30 = .ok (.return_, 1) := by decide +kernel
theorem dX3_init_0 : decode cX3_init 0 = .ok (.aload_n 0, 1) := by decide +kernel
theorem dX3_init_1 : decode cX3_init 1 = .ok (.invokespecial 3, 3) := by decide +kernel
theorem dX3_init_4 : decode cX3_init 4 = .ok (.aload_n 0, 1) := by decide +kernel
theorem dX3_init_5 : decode cX3_init 5 = .ok (.bipush 20, 2) := by decide +kernel
theorem dX3_init_7 : decode cX3_init 7 = .ok (.newarray .int, 2) := by decide +kernel
theorem dX3_init_9 : decode cX3_init 9 = .ok (.putfield 9, 3) := by decide +kernel
theorem dX3_init_12 : decode cX3_init 12 = .ok (.aload_n 0, 1) := by decide +kernel
theorem dX3_init_13 : decode cX3_init 13 = .ok (.bipush 20, 2) := by decide +kernel
theorem dX3_init_15 : decode cX3_init 15 = .ok (.newarray .int, 2) := by decide +kernel
theorem dX3_init_17 : decode cX3_init 17 = .ok (.putfield 15, 3) := by decide +kernel
theorem dX3_init_20 : decode cX3_init 20 = .ok (.aload_n 0, 1) := by decide +kernel
theorem dX3_init_21 : decode cX3_init 21 = .ok (.bipush 20, 2) := by decide +kernel
theorem dX3_init_23 : decode cX3_init 23 = .ok (.newarray .int, 2) := by decide +kernel
theorem dX3_init_25 : decode cX3_init 25 = .ok (.putfield 18, 3) := by decide +kernel
theorem dX3_init_28 : decode cX3_init 28 = .ok (.aload_n 0, 1) := by decide +kernel
theorem dX3_init_29 : decode cX3_init 29 = .ok (.bipush 20, 2) := by decide +kernel
theorem dX3_init_31 : decode cX3_init 31 = .ok (.newarray .int, 2) := by decide +kernel
theorem dX3_init_33 : decode cX3_init 33 = .ok (.putfield 21, 3) := by decide +kernel
theorem dX3_init_36 : decode cX3_init 36 = .ok (.return_, 1) := by decide +kernel
theorem dX3_copyFrom_0 : decode cX3_copyFrom 0 = .ok (.aload_n 0, 1) := by decide +kernel
theorem dX3_copyFrom_1 : decode cX3_copyFrom 1 = .ok (.aload_n 1, 1) := by decide +kernel
theorem dX3_copyFrom_2 : decode cX3_copyFrom 2 = .ok (.getfield 24, 3) := by decide +kernel
theorem dX3_copyFrom_5 : decode cX3_copyFrom 5 = .ok (.putfield 24, 3) := by decide +kernel
theorem dX3_copyFrom_8 : decode cX3_copyFrom 8 = .ok (.aload_n 0, 1) := by decide +kernel
theorem dX3_copyFrom_9 : decode cX3_copyFrom 9 = .ok (.aload_n 1, 1) := by decide +kernel
theorem dX3_copyFrom_10 : decode cX3_copyFrom 10 = .ok (.getfield 28, 3) := by decide +kernel
theorem dX3_copyFrom_13 : decode cX3_copyFrom 13 = .ok (.putfield 28, 3) := by decide +kernel
theorem dX3_copyFrom_16 : decode cX3_copyFrom 16 = .ok (.aload_n 1, 1) := by decide +kernel
theorem dX3_copyFrom_17 : decode cX3_copyFrom 17 = .ok (.getfield 9, 3) := by decide +kernel
theorem dX3_copyFrom_20 : decode cX3_copyFrom 20 = .ok (.iconst 0, 1) := by decide +kernel
theorem dX3_copyFrom_21 : decode cX3_copyFrom 21 = .ok (.aload_n 0, 1) := by decide +kernel
theorem dX3_copyFrom_22 : decode cX3_copyFrom 22 = .ok (.getfield 9, 3) := by decide +kernel
theorem dX3_copyFrom_25 : decode cX3_copyFrom 25 = .ok (.iconst 0, 1) := by decide +kernel
theorem dX3_copyFrom_26 : decode cX3_copyFrom 26 = .ok (.bipush 20, 2) := by decide +kernel
theorem dX3_copyFrom_28 : decode cX3_copyFrom 28 = .ok (.invokestatic 31, 3) := by decide +kernel
theorem dX3_copyFrom_31 : decode cX3_copyFrom 31 = .ok (.aload_n 1, 1) := by decide +kernel
theorem dX3_copyFrom_32 : decode cX3_copyFrom 32 = .ok (.getfield 15, 3) := by decide +kernel
theorem dX3_copyFrom_35 : decode cX3_copyFrom 35 = .ok (.iconst 0, 1) := by decide +kernel
theorem dX3_copyFrom_36 : decode cX3_copyFrom 36 = .ok (.aload_n 0, 1) := by decide +kernel
theorem dX3_copyFrom_37 : decode cX3_copyFrom 37 = .ok (.getfield 15, 3) := by decide +kernel
theorem dX3_copyFrom_40 : decode cX3_copyFrom 40 = .ok (.iconst 0, 1) := by decide +kernel
theorem dX3_copyFrom_41 : decode cX3_copyFrom 41 = .ok (.bipush 20, 2) := by decide +kernel
theorem dX3_copyFrom_43 : decode cX3_copyFrom 43 = .ok (.invokestatic 31, 3) := by decide +kernel
theorem dX3_copyFrom_46 : decode cX3_copyFrom 46 = .ok (.aload_n 1, 1) := by decide +kernel
theorem dX3_copyFrom_47 : decode cX3_copyFrom 47 = .ok (.getfield 18, 3) := by decide +kernel
theorem dX3_copyFrom_50 : decode cX3_copyFrom 50 = .ok (.iconst 0, 1) := by decide +kernel
theorem dX3_copyFrom_51 : decode cX3_copyFrom 51 = .ok (.aload_n 0, 1) := by decide +kernel
theorem dX3_copyFrom_52 : decode cX3_copyFrom 52 = .ok (.getfield 18, 3) := by decide +kernel
theorem dX3_copyFrom_55 : decode cX3_copyFrom 55 = .ok (.iconst 0, 1) := by decide +kernel
theorem dX3_copyFrom_56 : decode cX3_copyFrom 56 = .ok (.bipush 20, 2) := by decide +kernel
theorem dX3_copyFrom_58 : decode cX3_copyFrom 58 = .ok (.invokestatic 31, 3) := by decide +kernel
theorem dX3_copyFrom_61 : decode cX3_copyFrom 61 = .ok (.aload_n 1, 1) := by decide +kernel
theorem dX3_copyFrom_62 : decode cX3_copyFrom 62 = .ok (.getfield 21, 3) := by decide +kernel
theorem dX3_copyFrom_65 : decode cX3_copyFrom 65 = .ok (.iconst 0, 1) := by decide +kernel
theorem dX3_copyFrom_66 : decode cX3_copyFrom 66 = .ok (.aload_n 0, 1) := by decide +kernel
theorem dX3_copyFrom_67 : decode cX3_copyFrom 67 = .ok (.getfield 21, 3) := by decide +kernel
theorem dX3_copyFrom_70 : decode cX3_copyFrom 70 = .ok (.iconst 0, 1) := by decide +kernel
theorem dX3_copyFrom_71 : decode cX3_copyFrom 71 = .ok (.bipush 20, 2) := by decide +kernel
theorem dX3_copyFrom_73 : decode cX3_copyFrom 73 = .ok (.invokestatic 31, 3) := by decide +kernel
theorem dX3_copyFrom_76 : decode cX3_copyFrom 76 = .ok (.return_, 1) := by decide +kernel
theorem dX3_note_0 : decode cX3_note 0 = .ok (.aload_n 0, 1) := by decide +kernel
theorem dX3_note_1 : decode cX3_note 1 = .ok (.getfield 9, 3) := by decide +kernel
theorem dX3_note_4 : decode cX3_note 4 = .ok (.aload_n 0, 1) := by decide +kernel
theorem dX3_note_5 : decode cX3_note 5 = .ok (.getfield 28, 3) := by decide +kernel
theorem dX3_note_8 : decode cX3_note 8 = .ok (.iload_n 1, 1) := by decide +kernel
theorem dX3_note_9 : decode cX3_note 9 = .ok (.iastore, 1) := by decide +kernel
theorem dX3_note_10 : decode cX3_note 10 = .ok (.aload_n 0, 1) := by decide +kernel
theorem dX3_note_11 : decode cX3_note 11 = .ok (.getfield 15, 3) := by decide +kernel
theorem dX3_note_14 : decode cX3_note 14 = .ok (.aload_n 0, 1) := by decide +kernel
theorem dX3_note_15 : decode cX3_note 15 = .ok (.getfield 28, 3) := by decide +kernel
theorem dX3_note_18 : decode cX3_note 18 = .ok (.iload_n 2, 1) := by decide +kernel
theorem dX3_note_19 : decode cX3_note 19 = .ok (.iastore, 1) := by decide +kernel
theorem dX3_note_20 : decode cX3_note 20 = .ok (.aload_n 0, 1) := by decide +kernel
theorem dX3_note_21 : decode cX3_note 21 = .ok (.getfield 18, 3) := by decide +kernel
theorem dX3_note_24 : decode cX3_note 24 = .ok (.aload_n 0, 1) := by decide +kernel
theorem dX3_note_25 : decode cX3_note 25 = .ok (.getfield 28, 3) := by decide +kernel
theorem dX3_note_28 : decode cX3_note 28 = .ok (.iload_n 3, 1) := by decide +kernel
theorem dX3_note_29 : decode cX3_note 29 = .ok (.iastore, 1) := by decide +kernel
theorem dX3_note_30 : decode cX3_note 30 = .ok (.aload_n 0, 1) := by decide +kernel
theorem dX3_note_31 : decode cX3_note 31 = .ok (.getfield 21, 3) := by decide +kernel
theorem dX3_note_34 : decode cX3_note 34 = .ok (.aload_n 0, 1) := by decide +kernel
theorem dX3_note_35 : decode cX3_note 35 = .ok (.getfield 28, 3) := by decide +kernel
theorem dX3_note_38 : decode cX3_note 38 = .ok (.iload 4, 2) := by decide +kernel
theorem dX3_note_40 : decode cX3_note 40 = .ok (.iastore, 1) := by decide +kernel
theorem dX3_note_41 : decode cX3_note 41 = .ok (.aload_n 0, 1) := by decide +kernel
theorem dX3_note_42 : decode cX3_note 42 = .ok (.aload_n 0, 1) := by decide +kernel
theorem dX3_note_43 : decode cX3_note 43 = .ok (.getfield 28, 3) := by decide +kernel
theorem dX3_note_46 : decode cX3_note 46 = .ok (.iconst 1, 1) := by decide +kernel
theorem dX3_note_47 : decode cX3_note 47 = .ok (.iadd, 1) := by decide +kernel
theorem dX3_note_48 : decode cX3_note 48 = .ok (.bipush 20, 2) := by decide +kernel
theorem dX3_note_50 : decode cX3_note 50 = .ok (.irem, 1) := by decide +kernel
theorem dX3_note_51 : decode cX3_note 51 = .ok (.putfield 28, 3) := by decide +kernel
theorem dX3_note_54 : decode cX3_note 54 = .ok (.aload_n 0, 1) := by decide +kernel
theorem dX3_note_55 : decode cX3_note 55 = .ok (.bipush 20, 2) := by decide +kernel
theorem dX3_note_57 : decode cX3_note 57 = .ok (.aload_n 0, 1) := by decide +kernel
theorem dX3_note_58 : decode cX3_note 58 = .ok (.getfield 24, 3) := by decide +kernel
theorem dX3_note_61 : decode cX3_note 61 = .ok (.iconst 1, 1) := by decide +kernel
theorem dX3_note_62 : decode cX3_note 62 = .ok (.iadd, 1) := by decide +kernel
theorem dX3_note_63 : decode cX3_note 63 = .ok (.invokestatic 37, 3) := by decide +kernel
theorem dX3_note_66 : decode cX3_note 66 = .ok (.putfield 24, 3) := by decide +kernel
theorem dX3_note_69 : decode cX3_note 69 = .ok (.return_, 1) := by decide +kernel
theorem dX4_init_0 : decode cX4_init 0 = .ok (.aload_n 0, 1) := by decide +kernel
theorem dX4_init_1 : decode cX4_init 1 = .ok (.invokespecial 3, 3) := by decide +kernel
theorem dX4_init_4 : decode cX4_init 4 = .ok (.aload_n 0, 1) := by decide +kernel
theorem dX4_init_5 : decode cX4_init 5 = .ok (.bipush 8, 2) := by decide +kernel
theorem dX4_init_7 : decode cX4_init 7 = .ok (.newarray .int, 2) := by decide +kernel
theorem dX4_init_9 : decode cX4_init 9 = .ok (.putfield 9, 3) := by decide +kernel
theorem dX4_init_12 : decode cX4_init 12 = .ok (.return_, 1) := by decide +kernel
theorem dX4_copyFrom_0 : decode cX4_copyFrom 0 = .ok (.aload_n 0, 1) := by decide +kernel
theorem dX4_copyFrom_1 : decode cX4_copyFrom 1 = .ok (.aload_n 1, 1) := by decide +kernel
theorem dX4_copyFrom_2 : decode cX4_copyFrom 2 = .ok (.getfield 15, 3) := by decide +kernel
theorem dX4_copyFrom_5 : decode cX4_copyFrom 5 = .ok (.putfield 15, 3) := by decide +kernel
theorem dX4_copyFrom_8 : decode cX4_copyFrom 8 = .ok (.aload_n 1, 1) := by decide +kernel
theorem dX4_copyFrom_9 : decode cX4_copyFrom 9 = .ok (.getfield 9, 3) := by decide +kernel
theorem dX4_copyFrom_12 : decode cX4_copyFrom 12 = .ok (.iconst 0, 1) := by decide +kernel
theorem dX4_copyFrom_13 : decode cX4_copyFrom 13 = .ok (.aload_n 0, 1) := by decide +kernel
theorem dX4_copyFrom_14 : decode cX4_copyFrom 14 = .ok (.getfield 9, 3) := by decide +kernel
theorem dX4_copyFrom_17 : decode cX4_copyFrom 17 = .ok (.iconst 0, 1) := by decide +kernel
theorem dX4_copyFrom_18 : decode cX4_copyFrom 18 = .ok (.bipush 8, 2) := by decide +kernel
theorem dX4_copyFrom_20 : decode cX4_copyFrom 20 = .ok (.invokestatic 19, 3) := by decide +kernel
theorem dX4_copyFrom_23 : decode cX4_copyFrom 23 = .ok (.return_, 1) := by decide +kernel
theorem dX4_hasPlace_0 : decode cX4_hasPlace 0 = .ok (.iload_n 1, 1) := by decide +kernel
theorem dX4_hasPlace_1 : decode cX4_hasPlace 1 = .ok (.ifCond .lt 15, 3) := by decide +kernel
theorem dX4_hasPlace_4 : decode cX4_hasPlace 4 = .ok (.iload_n 1, 1) := by decide +kernel
theorem dX4_hasPlace_5 : decode cX4_hasPlace 5 = .ok (.aload_n 0, 1) := by decide +kernel
theorem dX4_hasPlace_6 : decode cX4_hasPlace 6 = .ok (.getfield 15, 3) := by decide +kernel
theorem dX4_hasPlace_9 : decode cX4_hasPlace 9 = .ok (.if_icmp .ge 7, 3) := by decide +kernel
theorem dX4_hasPlace_12 : decode cX4_hasPlace 12 = .ok (.iconst 1, 1) := by decide +kernel
theorem dX4_hasPlace_13 : decode cX4_hasPlace 13 = .ok (.goto 4, 3) := by decide +kernel
theorem dX4_hasPlace_16 : decode cX4_hasPlace 16 = .ok (.iconst 0, 1) := by decide +kernel
theorem dX4_hasPlace_17 : decode cX4_hasPlace 17 = .ok (.ireturn, 1) := by decide +kernel
theorem dX4_placeOf_0 : decode cX4_placeOf 0 = .ok (.iconst 0, 1) := by decide +kernel
theorem dX4_placeOf_1 : decode cX4_placeOf 1 = .ok (.istore_n 2, 1) := by decide +kernel
theorem dX4_placeOf_2 : decode cX4_placeOf 2 = .ok (.iload_n 2, 1) := by decide +kernel
theorem dX4_placeOf_3 : decode cX4_placeOf 3 = .ok (.aload_n 0, 1) := by decide +kernel
theorem dX4_placeOf_4 : decode cX4_placeOf 4 = .ok (.getfield 15, 3) := by decide +kernel
theorem dX4_placeOf_7 : decode cX4_placeOf 7 = .ok (.if_icmp .ge 21, 3) := by decide +kernel
theorem dX4_placeOf_10 : decode cX4_placeOf 10 = .ok (.aload_n 0, 1) := by decide +kernel
theorem dX4_placeOf_11 : decode cX4_placeOf 11 = .ok (.getfield 9, 3) := by decide +kernel
theorem dX4_placeOf_14 : decode cX4_placeOf 14 = .ok (.iload_n 2, 1) := by decide +kernel
theorem dX4_placeOf_15 : decode cX4_placeOf 15 = .ok (.iaload, 1) := by decide +kernel
theorem dX4_placeOf_16 : decode cX4_placeOf 16 = .ok (.iload_n 1, 1) := by decide +kernel
theorem dX4_placeOf_17 : decode cX4_placeOf 17 = .ok (.if_icmp .ne 5, 3) := by decide +kernel
theorem dX4_placeOf_20 : decode cX4_placeOf 20 = .ok (.iload_n 2, 1) := by decide +kernel
theorem dX4_placeOf_21 : decode cX4_placeOf 21 = .ok (.ireturn, 1) := by decide +kernel
theorem dX4_placeOf_22 : decode cX4_placeOf 22 = .ok (.iinc 2 1, 3) := by decide +kernel
theorem dX4_placeOf_25 : decode cX4_placeOf 25 = .ok (.goto (-23), 3) := by decide +kernel
theorem dX4_placeOf_28 : decode cX4_placeOf 28 = .ok (.iconst (-1), 1) := by decide +kernel
theorem dX4_placeOf_29 : decode cX4_placeOf 29 = .ok (.ireturn, 1) := by decide +kernel
theorem dX4_addLast_0 : decode cX4_addLast 0 = .ok (.aload_n 0, 1) := by decide +kernel
theorem dX4_addLast_1 : decode cX4_addLast 1 = .ok (.getfield 15, 3) := by decide +kernel
theorem dX4_addLast_4 : decode cX4_addLast 4 = .ok (.bipush 8, 2) := by decide +kernel
theorem dX4_addLast_6 : decode cX4_addLast 6 = .ok (.if_icmp .ge 23, 3) := by decide +kernel
theorem dX4_addLast_9 : decode cX4_addLast 9 = .ok (.aload_n 0, 1) := by decide +kernel
theorem dX4_addLast_10 : decode cX4_addLast 10 = .ok (.getfield 9, 3) := by decide +kernel
theorem dX4_addLast_13 : decode cX4_addLast 13 = .ok (.aload_n 0, 1) := by decide +kernel
theorem dX4_addLast_14 : decode cX4_addLast 14 = .ok (.getfield 15, 3) := by decide +kernel
theorem dX4_addLast_17 : decode cX4_addLast 17 = .ok (.iload_n 1, 1) := by decide +kernel
theorem dX4_addLast_18 : decode cX4_addLast 18 = .ok (.iastore, 1) := by decide +kernel
theorem dX4_addLast_19 : decode cX4_addLast 19 = .ok (.aload_n 0, 1) := by decide +kernel
theorem dX4_addLast_20 : decode cX4_addLast 20 = .ok (.dup, 1) := by decide +kernel
theorem dX4_addLast_21 : decode cX4_addLast 21 = .ok (.getfield 15, 3) := by decide +kernel
theorem dX4_addLast_24 : decode cX4_addLast 24 = .ok (.iconst 1, 1) := by decide +kernel
theorem dX4_addLast_25 : decode cX4_addLast 25 = .ok (.iadd, 1) := by decide +kernel
theorem dX4_addLast_26 : decode cX4_addLast 26 = .ok (.putfield 15, 3) := by decide +kernel
theorem dX4_addLast_29 : decode cX4_addLast 29 = .ok (.return_, 1) := by decide +kernel
set_option maxRecDepth 20000 in
theorem ggX4_removePlace_X4_hasPlace : GoodIn wsX4_removePlace wsX4_hasPlace := goodIn_r _ [7, 1, 8, 9] (by decide +kernel) (by decide +kernel)
set_option maxRecDepth 20000 in
theorem gX4_removePlace_X4_hasPlace : GoodIn wsX4_removePlace (wsV RX4 25 RX4 yX4_hasPlace wsX4_hasPlace) := goodIn_app (goodIn_of _ (by decide +kernel)) ggX4_removePlace_X4_hasPlace
theorem dX4_removePlace_0 : decode cX4_removePlace 0 = .ok (.aload_n 0, 1) := by decide +kernel
theorem dX4_removePlace_1 : decode cX4_removePlace 1 = .ok (.iload_n 1, 1) := by decide +kernel
theorem dX4_removePlace_2 : decode cX4_removePlace 2 = .ok (.invokevirtual 25, 3) := by decide +kernel
theorem dX4_removePlace_5 : decode cX4_removePlace 5 = .ok (.ifCond .eq 43, 3) := by decide +kernel
theorem dX4_removePlace_8 : decode cX4_removePlace 8 = .ok (.aload_n 0, 1) := by decide +kernel
theorem dX4_removePlace_9 : decode cX4_removePlace 9 = .ok (.dup, 1) := by decide +kernel
theorem dX4_removePlace_10 : decode cX4_removePlace 10 = .ok (.getfield 15, 3) := by decide +kernel
theorem dX4_removePlace_13 : decode cX4_removePlace 13 = .ok (.iconst 1, 1) := by decide +kernel
theorem dX4_removePlace_14 : decode cX4_removePlace 14 = .ok (.isub, 1) := by decide +kernel
theorem dX4_removePlace_15 : decode cX4_removePlace 15 = .ok (.putfield 15, 3) := by decide +kernel
theorem dX4_removePlace_18 : decode cX4_removePlace 18 = .ok (.iload_n 1, 1) := by decide +kernel
theorem dX4_removePlace_19 : decode cX4_removePlace 19 = .ok (.istore_n 2, 1) := by decide +kernel
theorem dX4_removePlace_20 : decode cX4_removePlace 20 = .ok (.iload_n 2, 1) := by decide +kernel
theorem dX4_removePlace_21 : decode cX4_removePlace 21 = .ok (.aload_n 0, 1) := by decide +kernel
theorem dX4_removePlace_22 : decode cX4_removePlace 22 = .ok (.getfield 15, 3) := by decide +kernel
theorem dX4_removePlace_25 : decode cX4_removePlace 25 = .ok (.if_icmp .ge 23, 3) := by decide +kernel
theorem dX4_removePlace_28 : decode cX4_removePlace 28 = .ok (.aload_n 0, 1) := by decide +kernel
theorem dX4_removePlace_29 : decode cX4_removePlace 29 = .ok (.getfield 9, 3) := by decide +kernel
theorem dX4_removePlace_32 : decode cX4_removePlace 32 = .ok (.iload_n 2, 1) := by decide +kernel
theorem dX4_removePlace_33 : decode cX4_removePlace 33 = .ok (.aload_n 0, 1) := by decide +kernel
theorem dX4_removePlace_34 : decode cX4_removePlace 34 = .ok (.getfield 9, 3) := by decide +kernel
theorem dX4_removePlace_37 : decode cX4_removePlace 37 = .ok (.iload_n 2, 1) := by decide +kernel
theorem dX4_removePlace_38 : decode cX4_removePlace 38 = .ok (.iconst 1, 1) := by decide +kernel
theorem dX4_removePlace_39 : decode cX4_removePlace 39 = .ok (.iadd, 1) := by decide +kernel
theorem dX4_removePlace_40 : decode cX4_removePlace 40 = .ok (.iaload, 1) := by decide +kernel
theorem dX4_removePlace_41 : decode cX4_removePlace 41 = .ok (.iastore, 1) := by decide +kernel
theorem dX4_removePlace_42 : decode cX4_removePlace 42 = .ok (.iinc 2 1, 3) := by decide +kernel
theorem dX4_removePlace_45 : decode cX4_removePlace 45 = .ok (.goto (-25), 3) := by decide +kernel
theorem dX4_removePlace_48 : decode cX4_removePlace 48 = .ok (.return_, 1) := by decide +kernel
theorem dX5_init_0 : decode cX5_init 0 = .ok (.aload_n 0, 1) := by decide +kernel
theorem dX5_init_1 : decode cX5_init 1 = .ok (.invokespecial 1, 3) := by decide +kernel
theorem dX5_init_4 : decode cX5_init 4 = .ok (.return_, 1) := by decide +kernel
theorem dX5_because_0 : decode cX5_because 0 = .ok (.aload_n 0, 1) := by decide +kernel
theorem dX5_because_1 : decode cX5_because 1 = .ok (.iload_n 1, 1) := by decide +kernel
theorem dX5_because_2 : decode cX5_because 2 = .ok (.putfield 7, 3) := by decide +kernel
theorem dX5_because_5 : decode cX5_because 5 = .ok (.aload_n 0, 1) := by decide +kernel
theorem dX5_because_6 : decode cX5_because 6 = .ok (.iload_n 2, 1) := by decide +kernel
theorem dX5_because_7 : decode cX5_because 7 = .ok (.putfield 13, 3) := by decide +kernel
theorem dX5_because_10 : decode cX5_because 10 = .ok (.aload_n 0, 1) := by decide +kernel
theorem dX5_because_11 : decode cX5_because 11 = .ok (.aload_n 0, 1) := by decide +kernel
theorem dX5_because_12 : decode cX5_because 12 = .ok (.getfield 16, 3) := by decide +kernel
theorem dX5_because_15 : decode cX5_because 15 = .ok (.putfield 19, 3) := by decide +kernel
theorem dX5_because_18 : decode cX5_because 18 = .ok (.iconst 1, 1) := by decide +kernel
theorem dX5_because_19 : decode cX5_because 19 = .ok (.ireturn, 1) := by decide +kernel
set_option maxRecDepth 20000 in
theorem ggX6_init_X2_init : GoodIn wsX6_init wsX2_init := goodIn_r _ [21, 22, 2, 3, 23, 24, 25, 26, 27, 28, 29, 30, 31, 48, 49, 50, 51, 52, 53, 54, 55, 56] (by decide +kernel) (by decide +kernel)
set_option maxRecDepth 20000 in
theorem gX6_init_X2_init_n11 : GoodIn wsX6_init (wsX2_init) := ggX6_init_X2_init
set_option maxRecDepth 20000 in
theorem ggX6_init_X4_init : GoodIn wsX6_init wsX4_init := goodIn_r _ [33, 34, 2, 3, 23, 35, 64, 65] (by decide +kernel) (by decide +kernel)
set_option maxRecDepth 20000 in
theorem gX6_init_X4_init_n20 : GoodIn wsX6_init (wsX4_init) := ggX6_init_X4_init
set_option maxRecDepth 20000 in
theorem ggX6_init_X7_init : GoodIn wsX6_init wsX7_init := goodIn_r _ [37, 38, 2, 3, 39, 40, 66, 67, 68, 69, 70, 71, 72, 73] (by decide +kernel) (by decide +kernel)
set_option maxRecDepth 20000 in
theorem gX6_init_X7_init_n27 : GoodIn wsX6_init (wsX7_init) := ggX6_init_X7_init
set_option maxRecDepth 20000 in
theorem ggX6_init_X3_init : GoodIn wsX6_init wsX3_init := goodIn_r _ [42, 43, 2, 3, 23, 44, 45, 46, 47, 74, 75, 76, 77, 78, 79] (by decide +kernel) (by decide +kernel)
set_option maxRecDepth 20000 in
theorem gX6_init_X3_init_n34 : GoodIn wsX6_init (wsX3_init) := ggX6_init_X3_init
theorem dX6_init_0 : decode cX6_init 0 = .ok (.aload_n 0, 1) := by decide +kernel
theorem dX6_init_1 : decode cX6_init 1 = .ok (.invokespecial 3, 3) := by decide +kernel
theorem dX6_init_4 : decode cX6_init 4 = .ok (.aload_n 0, 1) := by decide +kernel
theorem dX6_init_5 : decode cX6_init 5 = .ok (.new 9, 3) := by decide +kernel
theorem dX6_init_8 : decode cX6_init 8 = .ok (.dup, 1) := by decide +kernel
theorem dX6_init_9 : decode cX6_init 9 = .ok (.invokespecial 11, 3) := by decide +kernel
theorem dX6_init_12 : decode cX6_init 12 = .ok (.putfield 12, 3) := by decide +kernel
theorem dX6_init_15 : decode cX6_init 15 = .ok (.aload_n 0, 1) := by decide +kernel
theorem dX6_init_16 : decode cX6_init 16 = .ok (.new 18, 3) := by decide +kernel
theorem dX6_init_19 : decode cX6_init 19 = .ok (.dup, 1) := by decide +kernel
theorem dX6_init_20 : decode cX6_init 20 = .ok (.invokespecial 20, 3) := by decide +kernel
theorem dX6_init_23 : decode cX6_init 23 = .ok (.putfield 21, 3) := by decide +kernel
theorem dX6_init_26 : decode cX6_init 26 = .ok (.aload_n 0, 1) := by decide +kernel
theorem dX6_init_27 : decode cX6_init 27 = .ok (.new 25, 3) := by decide +kernel
theorem dX6_init_30 : decode cX6_init 30 = .ok (.dup, 1) := by decide +kernel
theorem dX6_init_31 : decode cX6_init 31 = .ok (.invokespecial 27, 3) := by decide +kernel
theorem dX6_init_34 : decode cX6_init 34 = .ok (.putfield 28, 3) := by decide +kernel
theorem dX6_init_37 : decode cX6_init 37 = .ok (.aload_n 0, 1) := by decide +kernel
theorem dX6_init_38 : decode cX6_init 38 = .ok (.new 32, 3) := by decide +kernel
theorem dX6_init_41 : decode cX6_init 41 = .ok (.dup, 1) := by decide +kernel
theorem dX6_init_42 : decode cX6_init 42 = .ok (.invokespecial 34, 3) := by decide +kernel
theorem dX6_init_45 : decode cX6_init 45 = .ok (.putfield 35, 3) := by decide +kernel
theorem dX6_init_48 : decode cX6_init 48 = .ok (.return_, 1) := by decide +kernel
set_option maxRecDepth 20000 in
theorem ggX6_copyFrom_X2_copyFrom : GoodIn wsX6_copyFrom wsX2_copyFrom := goodIn_r _ [11, 12, 13, 14, 15, 16, 17, 18, 19, 20, 21, 22, 23, 24, 62, 63, 64, 65, 66, 67, 68, 69, 70] (by decide +kernel) (by decide +kernel)
set_option maxRecDepth 20000 in
theorem gX6_copyFrom_X2_copyFrom_n39 : GoodIn wsX6_copyFrom (wsX2_copyFrom) := ggX6_copyFrom_X2_copyFrom
set_option maxRecDepth 20000 in
theorem ggX6_copyFrom_X4_copyFrom : GoodIn wsX6_copyFrom wsX4_copyFrom := goodIn_r _ [28, 29, 30, 31, 22, 23, 24, 71, 72] (by decide +kernel) (by decide +kernel)
set_option maxRecDepth 20000 in
theorem gX6_copyFrom_X4_copyFrom_n43 : GoodIn wsX6_copyFrom (wsX4_copyFrom) := ggX6_copyFrom_X4_copyFrom
set_option maxRecDepth 20000 in
theorem ggX6_copyFrom_X7_copyFrom : GoodIn wsX6_copyFrom wsX7_copyFrom := goodIn_r _ [35, 36, 37, 38, 39, 40, 41, 42, 43, 73, 74, 75, 76, 77, 78, 79, 80] (by decide +kernel) (by decide +kernel)
set_option maxRecDepth 20000 in
theorem gX6_copyFrom_X7_copyFrom_n46 : GoodIn wsX6_copyFrom (wsX7_copyFrom) := ggX6_copyFrom_X7_copyFrom
set_option maxRecDepth 20000 in
theorem ggX6_copyFrom_X3_copyFrom : GoodIn wsX6_copyFrom wsX3_copyFrom := goodIn_r _ [47, 48, 49, 50, 51, 22, 23, 24, 52, 53, 54, 81, 82, 83, 84, 85, 86] (by decide +kernel) (by decide +kernel)
set_option maxRecDepth 20000 in
theorem gX6_copyFrom_X3_copyFrom_n49 : GoodIn wsX6_copyFrom (wsX3_copyFrom) := ggX6_copyFrom_X3_copyFrom
theorem dX6_copyFrom_0 : decode cX6_copyFrom 0 = .ok (.aload_n 0, 1) := by decide +kernel
theorem dX6_copyFrom_1 : decode cX6_copyFrom 1 = .ok (.getfield 12, 3) := by decide +kernel
theorem dX6_copyFrom_4 : decode cX6_copyFrom 4 = .ok (.aload_n 1, 1) := by decide +kernel
theorem dX6_copyFrom_5 : decode cX6_copyFrom 5 = .ok (.getfield 12, 3) := by decide +kernel
theorem dX6_copyFrom_8 : decode cX6_copyFrom 8 = .ok (.invokevirtual 39, 3) := by decide +kernel
theorem dX6_copyFrom_11 : decode cX6_copyFrom 11 = .ok (.aload_n 0, 1) := by decide +kernel
theorem dX6_copyFrom_12 : decode cX6_copyFrom 12 = .ok (.getfield 21, 3) := by decide +kernel
theorem dX6_copyFrom_15 : decode cX6_copyFrom 15 = .ok (.aload_n 1, 1) := by decide +kernel
theorem dX6_copyFrom_16 : decode cX6_copyFrom 16 = .ok (.getfield 21, 3) := by decide +kernel
theorem dX6_copyFrom_19 : decode cX6_copyFrom 19 = .ok (.invokevirtual 43, 3) := by decide +kernel
theorem dX6_copyFrom_22 : decode cX6_copyFrom 22 = .ok (.aload_n 0, 1) := by decide +kernel
theorem dX6_copyFrom_23 : decode cX6_copyFrom 23 = .ok (.getfield 28, 3) := by decide +kernel
theorem dX6_copyFrom_26 : decode cX6_copyFrom 26 = .ok (.aload_n 1, 1) := by decide +kernel
theorem dX6_copyFrom_27 : decode cX6_copyFrom 27 = .ok (.getfield 28, 3) := by decide +kernel
theorem dX6_copyFrom_30 : decode cX6_copyFrom 30 = .ok (.invokevirtual 46, 3) := by decide +kernel
theorem dX6_copyFrom_33 : decode cX6_copyFrom 33 = .ok (.aload_n 0, 1) := by decide +kernel
theorem dX6_copyFrom_34 : decode cX6_copyFrom 34 = .ok (.getfield 35, 3) := by decide +kernel
theorem dX6_copyFrom_37 : decode cX6_copyFrom 37 = .ok (.aload_n 1, 1) := by decide +kernel
theorem dX6_copyFrom_38 : decode cX6_copyFrom 38 = .ok (.getfield 35, 3) := by decide +kernel
theorem dX6_copyFrom_41 : decode cX6_copyFrom 41 = .ok (.invokevirtual 49, 3) := by decide +kernel
theorem dX6_copyFrom_44 : decode cX6_copyFrom 44 = .ok (.aload_n 0, 1) := by decide +kernel
theorem dX6_copyFrom_45 : decode cX6_copyFrom 45 = .ok (.aload_n 1, 1) := by decide +kernel
theorem dX6_copyFrom_46 : decode cX6_copyFrom 46 = .ok (.getfield 52, 3) := by decide +kernel
theorem dX6_copyFrom_49 : decode cX6_copyFrom 49 = .ok (.putfield 52, 3) := by decide +kernel
theorem dX6_copyFrom_52 : decode cX6_copyFrom 52 = .ok (.aload_n 0, 1) := by decide +kernel
theorem dX6_copyFrom_53 : decode cX6_copyFrom 53 = .ok (.aload_n 1, 1) := by decide +kernel
theorem dX6_copyFrom_54 : decode cX6_copyFrom 54 = .ok (.getfield 56, 3) := by decide +kernel
theorem dX6_copyFrom_57 : decode cX6_copyFrom 57 = .ok (.putfield 56, 3) := by decide +kernel
theorem dX6_copyFrom_60 : decode cX6_copyFrom 60 = .ok (.aload_n 0, 1) := by decide +kernel
theorem dX6_copyFrom_61 : decode cX6_copyFrom 61 = .ok (.aload_n 1, 1) := by decide +kernel
theorem dX6_copyFrom_62 : decode cX6_copyFrom 62 = .ok (.getfield 59, 3) := by decide +kernel
theorem dX6_copyFrom_65 : decode cX6_copyFrom 65 = .ok (.putfield 59, 3) := by decide +kernel
theorem dX6_copyFrom_68 : decode cX6_copyFrom 68 = .ok (.return_, 1) := by decide +kernel
set_option maxRecDepth 20000 in
theorem ggX6_turnsOf_X2_lawfulTurns : GoodIn wsX6_turnsOf wsX2_lawfulTurns := goodIn_r _ [7, 8, 9, 25, 26, 27, 28, 29, 30, 31, 32, 33] (by decide +kernel) (by decide +kernel)
set_option maxRecDepth 20000 in
theorem gX6_turnsOf_X2_lawfulTurns_n62 : GoodIn wsX6_turnsOf (wsX2_lawfulTurns) := ggX6_turnsOf_X2_lawfulTurns
theorem dX6_turnsOf_0 : decode cX6_turnsOf 0 = .ok (.aload_n 0, 1) := by decide +kernel
theorem dX6_turnsOf_1 : decode cX6_turnsOf 1 = .ok (.getfield 12, 3) := by decide +kernel
theorem dX6_turnsOf_4 : decode cX6_turnsOf 4 = .ok (.iload_n 1, 1) := by decide +kernel
theorem dX6_turnsOf_5 : decode cX6_turnsOf 5 = .ok (.aload_n 0, 1) := by decide +kernel
theorem dX6_turnsOf_6 : decode cX6_turnsOf 6 = .ok (.getfield 56, 3) := by decide +kernel
theorem dX6_turnsOf_9 : decode cX6_turnsOf 9 = .ok (.invokevirtual 62, 3) := by decide +kernel
theorem dX6_turnsOf_12 : decode cX6_turnsOf 12 = .ok (.istore_n 2, 1) := by decide +kernel
theorem dX6_turnsOf_13 : decode cX6_turnsOf 13 = .ok (.aload_n 0, 1) := by decide +kernel
theorem dX6_turnsOf_14 : decode cX6_turnsOf 14 = .ok (.getfield 28, 3) := by decide +kernel
theorem dX6_turnsOf_17 : decode cX6_turnsOf 17 = .ok (.getfield 66, 3) := by decide +kernel
theorem dX6_turnsOf_20 : decode cX6_turnsOf 20 = .ok (.ifCond .eq 11, 3) := by decide +kernel
theorem dX6_turnsOf_23 : decode cX6_turnsOf 23 = .ok (.iload_n 2, 1) := by decide +kernel
theorem dX6_turnsOf_24 : decode cX6_turnsOf 24 = .ok (.iconst 1, 1) := by decide +kernel
theorem dX6_turnsOf_25 : decode cX6_turnsOf 25 = .ok (.iadd, 1) := by decide +kernel
theorem dX6_turnsOf_26 : decode cX6_turnsOf 26 = .ok (.iconst 2, 1) := by decide +kernel
theorem dX6_turnsOf_27 : decode cX6_turnsOf 27 = .ok (.idiv, 1) := by decide +kernel
theorem dX6_turnsOf_28 : decode cX6_turnsOf 28 = .ok (.goto 4, 3) := by decide +kernel
theorem dX6_turnsOf_31 : decode cX6_turnsOf 31 = .ok (.iload_n 2, 1) := by decide +kernel
theorem dX6_turnsOf_32 : decode cX6_turnsOf 32 = .ok (.ireturn, 1) := by decide +kernel
