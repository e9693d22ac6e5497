set_option maxRecDepth 20000 in
theorem ggX6_turnsLeft_X6_turnsOf : GoodIn wsX6_turnsLeft wsX6_turnsOf := goodIn_r _ [10, 1, 11, 12, 13, 14, 15, 16, 17, 18, 19, 20, 21, 22, 23, 24, 25, 35, 36, 37, 38, 39, 40, 41, 42, 26, 27, 28, 29, 30, 31, 32, 33, 34] (by decide +kernel) (by decide +kernel)
set_option maxRecDepth 20000 in
theorem gX6_turnsLeft_X6_turnsOf : GoodIn wsX6_turnsLeft (wsV RX6 70 RX6 yX6_turnsOf wsX6_turnsOf) := goodIn_app (goodIn_of _ (by decide +kernel)) ggX6_turnsLeft_X6_turnsOf
theorem dX6_turnsLeft_0 : decode cX6_turnsLeft 0 = .ok (.iconst 0, 1) := by decide +kernel
theorem dX6_turnsLeft_1 : decode cX6_turnsLeft 1 = .ok (.aload_n 0, 1) := by decide +kernel
theorem dX6_turnsLeft_2 : decode cX6_turnsLeft 2 = .ok (.iload_n 1, 1) := by decide +kernel
theorem dX6_turnsLeft_3 : decode cX6_turnsLeft 3 = .ok (.invokevirtual 70, 3) := by decide +kernel
theorem dX6_turnsLeft_6 : decode cX6_turnsLeft 6 = .ok (.aload_n 0, 1) := by decide +kernel
theorem dX6_turnsLeft_7 : decode cX6_turnsLeft 7 = .ok (.getfield 12, 3) := by decide +kernel
theorem dX6_turnsLeft_10 : decode cX6_turnsLeft 10 = .ok (.getfield 74, 3) := by decide +kernel
theorem dX6_turnsLeft_13 : decode cX6_turnsLeft 13 = .ok (.iload_n 1, 1) := by decide +kernel
theorem dX6_turnsLeft_14 : decode cX6_turnsLeft 14 = .ok (.iaload, 1) := by decide +kernel
theorem dX6_turnsLeft_15 : decode cX6_turnsLeft 15 = .ok (.isub, 1) := by decide +kernel
theorem dX6_turnsLeft_16 : decode cX6_turnsLeft 16 = .ok (.aload_n 0, 1) := by decide +kernel
theorem dX6_turnsLeft_17 : decode cX6_turnsLeft 17 = .ok (.getfield 12, 3) := by decide +kernel
theorem dX6_turnsLeft_20 : decode cX6_turnsLeft 20 = .ok (.getfield 78, 3) := by decide +kernel
theorem dX6_turnsLeft_23 : decode cX6_turnsLeft 23 = .ok (.iload_n 1, 1) := by decide +kernel
theorem dX6_turnsLeft_24 : decode cX6_turnsLeft 24 = .ok (.iaload, 1) := by decide +kernel
theorem dX6_turnsLeft_25 : decode cX6_turnsLeft 25 = .ok (.isub, 1) := by decide +kernel
theorem dX6_turnsLeft_26 : decode cX6_turnsLeft 26 = .ok (.invokestatic 81, 3) := by decide +kernel
theorem dX6_turnsLeft_29 : decode cX6_turnsLeft 29 = .ok (.ireturn, 1) := by decide +kernel
set_option maxRecDepth 20000 in
theorem ggX6_drawsInQueue_X6_turnsLeft : GoodIn wsX6_drawsInQueue wsX6_turnsLeft := goodIn_r _ [6, 7, 8, 9, 10, 11, 12, 13, 14, 5, 15, 16, 17, 18, 19, 20, 21, 22, 23, 24, 25, 26, 27, 28, 29, 30, 33, 34, 35, 36, 37, 38, 39, 40, 41, 42, 43, 44, 45, 46, 47, 48, 49] (by decide +kernel) (by decide +kernel)
set_option maxRecDepth 20000 in
theorem gX6_drawsInQueue_X6_turnsLeft : GoodIn wsX6_drawsInQueue (wsV RX6 92 RX6 yX6_turnsLeft wsX6_turnsLeft) := goodIn_app (goodIn_of _ (by decide +kernel)) ggX6_drawsInQueue_X6_turnsLeft
theorem dX6_drawsInQueue_0 : decode cX6_drawsInQueue 0 = .ok (.iconst 0, 1) := by decide +kernel
theorem dX6_drawsInQueue_1 : decode cX6_drawsInQueue 1 = .ok (.istore_n 1, 1) := by decide +kernel
theorem dX6_drawsInQueue_2 : decode cX6_drawsInQueue 2 = .ok (.iconst 0, 1) := by decide +kernel
theorem dX6_drawsInQueue_3 : decode cX6_drawsInQueue 3 = .ok (.istore_n 2, 1) := by decide +kernel
theorem dX6_drawsInQueue_4 : decode cX6_drawsInQueue 4 = .ok (.iload_n 2, 1) := by decide +kernel
theorem dX6_drawsInQueue_5 : decode cX6_drawsInQueue 5 = .ok (.aload_n 0, 1) := by decide +kernel
theorem dX6_drawsInQueue_6 : decode cX6_drawsInQueue 6 = .ok (.getfield 21, 3) := by decide +kernel
theorem dX6_drawsInQueue_9 : decode cX6_drawsInQueue 9 = .ok (.getfield 86, 3) := by decide +kernel
theorem dX6_drawsInQueue_12 : decode cX6_drawsInQueue 12 = .ok (.if_icmp .ge 25, 3) := by decide +kernel
theorem dX6_drawsInQueue_15 : decode cX6_drawsInQueue 15 = .ok (.iload_n 1, 1) := by decide +kernel
theorem dX6_drawsInQueue_16 : decode cX6_drawsInQueue 16 = .ok (.aload_n 0, 1) := by decide +kernel
theorem dX6_drawsInQueue_17 : decode cX6_drawsInQueue 17 = .ok (.aload_n 0, 1) := by decide +kernel
theorem dX6_drawsInQueue_18 : decode cX6_drawsInQueue 18 = .ok (.getfield 21, 3) := by decide +kernel
theorem dX6_drawsInQueue_21 : decode cX6_drawsInQueue 21 = .ok (.getfield 89, 3) := by decide +kernel
theorem dX6_drawsInQueue_24 : decode cX6_drawsInQueue 24 = .ok (.iload_n 2, 1) := by decide +kernel
theorem dX6_drawsInQueue_25 : decode cX6_drawsInQueue 25 = .ok (.iaload, 1) := by decide +kernel
theorem dX6_drawsInQueue_26 : decode cX6_drawsInQueue 26 = .ok (.invokevirtual 92, 3) := by decide +kernel
theorem dX6_drawsInQueue_29 : decode cX6_drawsInQueue 29 = .ok (.iadd, 1) := by decide +kernel
theorem dX6_drawsInQueue_30 : decode cX6_drawsInQueue 30 = .ok (.istore_n 1, 1) := by decide +kernel
theorem dX6_drawsInQueue_31 : decode cX6_drawsInQueue 31 = .ok (.iinc 2 1, 3) := by decide +kernel
theorem dX6_drawsInQueue_34 : decode cX6_drawsInQueue 34 = .ok (.goto (-30), 3) := by decide +kernel
theorem dX6_drawsInQueue_37 : decode cX6_drawsInQueue 37 = .ok (.iload_n 1, 1) := by decide +kernel
theorem dX6_drawsInQueue_38 : decode cX6_drawsInQueue 38 = .ok (.ireturn, 1) := by decide +kernel
set_option maxRecDepth 20000 in
theorem ggX6_refusesHousehold_X8_isWithin : GoodIn wsX6_refusesHousehold wsX8_isWithin := goodIn_r _ [4] (by decide +kernel) (by decide +kernel)
set_option maxRecDepth 20000 in
theorem gX6_refusesHousehold_X8_isWithin_n95 : GoodIn wsX6_refusesHousehold (wsX8_isWithin) := ggX6_refusesHousehold_X8_isWithin
set_option maxRecDepth 20000 in
theorem ggX6_refusesHousehold_X5_because : GoodIn wsX6_refusesHousehold wsX5_because := goodIn_r _ [8, 9, 10, 11, 12, 29, 30, 31, 32] (by decide +kernel) (by decide +kernel)
set_option maxRecDepth 20000 in
theorem gX6_refusesHousehold_X5_because_n99 : GoodIn wsX6_refusesHousehold (wsX5_because) := ggX6_refusesHousehold_X5_because
theorem dX6_refusesHousehold_0 : decode cX6_refusesHousehold 0 = .ok (.iload_n 1, 1) := by decide +kernel
theorem dX6_refusesHousehold_1 : decode cX6_refusesHousehold 1 = .ok (.iconst 1, 1) := by decide +kernel
theorem dX6_refusesHousehold_2 : decode cX6_refusesHousehold 2 = .ok (.bipush 9, 2) := by decide +kernel
theorem dX6_refusesHousehold_4 : decode cX6_refusesHousehold 4 = .ok (.invokestatic 95, 3) := by decide +kernel
theorem dX6_refusesHousehold_7 : decode cX6_refusesHousehold 7 = .ok (.ifCond .eq 23, 3) := by decide +kernel
theorem dX6_refusesHousehold_10 : decode cX6_refusesHousehold 10 = .ok (.iload_n 2, 1) := by decide +kernel
theorem dX6_refusesHousehold_11 : decode cX6_refusesHousehold 11 = .ok (.iconst 0, 1) := by decide +kernel
theorem dX6_refusesHousehold_12 : decode cX6_refusesHousehold 12 = .ok (.bipush 19, 2) := by decide +kernel
theorem dX6_refusesHousehold_14 : decode cX6_refusesHousehold 14 = .ok (.invokestatic 95, 3) := by decide +kernel
theorem dX6_refusesHousehold_17 : decode cX6_refusesHousehold 17 = .ok (.ifCond .eq 13, 3) := by decide +kernel
theorem dX6_refusesHousehold_20 : decode cX6_refusesHousehold 20 = .ok (.iload_n 3, 1) := by decide +kernel
theorem dX6_refusesHousehold_21 : decode cX6_refusesHousehold 21 = .ok (.iconst 0, 1) := by decide +kernel
theorem dX6_refusesHousehold_22 : decode cX6_refusesHousehold 22 = .ok (.bipush 9, 2) := by decide +kernel
theorem dX6_refusesHousehold_24 : decode cX6_refusesHousehold 24 = .ok (.invokestatic 95, 3) := by decide +kernel
theorem dX6_refusesHousehold_27 : decode cX6_refusesHousehold 27 = .ok (.ifCond .ne 11, 3) := by decide +kernel
theorem dX6_refusesHousehold_30 : decode cX6_refusesHousehold 30 = .ok (.aload 4, 2) := by decide +kernel
theorem dX6_refusesHousehold_32 : decode cX6_refusesHousehold 32 = .ok (.iconst 1, 1) := by decide +kernel
theorem dX6_refusesHousehold_33 : decode cX6_refusesHousehold 33 = .ok (.iconst 0, 1) := by decide +kernel
theorem dX6_refusesHousehold_34 : decode cX6_refusesHousehold 34 = .ok (.invokevirtual 99, 3) := by decide +kernel
theorem dX6_refusesHousehold_37 : decode cX6_refusesHousehold 37 = .ok (.ireturn, 1) := by decide +kernel
theorem dX6_refusesHousehold_38 : decode cX6_refusesHousehold 38 = .ok (.aload_n 0, 1) := by decide +kernel
theorem dX6_refusesHousehold_39 : decode cX6_refusesHousehold 39 = .ok (.getfield 12, 3) := by decide +kernel
theorem dX6_refusesHousehold_42 : decode cX6_refusesHousehold 42 = .ok (.getfield 105, 3) := by decide +kernel
theorem dX6_refusesHousehold_45 : decode cX6_refusesHousehold 45 = .ok (.bipush 8, 2) := by decide +kernel
theorem dX6_refusesHousehold_47 : decode cX6_refusesHousehold 47 = .ok (.if_icmp .lt 18, 3) := by decide +kernel
theorem dX6_refusesHousehold_50 : decode cX6_refusesHousehold 50 = .ok (.aload 4, 2) := by decide +kernel
theorem dX6_refusesHousehold_52 : decode cX6_refusesHousehold 52 = .ok (.iconst 2, 1) := by decide +kernel
theorem dX6_refusesHousehold_53 : decode cX6_refusesHousehold 53 = .ok (.bipush 8, 2) := by decide +kernel
theorem dX6_refusesHousehold_55 : decode cX6_refusesHousehold 55 = .ok (.invokevirtual 99, 3) := by decide +kernel
theorem dX6_refusesHousehold_58 : decode cX6_refusesHousehold 58 = .ok (.ifCond .eq 7, 3) := by decide +kernel
theorem dX6_refusesHousehold_61 : decode cX6_refusesHousehold 61 = .ok (.iconst 1, 1) := by decide +kernel
theorem dX6_refusesHousehold_62 : decode cX6_refusesHousehold 62 = .ok (.goto 4, 3) := by decide +kernel
theorem dX6_refusesHousehold_65 : decode cX6_refusesHousehold 65 = .ok (.iconst 0, 1) := by decide +kernel
theorem dX6_refusesHousehold_66 : decode cX6_refusesHousehold 66 = .ok (.ireturn, 1) := by decide +kernel
set_option maxRecDepth 20000 in
theorem ggX6_refusesJoin_X2_has : GoodIn wsX6_refusesJoin wsX2_has := goodIn_r _ [6, 7, 49, 50, 51, 52, 53, 54, 55, 56, 57] (by decide +kernel) (by decide +kernel)
set_option maxRecDepth 20000 in
theorem gX6_refusesJoin_X2_has_n108 : GoodIn wsX6_refusesJoin (wsX2_has) := ggX6_refusesJoin_X2_has
set_option maxRecDepth 20000 in
theorem ggX6_refusesJoin_X5_because : GoodIn wsX6_refusesJoin wsX5_because := goodIn_r _ [11, 12, 13, 14, 15, 58, 59, 60, 61] (by decide +kernel) (by decide +kernel)
set_option maxRecDepth 20000 in
theorem gX6_refusesJoin_X5_because_n99 : GoodIn wsX6_refusesJoin (wsX5_because) := ggX6_refusesJoin_X5_because
set_option maxRecDepth 20000 in
theorem ggX6_refusesJoin_X4_placeOf : GoodIn wsX6_refusesJoin wsX4_placeOf := goodIn_r _ [19, 20, 21, 62, 63] (by decide +kernel) (by decide +kernel)
set_option maxRecDepth 20000 in
theorem gX6_refusesJoin_X4_placeOf_n112 : GoodIn wsX6_refusesJoin (wsX4_placeOf) := ggX6_refusesJoin_X4_placeOf
set_option maxRecDepth 20000 in
theorem ggX6_refusesJoin_X6_turnsLeft : GoodIn wsX6_refusesJoin wsX6_turnsLeft := goodIn_r _ [26, 1, 27, 28, 29, 30, 31, 32, 33, 25, 34, 35, 36, 37, 4, 38, 39, 40, 41, 42, 43, 44, 45, 46, 47, 48, 49, 50, 51, 52, 53, 54, 55, 56, 57, 64, 65, 66, 67, 68, 69, 70, 71] (by decide +kernel) (by decide +kernel)
set_option maxRecDepth 20000 in
theorem gX6_refusesJoin_X6_turnsLeft : GoodIn wsX6_refusesJoin (wsV RX6 92 RX6 yX6_turnsLeft wsX6_turnsLeft) := goodIn_app (goodIn_of _ (by decide +kernel)) ggX6_refusesJoin_X6_turnsLeft
theorem dX6_refusesJoin_0 : decode cX6_refusesJoin 0 = .ok (.aload_n 0, 1) := by decide +kernel
theorem dX6_refusesJoin_1 : decode cX6_refusesJoin 1 = .ok (.getfield 12, 3) := by decide +kernel
theorem dX6_refusesJoin_4 : decode cX6_refusesJoin 4 = .ok (.iload_n 1, 1) := by decide +kernel
theorem dX6_refusesJoin_5 : decode cX6_refusesJoin 5 = .ok (.invokevirtual 108, 3) := by decide +kernel
theorem dX6_refusesJoin_8 : decode cX6_refusesJoin 8 = .ok (.ifCond .ne 10, 3) := by decide +kernel
theorem dX6_refusesJoin_11 : decode cX6_refusesJoin 11 = .ok (.aload_n 2, 1) := by decide +kernel
theorem dX6_refusesJoin_12 : decode cX6_refusesJoin 12 = .ok (.iconst 3, 1) := by decide +kernel
theorem dX6_refusesJoin_13 : decode cX6_refusesJoin 13 = .ok (.iload_n 1, 1) := by decide +kernel
theorem dX6_refusesJoin_14 : decode cX6_refusesJoin 14 = .ok (.invokevirtual 99, 3) := by decide +kernel
theorem dX6_refusesJoin_17 : decode cX6_refusesJoin 17 = .ok (.ireturn, 1) := by decide +kernel
theorem dX6_refusesJoin_18 : decode cX6_refusesJoin 18 = .ok (.aload_n 0, 1) := by decide +kernel
theorem dX6_refusesJoin_19 : decode cX6_refusesJoin 19 = .ok (.getfield 21, 3) := by decide +kernel
theorem dX6_refusesJoin_22 : decode cX6_refusesJoin 22 = .ok (.iload_n 1, 1) := by decide +kernel
theorem dX6_refusesJoin_23 : decode cX6_refusesJoin 23 = .ok (.invokevirtual 112, 3) := by decide +kernel
theorem dX6_refusesJoin_26 : decode cX6_refusesJoin 26 = .ok (.istore_n 3, 1) := by decide +kernel
theorem dX6_refusesJoin_27 : decode cX6_refusesJoin 27 = .ok (.iload_n 3, 1) := by decide +kernel
theorem dX6_refusesJoin_28 : decode cX6_refusesJoin 28 = .ok (.iconst (-1), 1) := by decide +kernel
theorem dX6_refusesJoin_29 : decode cX6_refusesJoin 29 = .ok (.if_icmp .eq 10, 3) := by decide +kernel
theorem dX6_refusesJoin_32 : decode cX6_refusesJoin 32 = .ok (.aload_n 2, 1) := by decide +kernel
theorem dX6_refusesJoin_33 : decode cX6_refusesJoin 33 = .ok (.iconst 4, 1) := by decide +kernel
theorem dX6_refusesJoin_34 : decode cX6_refusesJoin 34 = .ok (.iload_n 3, 1) := by decide +kernel
theorem dX6_refusesJoin_35 : decode cX6_refusesJoin 35 = .ok (.invokevirtual 99, 3) := by decide +kernel
theorem dX6_refusesJoin_38 : decode cX6_refusesJoin 38 = .ok (.ireturn, 1) := by decide +kernel
theorem dX6_refusesJoin_39 : decode cX6_refusesJoin 39 = .ok (.aload_n 0, 1) := by decide +kernel
theorem dX6_refusesJoin_40 : decode cX6_refusesJoin 40 = .ok (.iload_n 1, 1) := by decide +kernel
theorem dX6_refusesJoin_41 : decode cX6_refusesJoin 41 = .ok (.invokevirtual 92, 3) := by decide +kernel
theorem dX6_refusesJoin_44 : decode cX6_refusesJoin 44 = .ok (.ifCond .ne 25, 3) := by decide +kernel
theorem dX6_refusesJoin_47 : decode cX6_refusesJoin 47 = .ok (.aload_n 2, 1) := by decide +kernel
theorem dX6_refusesJoin_48 : decode cX6_refusesJoin 48 = .ok (.bipush 6, 2) := by decide +kernel
theorem dX6_refusesJoin_50 : decode cX6_refusesJoin 50 = .ok (.aload_n 0, 1) := by decide +kernel
theorem dX6_refusesJoin_51 : decode cX6_refusesJoin 51 = .ok (.getfield 12, 3) := by decide +kernel
theorem dX6_refusesJoin_54 : decode cX6_refusesJoin 54 = .ok (.getfield 74, 3) := by decide +kernel
theorem dX6_refusesJoin_57 : decode cX6_refusesJoin 57 = .ok (.iload_n 1, 1) := by decide +kernel
theorem dX6_refusesJoin_58 : decode cX6_refusesJoin 58 = .ok (.iaload, 1) := by decide +kernel
theorem dX6_refusesJoin_59 : decode cX6_refusesJoin 59 = .ok (.invokevirtual 99, 3) := by decide +kernel
theorem dX6_refusesJoin_62 : decode cX6_refusesJoin 62 = .ok (.ifCond .eq 7, 3) := by decide +kernel
theorem dX6_refusesJoin_65 : decode cX6_refusesJoin 65 = .ok (.iconst 1, 1) := by decide +kernel
theorem dX6_refusesJoin_66 : decode cX6_refusesJoin 66 = .ok (.goto 4, 3) := by decide +kernel
theorem dX6_refusesJoin_69 : decode cX6_refusesJoin 69 = .ok (.iconst 0, 1) := by decide +kernel
theorem dX6_refusesJoin_70 : decode cX6_refusesJoin 70 = .ok (.ireturn, 1) := by decide +kernel
set_option maxRecDepth 20000 in
theorem ggX6_letJoin_X2_wouldQuarrel : GoodIn wsX6_letJoin wsX2_wouldQuarrel := goodIn_r _ [6, 7, 8, 9, 10, 4, 11, 12, 13, 14, 15, 16, 73, 74, 75, 76, 77, 78, 79, 80, 81] (by decide +kernel) (by decide +kernel)
set_option maxRecDepth 20000 in
theorem gX6_letJoin_X2_wouldQuarrel_n115 : GoodIn wsX6_letJoin (wsX2_wouldQuarrel) := ggX6_letJoin_X2_wouldQuarrel
set_option maxRecDepth 20000 in
theorem ggX6_letJoin_X2_winnerOf : GoodIn wsX6_letJoin wsX2_winnerOf := goodIn_r _ [19, 20, 8, 9, 10, 4, 11, 12, 13, 14, 15, 16, 73, 74, 75, 76, 77, 78, 79, 80, 81] (by decide +kernel) (by decide +kernel)
set_option maxRecDepth 20000 in
theorem gX6_letJoin_X2_winnerOf_n118 : GoodIn wsX6_letJoin (wsX2_winnerOf) := ggX6_letJoin_X2_winnerOf
set_option maxRecDepth 20000 in
theorem ggX6_letJoin_X6_quarrel : GoodIn wsX6_letJoin wsX6_quarrel := goodIn_r _ [25, 2, 26, 27, 28, 4, 29, 30, 31, 7, 32, 33, 15, 34, 35, 36, 37, 38, 39, 40, 41, 42, 43, 44, 45, 46, 47, 48, 49, 50, 64, 65, 66, 67, 68, 69, 70, 73, 74, 75, 76, 77, 78, 79, 80, 81, 82, 83, 84, 85, 86, 87] (by decide +kernel) (by decide +kernel)
set_option maxRecDepth 20000 in
theorem gX6_letJoin_X6_quarrel : GoodIn wsX6_letJoin (wsV RX6 121 RX6 yX6_quarrel wsX6_quarrel) := goodIn_app (goodIn_of _ (by decide +kernel)) ggX6_letJoin_X6_quarrel
set_option maxRecDepth 20000 in
theorem ggX6_letJoin_X4_removePlace : GoodIn wsX6_letJoin wsX4_removePlace := goodIn_r _ [54, 55, 56, 57, 58, 59, 52, 60, 71, 72] (by decide +kernel) (by decide +kernel)
set_option maxRecDepth 20000 in
theorem gX6_letJoin_X4_removePlace_n125 : GoodIn wsX6_letJoin (wsX4_removePlace) := ggX6_letJoin_X4_removePlace
set_option maxRecDepth 20000 in
theorem ggX6_letJoin_X4_addLast : GoodIn wsX6_letJoin wsX4_addLast := goodIn_r _ [63, 55, 56, 71, 72] (by decide +kernel) (by decide +kernel)
set_option maxRecDepth 20000 in
theorem gX6_letJoin_X4_addLast_n129 : GoodIn wsX6_letJoin (wsX4_addLast) := ggX6_letJoin_X4_addLast
theorem dX6_letJoin_0 : decode cX6_letJoin 0 = .ok (.aload_n 0, 1) := by decide +kernel
theorem dX6_letJoin_1 : decode cX6_letJoin 1 = .ok (.getfield 21, 3) := by decide +kernel
theorem dX6_letJoin_4 : decode cX6_letJoin 4 = .ok (.getfield 86, 3) := by decide +kernel
theorem dX6_letJoin_7 : decode cX6_letJoin 7 = .ok (.iconst 1, 1) := by decide +kernel
theorem dX6_letJoin_8 : decode cX6_letJoin 8 = .ok (.isub, 1) := by decide +kernel
theorem dX6_letJoin_9 : decode cX6_letJoin 9 = .ok (.istore_n 2, 1) := by decide +kernel
theorem dX6_letJoin_10 : decode cX6_letJoin 10 = .ok (.iload_n 2, 1) := by decide +kernel
theorem dX6_letJoin_11 : decode cX6_letJoin 11 = .ok (.ifCond .lt 69, 3) := by decide +kernel
theorem dX6_letJoin_14 : decode cX6_letJoin 14 = .ok (.aload_n 0, 1) := by decide +kernel
theorem dX6_letJoin_15 : decode cX6_letJoin 15 = .ok (.getfield 21, 3) := by decide +kernel
theorem dX6_letJoin_18 : decode cX6_letJoin 18 = .ok (.getfield 89, 3) := by decide +kernel
theorem dX6_letJoin_21 : decode cX6_letJoin 21 = .ok (.iload_n 2, 1) := by decide +kernel
theorem dX6_letJoin_22 : decode cX6_letJoin 22 = .ok (.iaload, 1) := by decide +kernel
theorem dX6_letJoin_23 : decode cX6_letJoin 23 = .ok (.istore_n 3, 1) := by decide +kernel
theorem dX6_letJoin_24 : decode cX6_letJoin 24 = .ok (.aload_n 0, 1) := by decide +kernel
theorem dX6_letJoin_25 : decode cX6_letJoin 25 = .ok (.getfield 12, 3) := by decide +kernel
theorem dX6_letJoin_28 : decode cX6_letJoin 28 = .ok (.iload_n 3, 1) := by decide +kernel
theorem dX6_letJoin_29 : decode cX6_letJoin 29 = .ok (.iload_n 1, 1) := by decide +kernel
theorem dX6_letJoin_30 : decode cX6_letJoin 30 = .ok (.invokevirtual 115, 3) := by decide +kernel
theorem dX6_letJoin_33 : decode cX6_letJoin 33 = .ok (.ifCond .ne 6, 3) := by decide +kernel
theorem dX6_letJoin_36 : decode cX6_letJoin 36 = .ok (.goto 44, 3) := by decide +kernel
theorem dX6_letJoin_39 : decode cX6_letJoin 39 = .ok (.aload_n 0, 1) := by decide +kernel
theorem dX6_letJoin_40 : decode cX6_letJoin 40 = .ok (.getfield 12, 3) := by decide +kernel
theorem dX6_letJoin_43 : decode cX6_letJoin 43 = .ok (.iload_n 3, 1) := by decide +kernel
theorem dX6_letJoin_44 : decode cX6_letJoin 44 = .ok (.iload_n 1, 1) := by decide +kernel
theorem dX6_letJoin_45 : decode cX6_letJoin 45 = .ok (.invokevirtual 118, 3) := by decide +kernel
theorem dX6_letJoin_48 : decode cX6_letJoin 48 = .ok (.iload_n 3, 1) := by decide +kernel
theorem dX6_letJoin_49 : decode cX6_letJoin 49 = .ok (.if_icmp .ne 11, 3) := by decide +kernel
theorem dX6_letJoin_52 : decode cX6_letJoin 52 = .ok (.aload_n 0, 1) := by decide +kernel
theorem dX6_letJoin_53 : decode cX6_letJoin 53 = .ok (.iload_n 3, 1) := by decide +kernel
theorem dX6_letJoin_54 : decode cX6_letJoin 54 = .ok (.iload_n 1, 1) := by decide +kernel
theorem dX6_letJoin_55 : decode cX6_letJoin 55 = .ok (.invokevirtual 121, 3) := by decide +kernel
theorem dX6_letJoin_58 : decode cX6_letJoin 58 = .ok (.iconst (-1), 1) := by decide +kernel
theorem dX6_letJoin_59 : decode cX6_letJoin 59 = .ok (.ireturn, 1) := by decide +kernel
theorem dX6_letJoin_60 : decode cX6_letJoin 60 = .ok (.aload_n 0, 1) := by decide +kernel
theorem dX6_letJoin_61 : decode cX6_letJoin 61 = .ok (.iload_n 1, 1) := by decide +kernel
theorem dX6_letJoin_62 : decode cX6_letJoin 62 = .ok (.iload_n 3, 1) := by decide +kernel
theorem dX6_letJoin_63 : decode cX6_letJoin 63 = .ok (.invokevirtual 121, 3) := by decide +kernel
theorem dX6_letJoin_66 : decode cX6_letJoin 66 = .ok (.aload_n 0, 1) := by decide +kernel
theorem dX6_letJoin_67 : decode cX6_letJoin 67 = .ok (.getfield 21, 3) := by decide +kernel
theorem dX6_letJoin_70 : decode cX6_letJoin 70 = .ok (.iload_n 2, 1) := by decide +kernel
theorem dX6_letJoin_71 : decode cX6_letJoin 71 = .ok (.invokevirtual 125, 3) := by decide +kernel
theorem dX6_letJoin_74 : decode cX6_letJoin 74 = .ok (.iinc 2 (-1), 3) := by decide +kernel
theorem dX6_letJoin_77 : decode cX6_letJoin 77 = .ok (.goto (-67), 3) := by decide +kernel
theorem dX6_letJoin_80 : decode cX6_letJoin 80 = .ok (.aload_n 0, 1) := by decide +kernel
theorem dX6_letJoin_81 : decode cX6_letJoin 81 = .ok (.getfield 21, 3) := by decide +kernel
theorem dX6_letJoin_84 : decode cX6_letJoin 84 = .ok (.iload_n 1, 1) := by decide +kernel
theorem dX6_letJoin_85 : decode cX6_letJoin 85 = .ok (.invokevirtual 129, 3) := by decide +kernel
theorem dX6_letJoin_88 : decode cX6_letJoin 88 = .ok (.aload_n 0, 1) := by decide +kernel
theorem dX6_letJoin_89 : decode cX6_letJoin 89 = .ok (.getfield 21, 3) := by decide +kernel
theorem dX6_letJoin_92 : decode cX6_letJoin 92 = .ok (.getfield 86, 3) := by decide +kernel
theorem dX6_letJoin_95 : decode cX6_letJoin 95 = .ok (.iconst 1, 1) := by decide +kernel
theorem dX6_letJoin_96 : decode cX6_letJoin 96 = .ok (.isub, 1) := by decide +kernel
theorem dX6_letJoin_97 : decode cX6_letJoin 97 = .ok (.ireturn, 1) := by decide +kernel
set_option maxRecDepth 20000 in
theorem ggX6_quarrel_X2_settleQuarrel : GoodIn wsX6_quarrel wsX2_settleQuarrel := goodIn_r _ [7, 8, 9, 10, 11, 12, 13, 14, 15, 16, 17, 18, 37, 38, 39, 40, 41, 42, 43, 44, 45] (by decide +kernel) (by decide +kernel)
set_option maxRecDepth 20000 in
theorem gX6_quarrel_X2_settleQuarrel_n132 : GoodIn wsX6_quarrel (wsX2_settleQuarrel) := ggX6_quarrel_X2_settleQuarrel
set_option maxRecDepth 20000 in
theorem ggX6_quarrel_X3_note : GoodIn wsX6_quarrel wsX3_note := goodIn_r _ [22, 23, 24, 25, 26, 27, 28, 29, 11, 12, 13, 46, 47, 48, 49, 50, 51] (by decide +kernel) (by decide +kernel)
set_option maxRecDepth 20000 in
theorem gX6_quarrel_X3_note_n135 : GoodIn wsX6_quarrel (wsX3_note) := ggX6_quarrel_X3_note
theorem dX6_quarrel_0 : decode cX6_quarrel 0 = .ok (.aload_n 0, 1) := by decide +kernel
theorem dX6_quarrel_1 : decode cX6_quarrel 1 = .ok (.getfield 12, 3) := by decide +kernel
theorem dX6_quarrel_4 : decode cX6_quarrel 4 = .ok (.iload_n 1, 1) := by decide +kernel
theorem dX6_quarrel_5 : decode cX6_quarrel 5 = .ok (.iload_n 2, 1) := by decide +kernel
theorem dX6_quarrel_6 : decode cX6_quarrel 6 = .ok (.invokevirtual 132, 3) := by decide +kernel
theorem dX6_quarrel_9 : decode cX6_quarrel 9 = .ok (.aload_n 0, 1) := by decide +kernel
theorem dX6_quarrel_10 : decode cX6_quarrel 10 = .ok (.getfield 35, 3) := by decide +kernel
theorem dX6_quarrel_13 : decode cX6_quarrel 13 = .ok (.iconst 1, 1) := by decide +kernel
theorem dX6_quarrel_14 : decode cX6_quarrel 14 = .ok (.aload_n 0, 1) := by decide +kernel
theorem dX6_quarrel_15 : decode cX6_quarrel 15 = .ok (.getfield 52, 3) := by decide +kernel
theorem dX6_quarrel_18 : decode cX6_quarrel 18 = .ok (.iload_n 1, 1) := by decide +kernel
theorem dX6_quarrel_19 : decode cX6_quarrel 19 = .ok (.iload_n 2, 1) := by decide +kernel
theorem dX6_quarrel_20 : decode cX6_quarrel 20 = .ok (.invokevirtual 135, 3) := by decide +kernel
theorem dX6_quarrel_23 : decode cX6_quarrel 23 = .ok (.return_, 1) := by decide +kernel
set_option maxRecDepth 20000 in
theorem ggX6_refusesLeave_X2_has : GoodIn wsX6_refusesLeave wsX2_has := goodIn_r _ [6, 7, 29, 30, 31, 32, 33, 34, 35, 36, 37] (by decide +kernel) (by decide +kernel)
set_option maxRecDepth 20000 in
theorem gX6_refusesLeave_X2_has_n108 : GoodIn wsX6_refusesLeave (wsX2_has) := ggX6_refusesLeave_X2_has
set_option maxRecDepth 20000 in
theorem ggX6_refusesLeave_X5_because : GoodIn wsX6_refusesLeave wsX5_because := goodIn_r _ [11, 12, 13, 14, 15, 38, 39, 40, 41] (by decide +kernel) (by decide +kernel)
set_option maxRecDepth 20000 in
theorem gX6_refusesLeave_X5_because_n99 : GoodIn wsX6_refusesLeave (wsX5_because) := ggX6_refusesLeave_X5_because
set_option maxRecDepth 20000 in
theorem ggX6_refusesLeave_X4_placeOf : GoodIn wsX6_refusesLeave wsX4_placeOf := goodIn_r _ [19, 20, 21, 42, 43] (by decide +kernel) (by decide +kernel)
set_option maxRecDepth 20000 in
theorem gX6_refusesLeave_X4_placeOf_n112 : GoodIn wsX6_refusesLeave (wsX4_placeOf) := ggX6_refusesLeave_X4_placeOf
theorem dX6_refusesLeave_0 : decode cX6_refusesLeave 0 = .ok (.aload_n 0, 1) := by decide +kernel
theorem dX6_refusesLeave_1 : decode cX6_refusesLeave 1 = .ok (.getfield 12, 3) := by decide +kernel
theorem dX6_refusesLeave_4 : decode cX6_refusesLeave 4 = .ok (.iload_n 1, 1) := by decide +kernel
theorem dX6_refusesLeave_5 : decode cX6_refusesLeave 5 = .ok (.invokevirtual 108, 3) := by decide +kernel
theorem dX6_refusesLeave_8 : decode cX6_refusesLeave 8 = .ok (.ifCond .ne 10, 3) := by decide +kernel
theorem dX6_refusesLeave_11 : decode cX6_refusesLeave 11 = .ok (.aload_n 2, 1) := by decide +kernel
theorem dX6_refusesLeave_12 : decode cX6_refusesLeave 12 = .ok (.iconst 3, 1) := by decide +kernel
theorem dX6_refusesLeave_13 : decode cX6_refusesLeave 13 = .ok (.iload_n 1, 1) := by decide +kernel
theorem dX6_refusesLeave_14 : decode cX6_refusesLeave 14 = .ok (.invokevirtual 99, 3) := by decide +kernel
theorem dX6_refusesLeave_17 : decode cX6_refusesLeave 17 = .ok (.ireturn, 1) := by decide +kernel
theorem dX6_refusesLeave_18 : decode cX6_refusesLeave 18 = .ok (.aload_n 0, 1) := by decide +kernel
theorem dX6_refusesLeave_19 : decode cX6_refusesLeave 19 = .ok (.getfield 21, 3) := by decide +kernel
theorem dX6_refusesLeave_22 : decode cX6_refusesLeave 22 = .ok (.iload_n 1, 1) := by decide +kernel
theorem dX6_refusesLeave_23 : decode cX6_refusesLeave 23 = .ok (.invokevirtual 112, 3) := by decide +kernel
theorem dX6_refusesLeave_26 : decode cX6_refusesLeave 26 = .ok (.iconst (-1), 1) := by decide +kernel
theorem dX6_refusesLeave_27 : decode cX6_refusesLeave 27 = .ok (.if_icmp .ne 16, 3) := by decide +kernel
theorem dX6_refusesLeave_30 : decode cX6_refusesLeave 30 = .ok (.aload_n 2, 1) := by decide +kernel
theorem dX6_refusesLeave_31 : decode cX6_refusesLeave 31 = .ok (.iconst 5, 1) := by decide +kernel
theorem dX6_refusesLeave_32 : decode cX6_refusesLeave 32 = .ok (.iconst 0, 1) := by decide +kernel
theorem dX6_refusesLeave_33 : decode cX6_refusesLeave 33 = .ok (.invokevirtual 99, 3) := by decide +kernel
theorem dX6_refusesLeave_36 : decode cX6_refusesLeave 36 = .ok (.ifCond .eq 7, 3) := by decide +kernel
theorem dX6_refusesLeave_39 : decode cX6_refusesLeave 39 = .ok (.iconst 1, 1) := by decide +kernel
theorem dX6_refusesLeave_40 : decode cX6_refusesLeave 40 = .ok (.goto 4, 3) := by decide +kernel
theorem dX6_refusesLeave_43 : decode cX6_refusesLeave 43 = .ok (.iconst 0, 1) := by decide +kernel
theorem dX6_refusesLeave_44 : decode cX6_refusesLeave 44 = .ok (.ireturn, 1) := by decide +kernel
set_option maxRecDepth 20000 in
theorem ggX6_letLeave_X4_placeOf : GoodIn wsX6_letLeave wsX4_placeOf := goodIn_r _ [5, 6, 7, 22, 23] (by decide +kernel) (by decide +kernel)
set_option maxRecDepth 20000 in
theorem gX6_letLeave_X4_placeOf_n112 : GoodIn wsX6_letLeave (wsX4_placeOf) := ggX6_letLeave_X4_placeOf
set_option maxRecDepth 20000 in
theorem ggX6_letLeave_X4_removePlace : GoodIn wsX6_letLeave wsX4_removePlace := goodIn_r _ [10, 6, 7, 11, 12, 13, 3, 14, 22, 23] (by decide +kernel) (by decide +kernel)
set_option maxRecDepth 20000 in
theorem gX6_letLeave_X4_removePlace_n125 : GoodIn wsX6_letLeave (wsX4_removePlace) := ggX6_letLeave_X4_removePlace
theorem dX6_letLeave_0 : decode cX6_letLeave 0 = .ok (.aload_n 0, 1) := by decide +kernel
theorem dX6_letLeave_1 : decode cX6_letLeave 1 = .ok (.getfield 21, 3) := by decide +kernel
theorem dX6_letLeave_4 : decode cX6_letLeave 4 = .ok (.iload_n 1, 1) := by decide +kernel
theorem dX6_letLeave_5 : decode cX6_letLeave 5 = .ok (.invokevirtual 112, 3) := by decide +kernel
theorem dX6_letLeave_8 : decode cX6_letLeave 8 = .ok (.istore_n 2, 1) := by decide +kernel
theorem dX6_letLeave_9 : decode cX6_letLeave 9 = .ok (.aload_n 0, 1) := by decide +kernel
theorem dX6_letLeave_10 : decode cX6_letLeave 10 = .ok (.getfield 21, 3) := by decide +kernel
theorem dX6_letLeave_13 : decode cX6_letLeave 13 = .ok (.iload_n 2, 1) := by decide +kernel
theorem dX6_letLeave_14 : decode cX6_letLeave 14 = .ok (.invokevirtual 125, 3) := by decide +kernel
theorem dX6_letLeave_17 : decode cX6_letLeave 17 = .ok (.iload_n 2, 1) := by decide +kernel
theorem dX6_letLeave_18 : decode cX6_letLeave 18 = .ok (.ireturn, 1) := by decide +kernel
set_option maxRecDepth 20000 in
theorem ggX6_refusesDraws_X8_isWithin : GoodIn wsX6_refusesDraws wsX8_isWithin := goodIn_r _ [4] (by decide +kernel) (by decide +kernel)
set_option maxRecDepth 20000 in
theorem gX6_refusesDraws_X8_isWithin_n95 : GoodIn wsX6_refusesDraws (wsX8_isWithin) := ggX6_refusesDraws_X8_isWithin
set_option maxRecDepth 20000 in
theorem ggX6_refusesDraws_X5_because : GoodIn wsX6_refusesDraws wsX5_because := goodIn_r _ [8, 9, 10, 11, 12, 65, 66, 67, 68] (by decide +kernel) (by decide +kernel)
set_option maxRecDepth 20000 in
theorem gX6_refusesDraws_X5_because_n99 : GoodIn wsX6_refusesDraws (wsX5_because) := ggX6_refusesDraws_X5_because
set_option maxRecDepth 20000 in
theorem ggX6_refusesDraws_X6_drawsInQueue : GoodIn wsX6_refusesDraws wsX6_drawsInQueue := goodIn_r _ [17, 18, 19, 20, 21, 16, 22, 23, 24, 25, 26, 27, 28, 29, 30, 31, 32, 1, 33, 34, 35, 36, 37, 38, 50, 51, 52, 53, 54, 55, 56, 69, 70, 71, 72, 73, 74, 75, 76, 77, 78, 79, 57, 58, 59, 60, 61, 62, 63, 64] (by decide +kernel) (by decide +kernel)
set_option maxRecDepth 20000 in
theorem gX6_refusesDraws_X6_drawsInQueue : GoodIn wsX6_refusesDraws (wsV RX6 139 RX6 yX6_drawsInQueue wsX6_drawsInQueue) := goodIn_app (goodIn_of _ (by decide +kernel)) ggX6_refusesDraws_X6_drawsInQueue
set_option maxRecDepth 20000 in
theorem ggX6_refusesDraws_X7_waterOf : GoodIn wsX6_refusesDraws wsX7_waterOf := goodIn_r _ [42, 43, 44, 45, 26, 46, 47, 48, 40, 49, 57, 58, 59, 60, 61, 62, 63, 64] (by decide +kernel) (by decide +kernel)
set_option maxRecDepth 20000 in
theorem gX6_refusesDraws_X7_waterOf_n143 : GoodIn wsX6_refusesDraws (wsX7_waterOf) := ggX6_refusesDraws_X7_waterOf
theorem dX6_refusesDraws_0 : decode cX6_refusesDraws 0 = .ok (.iload_n 1, 1) := by decide +kernel
theorem dX6_refusesDraws_1 : decode cX6_refusesDraws 1 = .ok (.iconst 1, 1) := by decide +kernel
theorem dX6_refusesDraws_2 : decode cX6_refusesDraws 2 = .ok (.bipush 50, 2) := by decide +kernel
theorem dX6_refusesDraws_4 : decode cX6_refusesDraws 4 = .ok (.invokestatic 95, 3) := by decide +kernel
theorem dX6_refusesDraws_7 : decode cX6_refusesDraws 7 = .ok (.ifCond .ne 10, 3) := by decide +kernel
theorem dX6_refusesDraws_10 : decode cX6_refusesDraws 10 = .ok (.aload_n 2, 1) := by decide +kernel
theorem dX6_refusesDraws_11 : decode cX6_refusesDraws 11 = .ok (.iconst 1, 1) := by decide +kernel
theorem dX6_refusesDraws_12 : decode cX6_refusesDraws 12 = .ok (.iconst 0, 1) := by decide +kernel
theorem dX6_refusesDraws_13 : decode cX6_refusesDraws 13 = .ok (.invokevirtual 99, 3) := by decide +kernel
theorem dX6_refusesDraws_16 : decode cX6_refusesDraws 16 = .ok (.ireturn, 1) := by decide +kernel
theorem dX6_refusesDraws_17 : decode cX6_refusesDraws 17 = .ok (.aload_n 0, 1) := by decide +kernel
theorem dX6_refusesDraws_18 : decode cX6_refusesDraws 18 = .ok (.invokevirtual 139, 3) := by decide +kernel
theorem dX6_refusesDraws_21 : decode cX6_refusesDraws 21 = .ok (.istore_n 3, 1) := by decide +kernel
theorem dX6_refusesDraws_22 : decode cX6_refusesDraws 22 = .ok (.iload_n 1, 1) := by decide +kernel
theorem dX6_refusesDraws_23 : decode cX6_refusesDraws 23 = .ok (.iload_n 3, 1) := by decide +kernel
theorem dX6_refusesDraws_24 : decode cX6_refusesDraws 24 = .ok (.if_icmp .le 11, 3) := by decide +kernel
theorem dX6_refusesDraws_27 : decode cX6_refusesDraws 27 = .ok (.aload_n 2, 1) := by decide +kernel
theorem dX6_refusesDraws_28 : decode cX6_refusesDraws 28 = .ok (.bipush 7, 2) := by decide +kernel
theorem dX6_refusesDraws_30 : decode cX6_refusesDraws 30 = .ok (.iload_n 3, 1) := by decide +kernel
theorem dX6_refusesDraws_31 : decode cX6_refusesDraws 31 = .ok (.invokevirtual 99, 3) := by decide +kernel
theorem dX6_refusesDraws_34 : decode cX6_refusesDraws 34 = .ok (.ireturn, 1) := by decide +kernel
theorem dX6_refusesDraws_35 : decode cX6_refusesDraws 35 = .ok (.aload_n 0, 1) := by decide +kernel
theorem dX6_refusesDraws_36 : decode cX6_refusesDraws 36 = .ok (.getfield 28, 3) := by decide +kernel
theorem dX6_refusesDraws_39 : decode cX6_refusesDraws 39 = .ok (.iload_n 1, 1) := by decide +kernel
theorem dX6_refusesDraws_40 : decode cX6_refusesDraws 40 = .ok (.invokevirtual 143, 3) := by decide +kernel
theorem dX6_refusesDraws_43 : decode cX6_refusesDraws 43 = .ok (.aload_n 0, 1) := by decide +kernel
theorem dX6_refusesDraws_44 : decode cX6_refusesDraws 44 = .ok (.getfield 28, 3) := by decide +kernel
theorem dX6_refusesDraws_47 : decode cX6_refusesDraws 47 = .ok (.getfield 146, 3) := by decide +kernel
theorem dX6_refusesDraws_50 : decode cX6_refusesDraws 50 = .ok (.if_icmp .le 23, 3) := by decide +kernel
theorem dX6_refusesDraws_53 : decode cX6_refusesDraws 53 = .ok (.aload_n 2, 1) := by decide +kernel
theorem dX6_refusesDraws_54 : decode cX6_refusesDraws 54 = .ok (.bipush 8, 2) := by decide +kernel
theorem dX6_refusesDraws_56 : decode cX6_refusesDraws 56 = .ok (.aload_n 0, 1) := by decide +kernel
theorem dX6_refusesDraws_57 : decode cX6_refusesDraws 57 = .ok (.getfield 28, 3) := by decide +kernel
theorem dX6_refusesDraws_60 : decode cX6_refusesDraws 60 = .ok (.getfield 146, 3) := by decide +kernel
theorem dX6_refusesDraws_63 : decode cX6_refusesDraws 63 = .ok (.invokevirtual 99, 3) := by decide +kernel
theorem dX6_refusesDraws_66 : decode cX6_refusesDraws 66 = .ok (.ifCond .eq 7, 3) := by decide +kernel
theorem dX6_refusesDraws_69 : decode cX6_refusesDraws 69 = .ok (.iconst 1, 1) := by decide +kernel
theorem dX6_refusesDraws_70 : decode cX6_refusesDraws 70 = .ok (.goto 4, 3) := by decide +kernel
theorem dX6_refusesDraws_73 : decode cX6_refusesDraws 73 = .ok (.iconst 0, 1) := by decide +kernel
theorem dX6_refusesDraws_74 : decode cX6_refusesDraws 74 = .ok (.ireturn, 1) := by decide +kernel
set_option maxRecDepth 20000 in
theorem ggX6_letDraw_X6_drawFirst : GoodIn wsX6_letDraw wsX6_drawFirst := goodIn_r _ [6, 1, 7, 8, 9, 10, 11, 12, 13, 14, 15, 16, 17, 18, 19, 20, 21, 22, 23, 24, 25, 26, 27, 28, 29, 30, 31, 32, 33, 34, 35, 36, 37, 38, 39, 40, 41, 42, 43, 44, 45, 46, 47, 48, 49, 5, 50, 51, 52, 53, 54, 55, 56, 57, 58, 59, 60, 61, 62, 63, 64, 65, 66, 67, 68, 69, 70, 71, 72, 73, 74, 75, 76, 77, 78, 79, 80, 81, 82, 83, 84, 85, 86, 87, 88, 89, 90, 91, 92, 93, 94, 95, 96, 97, 98, 99] (by decide +kernel) (by decide +kernel)
set_option maxRecDepth 20000 in
theorem gX6_letDraw_X6_drawFirst : GoodIn wsX6_letDraw (wsV RX6 149 RX6 yX6_drawFirst wsX6_drawFirst) := goodIn_app (goodIn_of _ (by decide +kernel)) ggX6_letDraw_X6_drawFirst
theorem dX6_letDraw_0 : decode cX6_letDraw 0 = .ok (.iconst 0, 1) := by decide +kernel
theorem dX6_letDraw_1 : decode cX6_letDraw 1 = .ok (.istore_n 2, 1) := by decide +kernel
theorem dX6_letDraw_2 : decode cX6_letDraw 2 = .ok (.iconst 0, 1) := by decide +kernel
theorem dX6_letDraw_3 : decode cX6_letDraw 3 = .ok (.istore_n 3, 1) := by decide +kernel
theorem dX6_letDraw_4 : decode cX6_letDraw 4 = .ok (.iload_n 3, 1) := by decide +kernel
theorem dX6_letDraw_5 : decode cX6_letDraw 5 = .ok (.iload_n 1, 1) := by decide +kernel
theorem dX6_letDraw_6 : decode cX6_letDraw 6 = .ok (.if_icmp .ge 26, 3) := by decide +kernel
theorem dX6_letDraw_9 : decode cX6_letDraw 9 = .ok (.aload_n 0, 1) := by decide +kernel
theorem dX6_letDraw_10 : decode cX6_letDraw 10 = .ok (.getfield 21, 3) := by decide +kernel
theorem dX6_letDraw_13 : decode cX6_letDraw 13 = .ok (.getfield 86, 3) := by decide +kernel
theorem dX6_letDraw_16 : decode cX6_letDraw 16 = .ok (.ifCond .le 16, 3) := by decide +kernel
theorem dX6_letDraw_19 : decode cX6_letDraw 19 = .ok (.iload_n 2, 1) := by decide +kernel
theorem dX6_letDraw_20 : decode cX6_letDraw 20 = .ok (.aload_n 0, 1) := by decide +kernel
theorem dX6_letDraw_21 : decode cX6_letDraw 21 = .ok (.invokevirtual 149, 3) := by decide +kernel
theorem dX6_letDraw_24 : decode cX6_letDraw 24 = .ok (.iadd, 1) := by decide +kernel
theorem dX6_letDraw_25 : decode cX6_letDraw 25 = .ok (.istore_n 2, 1) := by decide +kernel
theorem dX6_letDraw_26 : decode cX6_letDraw 26 = .ok (.iinc 3 1, 3) := by decide +kernel
theorem dX6_letDraw_29 : decode cX6_letDraw 29 = .ok (.goto (-25), 3) := by decide +kernel
theorem dX6_letDraw_32 : decode cX6_letDraw 32 = .ok (.iload_n 2, 1) := by decide +kernel
theorem dX6_letDraw_33 : decode cX6_letDraw 33 = .ok (.ireturn, 1) := by decide +kernel
set_option maxRecDepth 20000 in
theorem ggX6_drawFirst_X7_drawOnce : GoodIn wsX6_drawFirst wsX7_drawOnce := goodIn_r _ [9, 10, 11, 12, 13, 14, 15, 16, 17, 18, 19, 7, 20, 82, 83, 84, 85, 86, 87, 88, 89] (by decide +kernel) (by decide +kernel)
set_option maxRecDepth 20000 in
theorem gX6_drawFirst_X7_drawOnce_n152 : GoodIn wsX6_drawFirst (wsX7_drawOnce) := ggX6_drawFirst_X7_drawOnce
set_option maxRecDepth 20000 in
theorem ggX6_drawFirst_X3_note : GoodIn wsX6_drawFirst wsX3_note := goodIn_r _ [24, 25, 26, 27, 28, 29, 30, 31, 15, 16, 17, 90, 91, 92, 93, 94, 95] (by decide +kernel) (by decide +kernel)
set_option maxRecDepth 20000 in
theorem gX6_drawFirst_X3_note_n135 : GoodIn wsX6_drawFirst (wsX3_note) := ggX6_drawFirst_X3_note
set_option maxRecDepth 20000 in
theorem ggX6_drawFirst_X4_removePlace : GoodIn wsX6_drawFirst wsX4_removePlace := goodIn_r _ [35, 36, 37, 38, 39, 40, 33, 41, 71, 72] (by decide +kernel) (by decide +kernel)
set_option maxRecDepth 20000 in
theorem gX6_drawFirst_X4_removePlace_n125 : GoodIn wsX6_drawFirst (wsX4_removePlace) := ggX6_drawFirst_X4_removePlace
set_option maxRecDepth 20000 in
theorem ggX6_drawFirst_X6_turnsLeft : GoodIn wsX6_drawFirst wsX6_turnsLeft := goodIn_r _ [46, 3, 47, 48, 16, 49, 50, 51, 52, 45, 53, 54, 2, 55, 56, 57, 58, 59, 60, 64, 65, 66, 67, 68, 69, 70, 73, 74, 75, 76, 77, 78, 79, 80, 81, 82, 83, 84, 85, 86, 87, 88, 89] (by decide +kernel) (by decide +kernel)
set_option maxRecDepth 20000 in
theorem gX6_drawFirst_X6_turnsLeft : GoodIn wsX6_drawFirst (wsV RX6 92 RX6 yX6_turnsLeft wsX6_turnsLeft) := goodIn_app (goodIn_of _ (by decide +kernel)) ggX6_drawFirst_X6_turnsLeft
set_option maxRecDepth 20000 in
theorem ggX6_drawFirst_X4_addLast : GoodIn wsX6_drawFirst wsX4_addLast := goodIn_r _ [63, 36, 37, 71, 72] (by decide +kernel) (by decide +kernel)
set_option maxRecDepth 20000 in
theorem gX6_drawFirst_X4_addLast_n129 : GoodIn wsX6_drawFirst (wsX4_addLast) := ggX6_drawFirst_X4_addLast
theorem dX6_drawFirst_0 : decode cX6_drawFirst 0 = .ok (.aload_n 0, 1) := by decide +kernel
theorem dX6_drawFirst_1 : decode cX6_drawFirst 1 = .ok (.getfield 21, 3) := by decide +kernel
theorem dX6_drawFirst_4 : decode cX6_drawFirst 4 = .ok (.getfield 89, 3) := by decide +kernel
theorem dX6_drawFirst_7 : decode cX6_drawFirst 7 = .ok (.iconst 0, 1) := by decide +kernel
theorem dX6_drawFirst_8 : decode cX6_drawFirst 8 = .ok (.iaload, 1) := by decide +kernel
theorem dX6_drawFirst_9 : decode cX6_drawFirst 9 = .ok (.istore_n 1, 1) := by decide +kernel
theorem dX6_drawFirst_10 : decode cX6_drawFirst 10 = .ok (.aload_n 0, 1) := by decide +kernel
theorem dX6_drawFirst_11 : decode cX6_drawFirst 11 = .ok (.getfield 28, 3) := by decide +kernel
theorem dX6_drawFirst_14 : decode cX6_drawFirst 14 = .ok (.invokevirtual 152, 3) := by decide +kernel
theorem dX6_drawFirst_17 : decode cX6_drawFirst 17 = .ok (.istore_n 2, 1) := by decide +kernel
theorem dX6_drawFirst_18 : decode cX6_drawFirst 18 = .ok (.aload_n 0, 1) := by decide +kernel
theorem dX6_drawFirst_19 : decode cX6_drawFirst 19 = .ok (.getfield 12, 3) := by decide +kernel
theorem dX6_drawFirst_22 : decode cX6_drawFirst 22 = .ok (.getfield 74, 3) := by decide +kernel
theorem dX6_drawFirst_25 : decode cX6_drawFirst 25 = .ok (.iload_n 1, 1) := by decide +kernel
theorem dX6_drawFirst_26 : decode cX6_drawFirst 26 = .ok (.dup2, 1) := by decide +kernel
theorem dX6_drawFirst_27 : decode cX6_drawFirst 27 = .ok (.iaload, 1) := by decide +kernel
theorem dX6_drawFirst_28 : decode cX6_drawFirst 28 = .ok (.iconst 1, 1) := by decide +kernel
theorem dX6_drawFirst_29 : decode cX6_drawFirst 29 = .ok (.iadd, 1) := by decide +kernel
theorem dX6_drawFirst_30 : decode cX6_drawFirst 30 = .ok (.iastore, 1) := by decide +kernel
theorem dX6_drawFirst_31 : decode cX6_drawFirst 31 = .ok (.aload_n 0, 1) := by decide +kernel
theorem dX6_drawFirst_32 : decode cX6_drawFirst 32 = .ok (.getfield 12, 3) := by decide +kernel
theorem dX6_drawFirst_35 : decode cX6_drawFirst 35 = .ok (.getfield 155, 3) := by decide +kernel
theorem dX6_drawFirst_38 : decode cX6_drawFirst 38 = .ok (.iload_n 1, 1) := by decide +kernel
theorem dX6_drawFirst_39 : decode cX6_drawFirst 39 = .ok (.dup2, 1) := by decide +kernel
theorem dX6_drawFirst_40 : decode cX6_drawFirst 40 = .ok (.iaload, 1) := by decide +kernel
theorem dX6_drawFirst_41 : decode cX6_drawFirst 41 = .ok (.iload_n 2, 1) := by decide +kernel
theorem dX6_drawFirst_42 : decode cX6_drawFirst 42 = .ok (.iadd, 1) := by decide +kernel
theorem dX6_drawFirst_43 : decode cX6_drawFirst 43 = .ok (.iastore, 1) := by decide +kernel
theorem dX6_drawFirst_44 : decode cX6_drawFirst 44 = .ok (.aload_n 0, 1) := by decide +kernel
theorem dX6_drawFirst_45 : decode cX6_drawFirst 45 = .ok (.getfield 35, 3) := by decide +kernel
theorem dX6_drawFirst_48 : decode cX6_drawFirst 48 = .ok (.iconst 0, 1) := by decide +kernel
theorem dX6_drawFirst_49 : decode cX6_drawFirst 49 = .ok (.aload_n 0, 1) := by decide +kernel
theorem dX6_drawFirst_50 : decode cX6_drawFirst 50 = .ok (.getfield 52, 3) := by decide +kernel
theorem dX6_drawFirst_53 : decode cX6_drawFirst 53 = .ok (.iload_n 1, 1) := by decide +kernel
theorem dX6_drawFirst_54 : decode cX6_drawFirst 54 = .ok (.iload_n 2, 1) := by decide +kernel
theorem dX6_drawFirst_55 : decode cX6_drawFirst 55 = .ok (.invokevirtual 135, 3) := by decide +kernel
theorem dX6_drawFirst_58 : decode cX6_drawFirst 58 = .ok (.aload_n 0, 1) := by decide +kernel
theorem dX6_drawFirst_59 : decode cX6_drawFirst 59 = .ok (.getfield 21, 3) := by decide +kernel
theorem dX6_drawFirst_62 : decode cX6_drawFirst 62 = .ok (.iconst 0, 1) := by decide +kernel
theorem dX6_drawFirst_63 : decode cX6_drawFirst 63 = .ok (.invokevirtual 125, 3) := by decide +kernel
theorem dX6_drawFirst_66 : decode cX6_drawFirst 66 = .ok (.aload_n 0, 1) := by decide +kernel
theorem dX6_drawFirst_67 : decode cX6_drawFirst 67 = .ok (.iload_n 1, 1) := by decide +kernel
theorem dX6_drawFirst_68 : decode cX6_drawFirst 68 = .ok (.invokevirtual 92, 3) := by decide +kernel
theorem dX6_drawFirst_71 : decode cX6_drawFirst 71 = .ok (.ifCond .le 11, 3) := by decide +kernel
theorem dX6_drawFirst_74 : decode cX6_drawFirst 74 = .ok (.aload_n 0, 1) := by decide +kernel
theorem dX6_drawFirst_75 : decode cX6_drawFirst 75 = .ok (.getfield 21, 3) := by decide +kernel
theorem dX6_drawFirst_78 : decode cX6_drawFirst 78 = .ok (.iload_n 1, 1) := by decide +kernel
theorem dX6_drawFirst_79 : decode cX6_drawFirst 79 = .ok (.invokevirtual 129, 3) := by decide +kernel
theorem dX6_drawFirst_82 : decode cX6_drawFirst 82 = .ok (.iload_n 2, 1) := by decide +kernel
theorem dX6_drawFirst_83 : decode cX6_drawFirst 83 = .ok (.ireturn, 1) := by decide +kernel
set_option maxRecDepth 20000 in
theorem ggX6_refusesVote_X5_because : GoodIn wsX6_refusesVote wsX5_because := goodIn_r _ [5, 6, 7, 8, 9, 26, 27, 28, 29] (by decide +kernel) (by decide +kernel)
set_option maxRecDepth 20000 in
theorem gX6_refusesVote_X5_because_n99 : GoodIn wsX6_refusesVote (wsX5_because) := ggX6_refusesVote_X5_because
theorem dX6_refusesVote_0 : decode cX6_refusesVote 0 = .ok (.aload_n 0, 1) := by decide +kernel
theorem dX6_refusesVote_1 : decode cX6_refusesVote 1 = .ok (.getfield 12, 3) := by decide +kernel
theorem dX6_refusesVote_4 : decode cX6_refusesVote 4 = .ok (.getfield 105, 3) := by decide +kernel
theorem dX6_refusesVote_7 : decode cX6_refusesVote 7 = .ok (.ifCond .ne 16, 3) := by decide +kernel
theorem dX6_refusesVote_10 : decode cX6_refusesVote 10 = .ok (.aload_n 1, 1) := by decide +kernel
theorem dX6_refusesVote_11 : decode cX6_refusesVote 11 = .ok (.iconst 3, 1) := by decide +kernel
theorem dX6_refusesVote_12 : decode cX6_refusesVote 12 = .ok (.iconst 0, 1) := by decide +kernel
theorem dX6_refusesVote_13 : decode cX6_refusesVote 13 = .ok (.invokevirtual 99, 3) := by decide +kernel
theorem dX6_refusesVote_16 : decode cX6_refusesVote 16 = .ok (.ifCond .eq 7, 3) := by decide +kernel
theorem dX6_refusesVote_19 : decode cX6_refusesVote 19 = .ok (.iconst 1, 1) := by decide +kernel
theorem dX6_refusesVote_20 : decode cX6_refusesVote 20 = .ok (.goto 4, 3) := by decide +kernel
theorem dX6_refusesVote_23 : decode cX6_refusesVote 23 = .ok (.iconst 0, 1) := by decide +kernel
theorem dX6_refusesVote_24 : decode cX6_refusesVote 24 = .ok (.ireturn, 1) := by decide +kernel
set_option maxRecDepth 20000 in
theorem ggX6_letVote_X2_lawOfMost : GoodIn wsX6_letVote wsX2_lawOfMost := goodIn_r _ [9, 10, 11, 12, 7, 13, 14, 15, 16, 17, 18, 19, 20, 21, 22, 23, 24, 71, 72, 73, 74, 75, 76, 77, 78, 79] (by decide +kernel) (by decide +kernel)
set_option maxRecDepth 20000 in
theorem gX6_letVote_X2_lawOfMost_n158 : GoodIn wsX6_letVote (wsX2_lawOfMost) := ggX6_letVote_X2_lawOfMost
set_option maxRecDepth 20000 in
theorem ggX6_letVote_X6_turnsLeft : GoodIn wsX6_letVote wsX6_turnsLeft := goodIn_r _ [29, 1, 30, 31, 32, 33, 34, 35, 36, 28, 37, 2, 38, 21, 7, 22, 23, 15, 24, 62, 63, 64, 65, 66, 67, 68, 71, 72, 73, 74, 75, 76, 77, 78, 79, 80, 81, 82, 83, 84, 85, 86, 87] (by decide +kernel) (by decide +kernel)
set_option maxRecDepth 20000 in
theorem gX6_letVote_X6_turnsLeft : GoodIn wsX6_letVote (wsV RX6 92 RX6 yX6_turnsLeft wsX6_turnsLeft) := goodIn_app (goodIn_of _ (by decide +kernel)) ggX6_letVote_X6_turnsLeft
set_option maxRecDepth 20000 in
theorem ggX6_letVote_X4_removePlace : GoodIn wsX6_letVote wsX4_removePlace := goodIn_r _ [42, 43, 44, 45, 46, 47, 40, 48, 69, 70] (by decide +kernel) (by decide +kernel)
set_option maxRecDepth 20000 in
theorem gX6_letVote_X4_removePlace_n125 : GoodIn wsX6_letVote (wsX4_removePlace) := ggX6_letVote_X4_removePlace
set_option maxRecDepth 20000 in
theorem ggX6_letVote_X3_note : GoodIn wsX6_letVote wsX3_note := goodIn_r _ [52, 53, 54, 55, 56, 57, 58, 59, 60, 32, 61, 88, 89, 90, 91, 92, 93] (by decide +kernel) (by decide +kernel)
set_option maxRecDepth 20000 in
theorem gX6_letVote_X3_note_n135 : GoodIn wsX6_letVote (wsX3_note) := ggX6_letVote_X3_note
theorem dX6_letVote_0 : decode cX6_letVote 0 = .ok (.aload_n 0, 1) := by decide +kernel
theorem dX6_letVote_1 : decode cX6_letVote 1 = .ok (.aload_n 0, 1) := by decide +kernel
theorem dX6_letVote_2 : decode cX6_letVote 2 = .ok (.getfield 12, 3) := by decide +kernel
theorem dX6_letVote_5 : decode cX6_letVote 5 = .ok (.invokevirtual 158, 3) := by decide +kernel
theorem dX6_letVote_8 : decode cX6_letVote 8 = .ok (.putfield 56, 3) := by decide +kernel
theorem dX6_letVote_11 : decode cX6_letVote 11 = .ok (.aload_n 0, 1) := by decide +kernel
theorem dX6_letVote_12 : decode cX6_letVote 12 = .ok (.getfield 21, 3) := by decide +kernel
theorem dX6_letVote_15 : decode cX6_letVote 15 = .ok (.getfield 86, 3) := by decide +kernel
theorem dX6_letVote_18 : decode cX6_letVote 18 = .ok (.iconst 1, 1) := by decide +kernel
theorem dX6_letVote_19 : decode cX6_letVote 19 = .ok (.isub, 1) := by decide +kernel
theorem dX6_letVote_20 : decode cX6_letVote 20 = .ok (.istore_n 1, 1) := by decide +kernel
theorem dX6_letVote_21 : decode cX6_letVote 21 = .ok (.iload_n 1, 1) := by decide +kernel
theorem dX6_letVote_22 : decode cX6_letVote 22 = .ok (.ifCond .lt 33, 3) := by decide +kernel
theorem dX6_letVote_25 : decode cX6_letVote 25 = .ok (.aload_n 0, 1) := by decide +kernel
theorem dX6_letVote_26 : decode cX6_letVote 26 = .ok (.aload_n 0, 1) := by decide +kernel
theorem dX6_letVote_27 : decode cX6_letVote 27 = .ok (.getfield 21, 3) := by decide +kernel
theorem dX6_letVote_30 : decode cX6_letVote 30 = .ok (.getfield 89, 3) := by decide +kernel
theorem dX6_letVote_33 : decode cX6_letVote 33 = .ok (.iload_n 1, 1) := by decide +kernel
theorem dX6_letVote_34 : decode cX6_letVote 34 = .ok (.iaload, 1) := by decide +kernel
theorem dX6_letVote_35 : decode cX6_letVote 35 = .ok (.invokevirtual 92, 3) := by decide +kernel
theorem dX6_letVote_38 : decode cX6_letVote 38 = .ok (.ifCond .ne 11, 3) := by decide +kernel
theorem dX6_letVote_41 : decode cX6_letVote 41 = .ok (.aload_n 0, 1) := by decide +kernel
theorem dX6_letVote_42 : decode cX6_letVote 42 = .ok (.getfield 21, 3) := by decide +kernel
theorem dX6_letVote_45 : decode cX6_letVote 45 = .ok (.iload_n 1, 1) := by decide +kernel
theorem dX6_letVote_46 : decode cX6_letVote 46 = .ok (.invokevirtual 125, 3) := by decide +kernel
theorem dX6_letVote_49 : decode cX6_letVote 49 = .ok (.iinc 1 (-1), 3) := by decide +kernel
theorem dX6_letVote_52 : decode cX6_letVote 52 = .ok (.goto (-31), 3) := by decide +kernel
theorem dX6_letVote_55 : decode cX6_letVote 55 = .ok (.aload_n 0, 1) := by decide +kernel
theorem dX6_letVote_56 : decode cX6_letVote 56 = .ok (.getfield 35, 3) := by decide +kernel
theorem dX6_letVote_59 : decode cX6_letVote 59 = .ok (.iconst 2, 1) := by decide +kernel
theorem dX6_letVote_60 : decode cX6_letVote 60 = .ok (.aload_n 0, 1) := by decide +kernel
theorem dX6_letVote_61 : decode cX6_letVote 61 = .ok (.getfield 52, 3) := by decide +kernel
theorem dX6_letVote_64 : decode cX6_letVote 64 = .ok (.aload_n 0, 1) := by decide +kernel
theorem dX6_letVote_65 : decode cX6_letVote 65 = .ok (.getfield 56, 3) := by decide +kernel
theorem dX6_letVote_68 : decode cX6_letVote 68 = .ok (.iconst 0, 1) := by decide +kernel
theorem dX6_letVote_69 : decode cX6_letVote 69 = .ok (.invokevirtual 135, 3) := by decide +kernel
theorem dX6_letVote_72 : decode cX6_letVote 72 = .ok (.aload_n 0, 1) := by decide +kernel
theorem dX6_letVote_73 : decode cX6_letVote 73 = .ok (.getfield 56, 3) := by decide +kernel
theorem dX6_letVote_76 : decode cX6_letVote 76 = .ok (.ireturn, 1) := by decide +kernel
set_option maxRecDepth 20000 in
theorem ggX6_refusesRain_X8_isWithin : GoodIn wsX6_refusesRain wsX8_isWithin := goodIn_r _ [3] (by decide +kernel) (by decide +kernel)
set_option maxRecDepth 20000 in
theorem gX6_refusesRain_X8_isWithin_n95 : GoodIn wsX6_refusesRain (wsX8_isWithin) := ggX6_refusesRain_X8_isWithin
set_option maxRecDepth 20000 in
theorem ggX6_refusesRain_X5_because : GoodIn wsX6_refusesRain wsX5_because := goodIn_r _ [7, 8, 9, 10, 11, 12, 13, 14, 15] (by decide +kernel) (by decide +kernel)
set_option maxRecDepth 20000 in
theorem gX6_refusesRain_X5_because_n99 : GoodIn wsX6_refusesRain (wsX5_because) := ggX6_refusesRain_X5_because
theorem dX6_refusesRain_0 : decode cX6_refusesRain 0 = .ok (.iload_n 1, 1) := by decide +kernel
theorem dX6_refusesRain_1 : decode cX6_refusesRain 1 = .ok (.iconst 0, 1) := by decide +kernel
theorem dX6_refusesRain_2 : decode cX6_refusesRain 2 = .ok (.bipush 9, 2) := by decide +kernel
theorem dX6_refusesRain_4 : decode cX6_refusesRain 4 = .ok (.invokestatic 95, 3) := by decide +kernel
theorem dX6_refusesRain_7 : decode cX6_refusesRain 7 = .ok (.ifCond .ne 16, 3) := by decide +kernel
theorem dX6_refusesRain_10 : decode cX6_refusesRain 10 = .ok (.aload_n 2, 1) := by decide +kernel
theorem dX6_refusesRain_11 : decode cX6_refusesRain 11 = .ok (.iconst 1, 1) := by decide +kernel
theorem dX6_refusesRain_12 : decode cX6_refusesRain 12 = .ok (.iconst 0, 1) := by decide +kernel
theorem dX6_refusesRain_13 : decode cX6_refusesRain 13 = .ok (.invokevirtual 99, 3) := by decide +kernel
theorem dX6_refusesRain_16 : decode cX6_refusesRain 16 = .ok (.ifCond .eq 7, 3) := by decide +kernel
theorem dX6_refusesRain_19 : decode cX6_refusesRain 19 = .ok (.iconst 1, 1) := by decide +kernel
theorem dX6_refusesRain_20 : decode cX6_refusesRain 20 = .ok (.goto 4, 3) := by decide +kernel
theorem dX6_refusesRain_23 : decode cX6_refusesRain 23 = .ok (.iconst 0, 1) := by decide +kernel
theorem dX6_refusesRain_24 : decode cX6_refusesRain 24 = .ok (.ireturn, 1) := by decide +kernel
set_option maxRecDepth 20000 in
theorem ggX6_refusesNights_X8_isWithin : GoodIn wsX6_refusesNights wsX8_isWithin := goodIn_r _ [3] (by decide +kernel) (by decide +kernel)
set_option maxRecDepth 20000 in
theorem gX6_refusesNights_X8_isWithin_n95 : GoodIn wsX6_refusesNights (wsX8_isWithin) := ggX6_refusesNights_X8_isWithin
set_option maxRecDepth 20000 in
theorem ggX6_refusesNights_X5_because : GoodIn wsX6_refusesNights wsX5_because := goodIn_r _ [7, 8, 9, 10, 11, 12, 13, 14, 15] (by decide +kernel) (by decide +kernel)
set_option maxRecDepth 20000 in
theorem gX6_refusesNights_X5_because_n99 : GoodIn wsX6_refusesNights (wsX5_because) := ggX6_refusesNights_X5_because
theorem dX6_refusesNights_0 : decode cX6_refusesNights 0 = .ok (.iload_n 1, 1) := by decide +kernel
theorem dX6_refusesNights_1 : decode cX6_refusesNights 1 = .ok (.iconst 1, 1) := by decide +kernel
theorem dX6_refusesNights_2 : decode cX6_refusesNights 2 = .ok (.bipush 50, 2) := by decide +kernel
theorem dX6_refusesNights_4 : decode cX6_refusesNights 4 = .ok (.invokestatic 95, 3) := by decide +kernel
theorem dX6_refusesNights_7 : decode cX6_refusesNights 7 = .ok (.ifCond .ne 16, 3) := by decide +kernel
theorem dX6_refusesNights_10 : decode cX6_refusesNights 10 = .ok (.aload_n 2, 1) := by decide +kernel
theorem dX6_refusesNights_11 : decode cX6_refusesNights 11 = .ok (.iconst 1, 1) := by decide +kernel
theorem dX6_refusesNights_12 : decode cX6_refusesNights 12 = .ok (.iconst 0, 1) := by decide +kernel
theorem dX6_refusesNights_13 : decode cX6_refusesNights 13 = .ok (.invokevirtual 99, 3) := by decide +kernel
theorem dX6_refusesNights_16 : decode cX6_refusesNights 16 = .ok (.ifCond .eq 7, 3) := by decide +kernel
theorem dX6_refusesNights_19 : decode cX6_refusesNights 19 = .ok (.iconst 1, 1) := by decide +kernel
theorem dX6_refusesNights_20 : decode cX6_refusesNights 20 = .ok (.goto 4, 3) := by decide +kernel
theorem dX6_refusesNights_23 : decode cX6_refusesNights 23 = .ok (.iconst 0, 1) := by decide +kernel
theorem dX6_refusesNights_24 : decode cX6_refusesNights 24 = .ok (.ireturn, 1) := by decide +kernel
set_option maxRecDepth 20000 in
theorem ggX6_letNightsPass_X2_forgetDay : GoodIn wsX6_letNightsPass wsX2_forgetDay := goodIn_r _ [8, 9, 10, 11, 38, 39, 40, 41, 42, 43, 44, 45, 46] (by decide +kernel) (by decide +kernel)
set_option maxRecDepth 20000 in
theorem gX6_letNightsPass_X2_forgetDay_n161 : GoodIn wsX6_letNightsPass (wsX2_forgetDay) := ggX6_letNightsPass_X2_forgetDay
set_option maxRecDepth 20000 in
theorem ggX6_letNightsPass_X7_passNight : GoodIn wsX6_letNightsPass wsX7_passNight := goodIn_r _ [15, 16, 17, 18, 19, 20, 30, 31, 32, 33, 34, 35, 36, 37] (by decide +kernel) (by decide +kernel)
set_option maxRecDepth 20000 in
theorem gX6_letNightsPass_X7_passNight_n164 : GoodIn wsX6_letNightsPass (wsX7_passNight) := ggX6_letNightsPass_X7_passNight
theorem dX6_letNightsPass_0 : decode cX6_letNightsPass 0 = .ok (.aload_n 0, 1) := by decide +kernel
theorem dX6_letNightsPass_1 : decode cX6_letNightsPass 1 = .ok (.getfield 21, 3) := by decide +kernel
theorem dX6_letNightsPass_4 : decode cX6_letNightsPass 4 = .ok (.iconst 0, 1) := by decide +kernel
theorem dX6_letNightsPass_5 : decode cX6_letNightsPass 5 = .ok (.putfield 86, 3) := by decide +kernel
theorem dX6_letNightsPass_8 : decode cX6_letNightsPass 8 = .ok (.aload_n 0, 1) := by decide +kernel
theorem dX6_letNightsPass_9 : decode cX6_letNightsPass 9 = .ok (.getfield 12, 3) := by decide +kernel
theorem dX6_letNightsPass_12 : decode cX6_letNightsPass 12 = .ok (.invokevirtual 161, 3) := by decide +kernel
theorem dX6_letNightsPass_15 : decode cX6_letNightsPass 15 = .ok (.iconst 0, 1) := by decide +kernel
theorem dX6_letNightsPass_16 : decode cX6_letNightsPass 16 = .ok (.istore_n 2, 1) := by decide +kernel
theorem dX6_letNightsPass_17 : decode cX6_letNightsPass 17 = .ok (.iload_n 2, 1) := by decide +kernel
theorem dX6_letNightsPass_18 : decode cX6_letNightsPass 18 = .ok (.iload_n 1, 1) := by decide +kernel
theorem dX6_letNightsPass_19 : decode cX6_letNightsPass 19 = .ok (.if_icmp .ge 16, 3) := by decide +kernel
theorem dX6_letNightsPass_22 : decode cX6_letNightsPass 22 = .ok (.aload_n 0, 1) := by decide +kernel
theorem dX6_letNightsPass_23 : decode cX6_letNightsPass 23 = .ok (.getfield 28, 3) := by decide +kernel
theorem dX6_letNightsPass_26 : decode cX6_letNightsPass 26 = .ok (.invokevirtual 164, 3) := by decide +kernel
theorem dX6_letNightsPass_29 : decode cX6_letNightsPass 29 = .ok (.iinc 2 1, 3) := by decide +kernel
theorem dX6_letNightsPass_32 : decode cX6_letNightsPass 32 = .ok (.goto (-15), 3) := by decide +kernel
theorem dX6_letNightsPass_35 : decode cX6_letNightsPass 35 = .ok (.aload_n 0, 1) := by decide +kernel
theorem dX6_letNightsPass_36 : decode cX6_letNightsPass 36 = .ok (.dup, 1) := by decide +kernel
theorem dX6_letNightsPass_37 : decode cX6_letNightsPass 37 = .ok (.getfield 52, 3) := by decide +kernel
theorem dX6_letNightsPass_40 : decode cX6_letNightsPass 40 = .ok (.iload_n 1, 1) := by decide +kernel
theorem dX6_letNightsPass_41 : decode cX6_letNightsPass 41 = .ok (.iadd, 1) := by decide +kernel
theorem dX6_letNightsPass_42 : decode cX6_letNightsPass 42 = .ok (.putfield 52, 3) := by decide +kernel
theorem dX6_letNightsPass_45 : decode cX6_letNightsPass 45 = .ok (.aload_n 0, 1) := by decide +kernel
theorem dX6_letNightsPass_46 : decode cX6_letNightsPass 46 = .ok (.getfield 28, 3) := by decide +kernel
theorem dX6_letNightsPass_49 : decode cX6_letNightsPass 49 = .ok (.getfield 146, 3) := by decide +kernel
theorem dX6_letNightsPass_52 : decode cX6_letNightsPass 52 = .ok (.ireturn, 1) := by decide +kernel
set_option maxRecDepth 20000 in
theorem ggX6_refusesCoins_X8_isWithin : GoodIn wsX6_refusesCoins wsX8_isWithin := goodIn_r _ [4] (by decide +kernel) (by decide +kernel)
set_option maxRecDepth 20000 in
theorem gX6_refusesCoins_X8_isWithin_n95 : GoodIn wsX6_refusesCoins (wsX8_isWithin) := ggX6_refusesCoins_X8_isWithin
set_option maxRecDepth 20000 in
theorem ggX6_refusesCoins_X5_because : GoodIn wsX6_refusesCoins wsX5_because := goodIn_r _ [8, 9, 10, 11, 12, 20, 21, 22, 23] (by decide +kernel) (by decide +kernel)
set_option maxRecDepth 20000 in
theorem gX6_refusesCoins_X5_because_n99 : GoodIn wsX6_refusesCoins (wsX5_because) := ggX6_refusesCoins_X5_because
theorem dX6_refusesCoins_0 : decode cX6_refusesCoins 0 = .ok (.iload_n 1, 1) := by decide +kernel
theorem dX6_refusesCoins_1 : decode cX6_refusesCoins 1 = .ok (.iconst 1, 1) := by decide +kernel
theorem dX6_refusesCoins_2 : decode cX6_refusesCoins 2 = .ok (.bipush 100, 2) := by decide +kernel
theorem dX6_refusesCoins_4 : decode cX6_refusesCoins 4 = .ok (.invokestatic 95, 3) := by decide +kernel
theorem dX6_refusesCoins_7 : decode cX6_refusesCoins 7 = .ok (.ifCond .ne 10, 3) := by decide +kernel
theorem dX6_refusesCoins_10 : decode cX6_refusesCoins 10 = .ok (.aload_n 2, 1) := by decide +kernel
theorem dX6_refusesCoins_11 : decode cX6_refusesCoins 11 = .ok (.iconst 1, 1) := by decide +kernel
theorem dX6_refusesCoins_12 : decode cX6_refusesCoins 12 = .ok (.iconst 0, 1) := by decide +kernel
theorem dX6_refusesCoins_13 : decode cX6_refusesCoins 13 = .ok (.invokevirtual 99, 3) := by decide +kernel
theorem dX6_refusesCoins_16 : decode cX6_refusesCoins 16 = .ok (.ireturn, 1) := by decide +kernel
theorem dX6_refusesCoins_17 : decode cX6_refusesCoins 17 = .ok (.aload_n 0, 1) := by decide +kernel
theorem dX6_refusesCoins_18 : decode cX6_refusesCoins 18 = .ok (.getfield 59, 3) := by decide +kernel
theorem dX6_refusesCoins_21 : decode cX6_refusesCoins 21 = .ok (.iload_n 1, 1) := by decide +kernel
theorem dX6_refusesCoins_22 : decode cX6_refusesCoins 22 = .ok (.iadd, 1) := by decide +kernel
theorem dX6_refusesCoins_23 : decode cX6_refusesCoins 23 = .ok (.sipush 500, 3) := by decide +kernel
theorem dX6_refusesCoins_26 : decode cX6_refusesCoins 26 = .ok (.if_icmp .le 18, 3) := by decide +kernel
theorem dX6_refusesCoins_29 : decode cX6_refusesCoins 29 = .ok (.aload_n 2, 1) := by decide +kernel
theorem dX6_refusesCoins_30 : decode cX6_refusesCoins 30 = .ok (.iconst 2, 1) := by decide +kernel
theorem dX6_refusesCoins_31 : decode cX6_refusesCoins 31 = .ok (.sipush 500, 3) := by decide +kernel
theorem dX6_refusesCoins_34 : decode cX6_refusesCoins 34 = .ok (.invokevirtual 99, 3) := by decide +kernel
theorem dX6_refusesCoins_37 : decode cX6_refusesCoins 37 = .ok (.ifCond .eq 7, 3) := by decide +kernel
theorem dX6_refusesCoins_40 : decode cX6_refusesCoins 40 = .ok (.iconst 1, 1) := by decide +kernel
theorem dX6_refusesCoins_41 : decode cX6_refusesCoins 41 = .ok (.goto 4, 3) := by decide +kernel
theorem dX6_refusesCoins_44 : decode cX6_refusesCoins 44 = .ok (.iconst 0, 1) := by decide +kernel
theorem dX6_refusesCoins_45 : decode cX6_refusesCoins 45 = .ok (.ireturn, 1) := by decide +kernel
set_option maxRecDepth 20000 in
theorem ggX6_refusesLeather_X5_because : GoodIn wsX6_refusesLeather wsX5_because := goodIn_r _ [5, 6, 7, 8, 9, 17, 18, 19, 20] (by decide +kernel) (by decide +kernel)
set_option maxRecDepth 20000 in
theorem gX6_refusesLeather_X5_because_n99 : GoodIn wsX6_refusesLeather (wsX5_because) := ggX6_refusesLeather_X5_because
theorem dX6_refusesLeather_0 : decode cX6_refusesLeather 0 = .ok (.aload_n 0, 1) := by decide +kernel
theorem dX6_refusesLeather_1 : decode cX6_refusesLeather 1 = .ok (.getfield 59, 3) := by decide +kernel
theorem dX6_refusesLeather_4 : decode cX6_refusesLeather 4 = .ok (.bipush 20, 2) := by decide +kernel
theorem dX6_refusesLeather_6 : decode cX6_refusesLeather 6 = .ok (.if_icmp .ge 23, 3) := by decide +kernel
theorem dX6_refusesLeather_9 : decode cX6_refusesLeather 9 = .ok (.aload_n 1, 1) := by decide +kernel
theorem dX6_refusesLeather_10 : decode cX6_refusesLeather 10 = .ok (.bipush 9, 2) := by decide +kernel
theorem dX6_refusesLeather_12 : decode cX6_refusesLeather 12 = .ok (.bipush 20, 2) := by decide +kernel
theorem dX6_refusesLeather_14 : decode cX6_refusesLeather 14 = .ok (.aload_n 0, 1) := by decide +kernel
theorem dX6_refusesLeather_15 : decode cX6_refusesLeather 15 = .ok (.getfield 59, 3) := by decide +kernel
theorem dX6_refusesLeather_18 : decode cX6_refusesLeather 18 = .ok (.isub, 1) := by decide +kernel
theorem dX6_refusesLeather_19 : decode cX6_refusesLeather 19 = .ok (.invokevirtual 99, 3) := by decide +kernel
theorem dX6_refusesLeather_22 : decode cX6_refusesLeather 22 = .ok (.ifCond .eq 7, 3) := by decide +kernel
theorem dX6_refusesLeather_25 : decode cX6_refusesLeather 25 = .ok (.iconst 1, 1) := by decide +kernel
theorem dX6_refusesLeather_26 : decode cX6_refusesLeather 26 = .ok (.goto 4, 3) := by decide +kernel
theorem dX6_refusesLeather_29 : decode cX6_refusesLeather 29 = .ok (.iconst 0, 1) := by decide +kernel
theorem dX6_refusesLeather_30 : decode cX6_refusesLeather 30 = .ok (.ireturn, 1) := by decide +kernel
set_option maxRecDepth 20000 in
theorem ggX6_changeLeather_X3_note : GoodIn wsX6_changeLeather wsX3_note := goodIn_r _ [8, 9, 10, 11, 12, 13, 14, 15, 16, 17, 18, 31, 32, 33, 34, 35, 36] (by decide +kernel) (by decide +kernel)
set_option maxRecDepth 20000 in
theorem gX6_changeLeather_X3_note_n135 : GoodIn wsX6_changeLeather (wsX3_note) := ggX6_changeLeather_X3_note
set_option maxRecDepth 20000 in
theorem ggX6_changeLeather_X7_renewLeather : GoodIn wsX6_changeLeather wsX7_renewLeather := goodIn_r _ [22, 23, 37, 38, 39, 40, 41, 42, 43, 44] (by decide +kernel) (by decide +kernel)
set_option maxRecDepth 20000 in
theorem gX6_changeLeather_X7_renewLeather_n167 : GoodIn wsX6_changeLeather (wsX7_renewLeather) := ggX6_changeLeather_X7_renewLeather
theorem dX6_changeLeather_0 : decode cX6_changeLeather 0 = .ok (.aload_n 0, 1) := by decide +kernel
theorem dX6_changeLeather_1 : decode cX6_changeLeather 1 = .ok (.dup, 1) := by decide +kernel
theorem dX6_changeLeather_2 : decode cX6_changeLeather 2 = .ok (.getfield 59, 3) := by decide +kernel
theorem dX6_changeLeather_5 : decode cX6_changeLeather 5 = .ok (.bipush 20, 2) := by decide +kernel
theorem dX6_changeLeather_7 : decode cX6_changeLeather 7 = .ok (.isub, 1) := by decide +kernel
theorem dX6_changeLeather_8 : decode cX6_changeLeather 8 = .ok (.putfield 59, 3) := by decide +kernel
theorem dX6_changeLeather_11 : decode cX6_changeLeather 11 = .ok (.aload_n 0, 1) := by decide +kernel
theorem dX6_changeLeather_12 : decode cX6_changeLeather 12 = .ok (.getfield 35, 3) := by decide +kernel
theorem dX6_changeLeather_15 : decode cX6_changeLeather 15 = .ok (.iconst 3, 1) := by decide +kernel
theorem dX6_changeLeather_16 : decode cX6_changeLeather 16 = .ok (.aload_n 0, 1) := by decide +kernel
theorem dX6_changeLeather_17 : decode cX6_changeLeather 17 = .ok (.getfield 52, 3) := by decide +kernel
theorem dX6_changeLeather_20 : decode cX6_changeLeather 20 = .ok (.iconst 0, 1) := by decide +kernel
theorem dX6_changeLeather_21 : decode cX6_changeLeather 21 = .ok (.iconst 0, 1) := by decide +kernel
theorem dX6_changeLeather_22 : decode cX6_changeLeather 22 = .ok (.invokevirtual 135, 3) := by decide +kernel
theorem dX6_changeLeather_25 : decode cX6_changeLeather 25 = .ok (.aload_n 0, 1) := by decide +kernel
theorem dX6_changeLeather_26 : decode cX6_changeLeather 26 = .ok (.getfield 28, 3) := by decide +kernel
theorem dX6_changeLeather_29 : decode cX6_changeLeather 29 = .ok (.invokevirtual 167, 3) := by decide +kernel
theorem dX6_changeLeather_32 : decode cX6_changeLeather 32 = .ok (.ireturn, 1) := by decide +kernel
