theorem dX0_init_0 : decode cX0_init 0 = .ok (.aload_n 0, 1) := by decide +kernel
theorem dX0_init_1 : decode cX0_init 1 = .ok (.invokespecial 3, 3) := by decide +kernel
theorem dX0_init_4 : decode cX0_init 4 = .ok (.aload_n 0, 1) := by decide +kernel
theorem dX0_init_5 : decode cX0_init 5 = .ok (.bipush 60, 2) := by decide +kernel
theorem dX0_init_7 : decode cX0_init 7 = .ok (.newarray .char, 2) := by decide +kernel
theorem dX0_init_9 : decode cX0_init 9 = .ok (.putfield 9, 3) := by decide +kernel
theorem dX0_init_12 : decode cX0_init 12 = .ok (.aload_n 0, 1) := by decide +kernel
theorem dX0_init_13 : decode cX0_init 13 = .ok (.bipush 60, 2) := by decide +kernel
theorem dX0_init_15 : decode cX0_init 15 = .ok (.newarray .char, 2) := by decide +kernel
theorem dX0_init_17 : decode cX0_init 17 = .ok (.putfield 15, 3) := by decide +kernel
theorem dX0_init_20 : decode cX0_init 20 = .ok (.aload_n 0, 1) := by decide +kernel
theorem dX0_init_21 : decode cX0_init 21 = .ok (.bipush 60, 2) := by decide +kernel
theorem dX0_init_23 : decode cX0_init 23 = .ok (.newarray .int, 2) := by decide +kernel
theorem dX0_init_25 : decode cX0_init 25 = .ok (.putfield 18, 3) := by decide +kernel
theorem dX0_init_28 : decode cX0_init 28 = .ok (.return_, 1) := by decide +kernel
theorem dX0_isFull_0 : decode cX0_isFull 0 = .ok (.aload_n 0, 1) := by decide +kernel
theorem dX0_isFull_1 : decode cX0_isFull 1 = .ok (.getfield 22, 3) := by decide +kernel
theorem dX0_isFull_4 : decode cX0_isFull 4 = .ok (.bipush 60, 2) := by decide +kernel
theorem dX0_isFull_6 : decode cX0_isFull 6 = .ok (.if_icmp .lt 7, 3) := by decide +kernel
theorem dX0_isFull_9 : decode cX0_isFull 9 = .ok (.iconst 1, 1) := by decide +kernel
theorem dX0_isFull_10 : decode cX0_isFull 10 = .ok (.goto 4, 3) := by decide +kernel
theorem dX0_isFull_13 : decode cX0_isFull 13 = .ok (.iconst 0, 1) := by decide +kernel
theorem dX0_isFull_14 : decode cX0_isFull 14 = .ok (.ireturn, 1) := by decide +kernel
set_option maxRecDepth 20000 in
theorem ggX0_add_X0_isFull : GoodIn wsX0_add wsX0_isFull := goodIn_r _ [7, 2, 8, 9, 10, 11, 12] (by decide +kernel) (by decide +kernel)
set_option maxRecDepth 20000 in
theorem gX0_add_X0_isFull : GoodIn wsX0_add (wsV RX0 26 RX0 yX0_isFull wsX0_isFull) := goodIn_app (goodIn_of _ (by decide +kernel)) ggX0_add_X0_isFull
theorem dX0_add_0 : decode cX0_add 0 = .ok (.aload_n 0, 1) := by decide +kernel
theorem dX0_add_1 : decode cX0_add 1 = .ok (.invokevirtual 26, 3) := by decide +kernel
theorem dX0_add_4 : decode cX0_add 4 = .ok (.ifCond .ne 23, 3) := by decide +kernel
theorem dX0_add_7 : decode cX0_add 7 = .ok (.aload_n 0, 1) := by decide +kernel
theorem dX0_add_8 : decode cX0_add 8 = .ok (.getfield 9, 3) := by decide +kernel
theorem dX0_add_11 : decode cX0_add 11 = .ok (.aload_n 0, 1) := by decide +kernel
theorem dX0_add_12 : decode cX0_add 12 = .ok (.getfield 22, 3) := by decide +kernel
theorem dX0_add_15 : decode cX0_add 15 = .ok (.iload_n 1, 1) := by decide +kernel
theorem dX0_add_16 : decode cX0_add 16 = .ok (.castore, 1) := by decide +kernel
theorem dX0_add_17 : decode cX0_add 17 = .ok (.aload_n 0, 1) := by decide +kernel
theorem dX0_add_18 : decode cX0_add 18 = .ok (.dup, 1) := by decide +kernel
theorem dX0_add_19 : decode cX0_add 19 = .ok (.getfield 22, 3) := by decide +kernel
theorem dX0_add_22 : decode cX0_add 22 = .ok (.iconst 1, 1) := by decide +kernel
theorem dX0_add_23 : decode cX0_add 23 = .ok (.iadd, 1) := by decide +kernel
theorem dX0_add_24 : decode cX0_add 24 = .ok (.putfield 22, 3) := by decide +kernel
theorem dX0_add_27 : decode cX0_add 27 = .ok (.return_, 1) := by decide +kernel
theorem dX0_empty_0 : decode cX0_empty 0 = .ok (.aload_n 0, 1) := by decide +kernel
theorem dX0_empty_1 : decode cX0_empty 1 = .ok (.iconst 0, 1) := by decide +kernel
theorem dX0_empty_2 : decode cX0_empty 2 = .ok (.putfield 22, 3) := by decide +kernel
theorem dX0_empty_5 : decode cX0_empty 5 = .ok (.return_, 1) := by decide +kernel
set_option maxRecDepth 20000 in
theorem ggX0_read_X0_expectedBehind : GoodIn wsX0_read wsX0_expectedBehind := goodIn_r _ [7, 8, 9, 6, 10, 11, 12, 13] (by decide +kernel) (by decide +kernel)
set_option maxRecDepth 20000 in
theorem gX0_read_X0_expectedBehind : GoodIn wsX0_read (va_wsS RX0 33 yX0_expectedBehind wsX0_expectedBehind) := goodIn_app (goodIn_of _ (by decide +kernel)) ggX0_read_X0_expectedBehind
set_option maxRecDepth 20000 in
theorem ggX0_read_X0_take : GoodIn wsX0_read wsX0_take := goodIn_ca (goodIn_r _ [17, 1, 18, 19, 11, 12, 6, 13, 20, 21, 22, 23, 24] (by decide +kernel) (by decide +kernel)) (goodIn_sub (fun _ h => List.mem_cons_of_mem _ (List.mem_append_right _ h)) (by decide +kernel))
set_option maxRecDepth 20000 in
theorem gX0_read_X0_take : GoodIn wsX0_read (wsV RX0 37 RX0 yX0_take wsX0_take) := goodIn_app (goodIn_of _ (by decide +kernel)) ggX0_read_X0_take
theorem dX0_read_0 : decode cX0_read 0 = .ok (.aload_n 0, 1) := by decide +kernel
theorem dX0_read_1 : decode cX0_read 1 = .ok (.iconst 0, 1) := by decide +kernel
theorem dX0_read_2 : decode cX0_read 2 = .ok (.putfield 30, 3) := by decide +kernel
theorem dX0_read_5 : decode cX0_read 5 = .ok (.iconst 0, 1) := by decide +kernel
theorem dX0_read_6 : decode cX0_read 6 = .ok (.istore_n 1, 1) := by decide +kernel
theorem dX0_read_7 : decode cX0_read 7 = .ok (.iconst 0, 1) := by decide +kernel
theorem dX0_read_8 : decode cX0_read 8 = .ok (.istore_n 2, 1) := by decide +kernel
theorem dX0_read_9 : decode cX0_read 9 = .ok (.iload_n 2, 1) := by decide +kernel
theorem dX0_read_10 : decode cX0_read 10 = .ok (.aload_n 0, 1) := by decide +kernel
theorem dX0_read_11 : decode cX0_read 11 = .ok (.getfield 22, 3) := by decide +kernel
theorem dX0_read_14 : decode cX0_read 14 = .ok (.if_icmp .ge 40, 3) := by decide +kernel
theorem dX0_read_17 : decode cX0_read 17 = .ok (.iload_n 1, 1) := by decide +kernel
theorem dX0_read_18 : decode cX0_read 18 = .ok (.aload_n 0, 1) := by decide +kernel
theorem dX0_read_19 : decode cX0_read 19 = .ok (.getfield 9, 3) := by decide +kernel
theorem dX0_read_22 : decode cX0_read 22 = .ok (.iload_n 2, 1) := by decide +kernel
theorem dX0_read_23 : decode cX0_read 23 = .ok (.caload, 1) := by decide +kernel
theorem dX0_read_24 : decode cX0_read 24 = .ok (.invokestatic 33, 3) := by decide +kernel
theorem dX0_read_27 : decode cX0_read 27 = .ok (.istore_n 3, 1) := by decide +kernel
theorem dX0_read_28 : decode cX0_read 28 = .ok (.iload_n 3, 1) := by decide +kernel
theorem dX0_read_29 : decode cX0_read 29 = .ok (.iconst (-1), 1) := by decide +kernel
theorem dX0_read_30 : decode cX0_read 30 = .ok (.if_icmp .ne 5, 3) := by decide +kernel
theorem dX0_read_33 : decode cX0_read 33 = .ok (.iload_n 2, 1) := by decide +kernel
theorem dX0_read_34 : decode cX0_read 34 = .ok (.ireturn, 1) := by decide +kernel
theorem dX0_read_35 : decode cX0_read 35 = .ok (.aload_n 0, 1) := by decide +kernel
theorem dX0_read_36 : decode cX0_read 36 = .ok (.iload_n 1, 1) := by decide +kernel
theorem dX0_read_37 : decode cX0_read 37 = .ok (.aload_n 0, 1) := by decide +kernel
theorem dX0_read_38 : decode cX0_read 38 = .ok (.getfield 9, 3) := by decide +kernel
theorem dX0_read_41 : decode cX0_read 41 = .ok (.iload_n 2, 1) := by decide +kernel
theorem dX0_read_42 : decode cX0_read 42 = .ok (.caload, 1) := by decide +kernel
theorem dX0_read_43 : decode cX0_read 43 = .ok (.invokevirtual 37, 3) := by decide +kernel
theorem dX0_read_46 : decode cX0_read 46 = .ok (.iload_n 3, 1) := by decide +kernel
theorem dX0_read_47 : decode cX0_read 47 = .ok (.istore_n 1, 1) := by decide +kernel
theorem dX0_read_48 : decode cX0_read 48 = .ok (.iinc 2 1, 3) := by decide +kernel
theorem dX0_read_51 : decode cX0_read 51 = .ok (.goto (-42), 3) := by decide +kernel
theorem dX0_read_54 : decode cX0_read 54 = .ok (.iload_n 1, 1) := by decide +kernel
theorem dX0_read_55 : decode cX0_read 55 = .ok (.iconst 3, 1) := by decide +kernel
theorem dX0_read_56 : decode cX0_read 56 = .ok (.if_icmp .eq 8, 3) := by decide +kernel
theorem dX0_read_59 : decode cX0_read 59 = .ok (.iload_n 1, 1) := by decide +kernel
theorem dX0_read_60 : decode cX0_read 60 = .ok (.iconst 4, 1) := by decide +kernel
theorem dX0_read_61 : decode cX0_read 61 = .ok (.if_icmp .ne 7, 3) := by decide +kernel
theorem dX0_read_64 : decode cX0_read 64 = .ok (.iconst (-1), 1) := by decide +kernel
theorem dX0_read_65 : decode cX0_read 65 = .ok (.goto 7, 3) := by decide +kernel
theorem dX0_read_68 : decode cX0_read 68 = .ok (.aload_n 0, 1) := by decide +kernel
theorem dX0_read_69 : decode cX0_read 69 = .ok (.getfield 22, 3) := by decide +kernel
theorem dX0_read_72 : decode cX0_read 72 = .ok (.ireturn, 1) := by decide +kernel
set_option maxRecDepth 20000 in
theorem ggX0_expectedBehind_X0_expectedBehindLetter : GoodIn wsX0_expectedBehind wsX0_expectedBehindLetter := goodIn_r _ [4] (by decide +kernel) (by decide +kernel)
set_option maxRecDepth 20000 in
theorem gX0_expectedBehind_X0_expectedBehindLetter : GoodIn wsX0_expectedBehind (va_wsS RX0 41 yX0_expectedBehindLetter wsX0_expectedBehindLetter) := goodIn_app (goodIn_of _ (by decide +kernel)) ggX0_expectedBehind_X0_expectedBehindLetter
set_option maxRecDepth 20000 in
theorem ggX0_expectedBehind_X0_isDigit : GoodIn wsX0_expectedBehind wsX0_isDigit := goodIn_r _ [7] (by decide +kernel) (by decide +kernel)
set_option maxRecDepth 20000 in
theorem gX0_expectedBehind_X0_isDigit : GoodIn wsX0_expectedBehind (va_wsS RX0 45 yX0_isDigit wsX0_isDigit) := goodIn_app (goodIn_of _ (by decide +kernel)) ggX0_expectedBehind_X0_isDigit
theorem dX0_expectedBehind_0 : decode cX0_expectedBehind 0 = .ok (.iload_n 0, 1) := by decide +kernel
theorem dX0_expectedBehind_1 : decode cX0_expectedBehind 1 = .ok (.tableswitch 83 0 3 #[31, 36, 49, 62], 31) := by decide +kernel
theorem dX0_expectedBehind_32 : decode cX0_expectedBehind 32 = .ok (.iload_n 1, 1) := by decide +kernel
theorem dX0_expectedBehind_33 : decode cX0_expectedBehind 33 = .ok (.invokestatic 41, 3) := by decide +kernel
theorem dX0_expectedBehind_36 : decode cX0_expectedBehind 36 = .ok (.ireturn, 1) := by decide +kernel
theorem dX0_expectedBehind_37 : decode cX0_expectedBehind 37 = .ok (.iload_n 1, 1) := by decide +kernel
theorem dX0_expectedBehind_38 : decode cX0_expectedBehind 38 = .ok (.invokestatic 45, 3) := by decide +kernel
theorem dX0_expectedBehind_41 : decode cX0_expectedBehind 41 = .ok (.ifCond .eq 7, 3) := by decide +kernel
theorem dX0_expectedBehind_44 : decode cX0_expectedBehind 44 = .ok (.iconst 4, 1) := by decide +kernel
theorem dX0_expectedBehind_45 : decode cX0_expectedBehind 45 = .ok (.goto 4, 3) := by decide +kernel
theorem dX0_expectedBehind_48 : decode cX0_expectedBehind 48 = .ok (.iconst (-1), 1) := by decide +kernel
theorem dX0_expectedBehind_49 : decode cX0_expectedBehind 49 = .ok (.ireturn, 1) := by decide +kernel
theorem dX0_expectedBehind_50 : decode cX0_expectedBehind 50 = .ok (.iload_n 1, 1) := by decide +kernel
theorem dX0_expectedBehind_51 : decode cX0_expectedBehind 51 = .ok (.invokestatic 45, 3) := by decide +kernel
theorem dX0_expectedBehind_54 : decode cX0_expectedBehind 54 = .ok (.ifCond .eq 7, 3) := by decide +kernel
theorem dX0_expectedBehind_57 : decode cX0_expectedBehind 57 = .ok (.iconst 3, 1) := by decide +kernel
theorem dX0_expectedBehind_58 : decode cX0_expectedBehind 58 = .ok (.goto 4, 3) := by decide +kernel
theorem dX0_expectedBehind_61 : decode cX0_expectedBehind 61 = .ok (.iconst (-1), 1) := by decide +kernel
theorem dX0_expectedBehind_62 : decode cX0_expectedBehind 62 = .ok (.ireturn, 1) := by decide +kernel
theorem dX0_expectedBehind_63 : decode cX0_expectedBehind 63 = .ok (.iload_n 1, 1) := by decide +kernel
theorem dX0_expectedBehind_64 : decode cX0_expectedBehind 64 = .ok (.invokestatic 45, 3) := by decide +kernel
theorem dX0_expectedBehind_67 : decode cX0_expectedBehind 67 = .ok (.ifCond .eq 5, 3) := by decide +kernel
theorem dX0_expectedBehind_70 : decode cX0_expectedBehind 70 = .ok (.iconst 4, 1) := by decide +kernel
theorem dX0_expectedBehind_71 : decode cX0_expectedBehind 71 = .ok (.ireturn, 1) := by decide +kernel
theorem dX0_expectedBehind_72 : decode cX0_expectedBehind 72 = .ok (.iload_n 1, 1) := by decide +kernel
theorem dX0_expectedBehind_73 : decode cX0_expectedBehind 73 = .ok (.bipush 59, 2) := by decide +kernel
theorem dX0_expectedBehind_75 : decode cX0_expectedBehind 75 = .ok (.if_icmp .ne 7, 3) := by decide +kernel
theorem dX0_expectedBehind_78 : decode cX0_expectedBehind 78 = .ok (.iconst 0, 1) := by decide +kernel
theorem dX0_expectedBehind_79 : decode cX0_expectedBehind 79 = .ok (.goto 4, 3) := by decide +kernel
theorem dX0_expectedBehind_82 : decode cX0_expectedBehind 82 = .ok (.iconst (-1), 1) := by decide +kernel
theorem dX0_expectedBehind_83 : decode cX0_expectedBehind 83 = .ok (.ireturn, 1) := by decide +kernel
theorem dX0_expectedBehind_84 : decode cX0_expectedBehind 84 = .ok (.iload_n 1, 1) := by decide +kernel
theorem dX0_expectedBehind_85 : decode cX0_expectedBehind 85 = .ok (.bipush 59, 2) := by decide +kernel
theorem dX0_expectedBehind_87 : decode cX0_expectedBehind 87 = .ok (.if_icmp .ne 7, 3) := by decide +kernel
theorem dX0_expectedBehind_90 : decode cX0_expectedBehind 90 = .ok (.iconst 0, 1) := by decide +kernel
theorem dX0_expectedBehind_91 : decode cX0_expectedBehind 91 = .ok (.goto 4, 3) := by decide +kernel
theorem dX0_expectedBehind_94 : decode cX0_expectedBehind 94 = .ok (.iconst (-1), 1) := by decide +kernel
theorem dX0_expectedBehind_95 : decode cX0_expectedBehind 95 = .ok (.ireturn, 1) := by decide +kernel
theorem dX0_expectedBehindLetter_0 : decode cX0_expectedBehindLetter 0 = .ok (.iload_n 0, 1) := by decide +kernel
theorem dX0_expectedBehindLetter_1 : decode cX0_expectedBehindLetter 1 = .ok (.tableswitch 97 100 118 #[93, 97, 97, 97, 97, 97, 91, 97, 91, 97, 93, 97, 95, 97, 91, 97, 97, 97, 95], 91) := by decide +kernel
theorem dX0_expectedBehindLetter_92 : decode cX0_expectedBehindLetter 92 = .ok (.iconst 1, 1) := by decide +kernel
theorem dX0_expectedBehindLetter_93 : decode cX0_expectedBehindLetter 93 = .ok (.ireturn, 1) := by decide +kernel
theorem dX0_expectedBehindLetter_94 : decode cX0_expectedBehindLetter 94 = .ok (.iconst 2, 1) := by decide +kernel
theorem dX0_expectedBehindLetter_95 : decode cX0_expectedBehindLetter 95 = .ok (.ireturn, 1) := by decide +kernel
theorem dX0_expectedBehindLetter_96 : decode cX0_expectedBehindLetter 96 = .ok (.iconst 4, 1) := by decide +kernel
theorem dX0_expectedBehindLetter_97 : decode cX0_expectedBehindLetter 97 = .ok (.ireturn, 1) := by decide +kernel
theorem dX0_expectedBehindLetter_98 : decode cX0_expectedBehindLetter 98 = .ok (.iconst (-1), 1) := by decide +kernel
theorem dX0_expectedBehindLetter_99 : decode cX0_expectedBehindLetter 99 = .ok (.ireturn, 1) := by decide +kernel
set_option maxRecDepth 20000 in
theorem ggX0_take_X0_isDigit : GoodIn wsX0_take wsX0_isDigit := goodIn_r _ [7] (by decide +kernel) (by decide +kernel)
set_option maxRecDepth 20000 in
theorem gX0_take_X0_isDigit : GoodIn wsX0_take (va_wsS RX0 45 yX0_isDigit wsX0_isDigit) := goodIn_app (goodIn_of _ (by decide +kernel)) ggX0_take_X0_isDigit
theorem dX0_take_0 : decode cX0_take 0 = .ok (.iload_n 1, 1) := by decide +kernel
theorem dX0_take_1 : decode cX0_take 1 = .ok (.ifCond .ne 45, 3) := by decide +kernel
theorem dX0_take_4 : decode cX0_take 4 = .ok (.aload_n 0, 1) := by decide +kernel
theorem dX0_take_5 : decode cX0_take 5 = .ok (.getfield 30, 3) := by decide +kernel
theorem dX0_take_8 : decode cX0_take 8 = .ok (.bipush 60, 2) := by decide +kernel
theorem dX0_take_10 : decode cX0_take 10 = .ok (.if_icmp .ge 36, 3) := by decide +kernel
theorem dX0_take_13 : decode cX0_take 13 = .ok (.aload_n 0, 1) := by decide +kernel
theorem dX0_take_14 : decode cX0_take 14 = .ok (.getfield 15, 3) := by decide +kernel
theorem dX0_take_17 : decode cX0_take 17 = .ok (.aload_n 0, 1) := by decide +kernel
theorem dX0_take_18 : decode cX0_take 18 = .ok (.getfield 30, 3) := by decide +kernel
theorem dX0_take_21 : decode cX0_take 21 = .ok (.iload_n 2, 1) := by decide +kernel
theorem dX0_take_22 : decode cX0_take 22 = .ok (.castore, 1) := by decide +kernel
theorem dX0_take_23 : decode cX0_take 23 = .ok (.aload_n 0, 1) := by decide +kernel
theorem dX0_take_24 : decode cX0_take 24 = .ok (.getfield 18, 3) := by decide +kernel
theorem dX0_take_27 : decode cX0_take 27 = .ok (.aload_n 0, 1) := by decide +kernel
theorem dX0_take_28 : decode cX0_take 28 = .ok (.getfield 30, 3) := by decide +kernel
theorem dX0_take_31 : decode cX0_take 31 = .ok (.iconst 0, 1) := by decide +kernel
theorem dX0_take_32 : decode cX0_take 32 = .ok (.iastore, 1) := by decide +kernel
theorem dX0_take_33 : decode cX0_take 33 = .ok (.aload_n 0, 1) := by decide +kernel
theorem dX0_take_34 : decode cX0_take 34 = .ok (.dup, 1) := by decide +kernel
theorem dX0_take_35 : decode cX0_take 35 = .ok (.getfield 30, 3) := by decide +kernel
theorem dX0_take_38 : decode cX0_take 38 = .ok (.iconst 1, 1) := by decide +kernel
theorem dX0_take_39 : decode cX0_take 39 = .ok (.iadd, 1) := by decide +kernel
theorem dX0_take_40 : decode cX0_take 40 = .ok (.putfield 30, 3) := by decide +kernel
theorem dX0_take_43 : decode cX0_take 43 = .ok (.goto 47, 3) := by decide +kernel
theorem dX0_take_46 : decode cX0_take 46 = .ok (.iload_n 2, 1) := by decide +kernel
theorem dX0_take_47 : decode cX0_take 47 = .ok (.invokestatic 45, 3) := by decide +kernel
theorem dX0_take_50 : decode cX0_take 50 = .ok (.ifCond .eq 40, 3) := by decide +kernel
theorem dX0_take_53 : decode cX0_take 53 = .ok (.aload_n 0, 1) := by decide +kernel
theorem dX0_take_54 : decode cX0_take 54 = .ok (.getfield 30, 3) := by decide +kernel
theorem dX0_take_57 : decode cX0_take 57 = .ok (.ifCond .le 33, 3) := by decide +kernel
theorem dX0_take_60 : decode cX0_take 60 = .ok (.aload_n 0, 1) := by decide +kernel
theorem dX0_take_61 : decode cX0_take 61 = .ok (.getfield 18, 3) := by decide +kernel
theorem dX0_take_64 : decode cX0_take 64 = .ok (.aload_n 0, 1) := by decide +kernel
theorem dX0_take_65 : decode cX0_take 65 = .ok (.getfield 30, 3) := by decide +kernel
theorem dX0_take_68 : decode cX0_take 68 = .ok (.iconst 1, 1) := by decide +kernel
theorem dX0_take_69 : decode cX0_take 69 = .ok (.isub, 1) := by decide +kernel
theorem dX0_take_70 : decode cX0_take 70 = .ok (.aload_n 0, 1) := by decide +kernel
theorem dX0_take_71 : decode cX0_take 71 = .ok (.getfield 18, 3) := by decide +kernel
theorem dX0_take_74 : decode cX0_take 74 = .ok (.aload_n 0, 1) := by decide +kernel
theorem dX0_take_75 : decode cX0_take 75 = .ok (.getfield 30, 3) := by decide +kernel
theorem dX0_take_78 : decode cX0_take 78 = .ok (.iconst 1, 1) := by decide +kernel
theorem dX0_take_79 : decode cX0_take 79 = .ok (.isub, 1) := by decide +kernel
theorem dX0_take_80 : decode cX0_take 80 = .ok (.iaload, 1) := by decide +kernel
theorem dX0_take_81 : decode cX0_take 81 = .ok (.bipush 10, 2) := by decide +kernel
theorem dX0_take_83 : decode cX0_take 83 = .ok (.imul, 1) := by decide +kernel
theorem dX0_take_84 : decode cX0_take 84 = .ok (.iload_n 2, 1) := by decide +kernel
theorem dX0_take_85 : decode cX0_take 85 = .ok (.bipush 48, 2) := by decide +kernel
theorem dX0_take_87 : decode cX0_take 87 = .ok (.isub, 1) := by decide +kernel
theorem dX0_take_88 : decode cX0_take 88 = .ok (.iadd, 1) := by decide +kernel
theorem dX0_take_89 : decode cX0_take 89 = .ok (.iastore, 1) := by decide +kernel
theorem dX0_take_90 : decode cX0_take 90 = .ok (.return_, 1) := by decide +kernel
theorem dX0_isDigit_0 : decode cX0_isDigit 0 = .ok (.iload_n 0, 1) := by decide +kernel
theorem dX0_isDigit_1 : decode cX0_isDigit 1 = .ok (.bipush 48, 2) := by decide +kernel
theorem dX0_isDigit_3 : decode cX0_isDigit 3 = .ok (.if_icmp .lt 13, 3) := by decide +kernel
theorem dX0_isDigit_6 : decode cX0_isDigit 6 = .ok (.iload_n 0, 1) := by decide +kernel
theorem dX0_isDigit_7 : decode cX0_isDigit 7 = .ok (.bipush 57, 2) := by decide +kernel
theorem dX0_isDigit_9 : decode cX0_isDigit 9 = .ok (.if_icmp .gt 7, 3) := by decide +kernel
theorem dX0_isDigit_12 : decode cX0_isDigit 12 = .ok (.iconst 1, 1) := by decide +kernel
theorem dX0_isDigit_13 : decode cX0_isDigit 13 = .ok (.goto 4, 3) := by decide +kernel
theorem dX0_isDigit_16 : decode cX0_isDigit 16 = .ok (.iconst 0, 1) := by decide +kernel
theorem dX0_isDigit_17 : decode cX0_isDigit 17 = .ok (.ireturn, 1) := by decide +kernel
set_option maxRecDepth 20000 in
theorem ggX1_init_X6_init : GoodIn wsX1_init wsX6_init := goodIn_r _ [9, 10, 2, 3, 11, 12, 13, 14, 15, 16, 17, 18, 19, 20, 21, 22, 23, 24, 25, 26, 27, 28, 29, 30, 31, 32, 33, 34, 35, 36, 37, 38, 39, 40, 41, 42, 43, 44, 45, 46, 47, 48, 49, 50, 51, 52, 53, 54, 65, 66, 67, 68, 69, 70, 71, 72, 73, 58, 59, 60, 61, 62, 63, 64, 74, 75, 76, 77, 78, 79, 80, 81, 82, 83, 84, 85, 86, 87, 88, 89] (by decide +kernel) (by decide +kernel)
set_option maxRecDepth 20000 in
theorem gX1_init_X6_init_n17 : GoodIn wsX1_init (wsX6_init) := ggX1_init_X6_init
theorem dX1_init_0 : decode cX1_init 0 = .ok (.aload_n 0, 1) := by decide +kernel
theorem dX1_init_1 : decode cX1_init 1 = .ok (.invokespecial 3, 3) := by decide +kernel
theorem dX1_init_4 : decode cX1_init 4 = .ok (.aload_n 0, 1) := by decide +kernel
theorem dX1_init_5 : decode cX1_init 5 = .ok (.bipush 8, 2) := by decide +kernel
theorem dX1_init_7 : decode cX1_init 7 = .ok (.anewarray 9, 3) := by decide +kernel
theorem dX1_init_10 : decode cX1_init 10 = .ok (.putfield 11, 3) := by decide +kernel
theorem dX1_init_13 : decode cX1_init 13 = .ok (.iconst 0, 1) := by decide +kernel
theorem dX1_init_14 : decode cX1_init 14 = .ok (.istore_n 1, 1) := by decide +kernel
theorem dX1_init_15 : decode cX1_init 15 = .ok (.iload_n 1, 1) := by decide +kernel
theorem dX1_init_16 : decode cX1_init 16 = .ok (.bipush 8, 2) := by decide +kernel
theorem dX1_init_18 : decode cX1_init 18 = .ok (.if_icmp .ge 22, 3) := by decide +kernel
theorem dX1_init_21 : decode cX1_init 21 = .ok (.aload_n 0, 1) := by decide +kernel
theorem dX1_init_22 : decode cX1_init 22 = .ok (.getfield 11, 3) := by decide +kernel
theorem dX1_init_25 : decode cX1_init 25 = .ok (.iload_n 1, 1) := by decide +kernel
theorem dX1_init_26 : decode cX1_init 26 = .ok (.new 9, 3) := by decide +kernel
theorem dX1_init_29 : decode cX1_init 29 = .ok (.dup, 1) := by decide +kernel
theorem dX1_init_30 : decode cX1_init 30 = .ok (.invokespecial 17, 3) := by decide +kernel
theorem dX1_init_33 : decode cX1_init 33 = .ok (.aastore, 1) := by decide +kernel
theorem dX1_init_34 : decode cX1_init 34 = .ok (.iinc 1 1, 3) := by decide +kernel
theorem dX1_init_37 : decode cX1_init 37 = .ok (.goto (-22), 3) := by decide +kernel
theorem dX1_init_40 : decode cX1_init 40 = .ok (.return_, 1) := by decide +kernel
set_option maxRecDepth 20000 in
theorem ggX1_keep_X6_copyFrom : GoodIn wsX1_keep wsX6_copyFrom := goodIn_ca (goodIn_r _ [11, 12, 13, 14, 15, 16, 17, 18, 19, 20, 21, 22, 23, 24, 25, 26, 27, 28, 29, 30, 31, 32, 33, 34, 35, 36, 37, 38, 39, 40, 41, 42, 43, 44, 45, 46, 47, 48, 49, 50, 51, 52, 53, 54, 55, 56, 57, 58, 59, 60, 61, 62, 63, 64, 65, 69, 70, 71, 72, 73, 74, 75, 76, 77, 78, 79, 80, 81, 82, 83, 84, 85, 86, 87, 88, 89, 90, 91, 92, 93, 94, 95, 96, 97, 98, 99, 100] (by decide +kernel) (by decide +kernel)) (goodIn_sub (fun _ h => List.mem_cons_of_mem _ (List.mem_append_right _ h)) (by decide +kernel))
set_option maxRecDepth 20000 in
theorem gX1_keep_X6_copyFrom_n22 : GoodIn wsX1_keep (wsX6_copyFrom) := ggX1_keep_X6_copyFrom
theorem dX1_keep_0 : decode cX1_keep 0 = .ok (.aload_n 0, 1) := by decide +kernel
theorem dX1_keep_1 : decode cX1_keep 1 = .ok (.getfield 11, 3) := by decide +kernel
theorem dX1_keep_4 : decode cX1_keep 4 = .ok (.aload_n 0, 1) := by decide +kernel
theorem dX1_keep_5 : decode cX1_keep 5 = .ok (.getfield 18, 3) := by decide +kernel
theorem dX1_keep_8 : decode cX1_keep 8 = .ok (.aaload, 1) := by decide +kernel
theorem dX1_keep_9 : decode cX1_keep 9 = .ok (.aload_n 1, 1) := by decide +kernel
theorem dX1_keep_10 : decode cX1_keep 10 = .ok (.invokevirtual 22, 3) := by decide +kernel
theorem dX1_keep_13 : decode cX1_keep 13 = .ok (.aload_n 0, 1) := by decide +kernel
theorem dX1_keep_14 : decode cX1_keep 14 = .ok (.aload_n 0, 1) := by decide +kernel
theorem dX1_keep_15 : decode cX1_keep 15 = .ok (.getfield 18, 3) := by decide +kernel
theorem dX1_keep_18 : decode cX1_keep 18 = .ok (.iconst 1, 1) := by decide +kernel
theorem dX1_keep_19 : decode cX1_keep 19 = .ok (.iadd, 1) := by decide +kernel
theorem dX1_keep_20 : decode cX1_keep 20 = .ok (.bipush 8, 2) := by decide +kernel
theorem dX1_keep_22 : decode cX1_keep 22 = .ok (.irem, 1) := by decide +kernel
theorem dX1_keep_23 : decode cX1_keep 23 = .ok (.putfield 18, 3) := by decide +kernel
theorem dX1_keep_26 : decode cX1_keep 26 = .ok (.aload_n 0, 1) := by decide +kernel
theorem dX1_keep_27 : decode cX1_keep 27 = .ok (.bipush 8, 2) := by decide +kernel
theorem dX1_keep_29 : decode cX1_keep 29 = .ok (.aload_n 0, 1) := by decide +kernel
theorem dX1_keep_30 : decode cX1_keep 30 = .ok (.getfield 26, 3) := by decide +kernel
theorem dX1_keep_33 : decode cX1_keep 33 = .ok (.iconst 1, 1) := by decide +kernel
theorem dX1_keep_34 : decode cX1_keep 34 = .ok (.iadd, 1) := by decide +kernel
theorem dX1_keep_35 : decode cX1_keep 35 = .ok (.invokestatic 29, 3) := by decide +kernel
theorem dX1_keep_38 : decode cX1_keep 38 = .ok (.putfield 26, 3) := by decide +kernel
theorem dX1_keep_41 : decode cX1_keep 41 = .ok (.return_, 1) := by decide +kernel
set_option maxRecDepth 20000 in
theorem ggX1_takeBack_X6_copyFrom : GoodIn wsX1_takeBack wsX6_copyFrom := goodIn_ca (goodIn_r _ [7, 8, 9, 10, 11, 12, 13, 14, 15, 16, 17, 18, 19, 20, 21, 22, 23, 24, 25, 26, 27, 28, 29, 30, 31, 32, 33, 34, 35, 36, 37, 38, 39, 40, 41, 42, 43, 44, 45, 46, 47, 48, 49, 50, 51, 52, 53, 54, 55, 56, 57, 58, 59, 60, 61, 65, 66, 67, 68, 69, 70, 71, 72, 73, 74, 75, 76, 77, 78, 79, 80, 81, 82, 83, 84, 85, 86, 87, 88, 89, 90, 91, 92, 93, 94, 95, 96] (by decide +kernel) (by decide +kernel)) (goodIn_sub (fun _ h => List.mem_cons_of_mem _ (List.mem_append_right _ h)) (by decide +kernel))
set_option maxRecDepth 20000 in
theorem gX1_takeBack_X6_copyFrom_n22 : GoodIn wsX1_takeBack (wsX6_copyFrom) := ggX1_takeBack_X6_copyFrom
theorem dX1_takeBack_0 : decode cX1_takeBack 0 = .ok (.aload_n 0, 1) := by decide +kernel
theorem dX1_takeBack_1 : decode cX1_takeBack 1 = .ok (.getfield 26, 3) := by decide +kernel
theorem dX1_takeBack_4 : decode cX1_takeBack 4 = .ok (.ifCond .le 42, 3) := by decide +kernel
theorem dX1_takeBack_7 : decode cX1_takeBack 7 = .ok (.aload_n 0, 1) := by decide +kernel
theorem dX1_takeBack_8 : decode cX1_takeBack 8 = .ok (.aload_n 0, 1) := by decide +kernel
theorem dX1_takeBack_9 : decode cX1_takeBack 9 = .ok (.getfield 18, 3) := by decide +kernel
theorem dX1_takeBack_12 : decode cX1_takeBack 12 = .ok (.bipush 8, 2) := by decide +kernel
theorem dX1_takeBack_14 : decode cX1_takeBack 14 = .ok (.iadd, 1) := by decide +kernel
theorem dX1_takeBack_15 : decode cX1_takeBack 15 = .ok (.iconst 1, 1) := by decide +kernel
theorem dX1_takeBack_16 : decode cX1_takeBack 16 = .ok (.isub, 1) := by decide +kernel
theorem dX1_takeBack_17 : decode cX1_takeBack 17 = .ok (.bipush 8, 2) := by decide +kernel
theorem dX1_takeBack_19 : decode cX1_takeBack 19 = .ok (.irem, 1) := by decide +kernel
theorem dX1_takeBack_20 : decode cX1_takeBack 20 = .ok (.putfield 18, 3) := by decide +kernel
theorem dX1_takeBack_23 : decode cX1_takeBack 23 = .ok (.aload_n 0, 1) := by decide +kernel
theorem dX1_takeBack_24 : decode cX1_takeBack 24 = .ok (.dup, 1) := by decide +kernel
theorem dX1_takeBack_25 : decode cX1_takeBack 25 = .ok (.getfield 26, 3) := by decide +kernel
theorem dX1_takeBack_28 : decode cX1_takeBack 28 = .ok (.iconst 1, 1) := by decide +kernel
theorem dX1_takeBack_29 : decode cX1_takeBack 29 = .ok (.isub, 1) := by decide +kernel
theorem dX1_takeBack_30 : decode cX1_takeBack 30 = .ok (.putfield 26, 3) := by decide +kernel
theorem dX1_takeBack_33 : decode cX1_takeBack 33 = .ok (.aload_n 1, 1) := by decide +kernel
theorem dX1_takeBack_34 : decode cX1_takeBack 34 = .ok (.aload_n 0, 1) := by decide +kernel
theorem dX1_takeBack_35 : decode cX1_takeBack 35 = .ok (.getfield 11, 3) := by decide +kernel
theorem dX1_takeBack_38 : decode cX1_takeBack 38 = .ok (.aload_n 0, 1) := by decide +kernel
theorem dX1_takeBack_39 : decode cX1_takeBack 39 = .ok (.getfield 18, 3) := by decide +kernel
theorem dX1_takeBack_42 : decode cX1_takeBack 42 = .ok (.aaload, 1) := by decide +kernel
theorem dX1_takeBack_43 : decode cX1_takeBack 43 = .ok (.invokevirtual 22, 3) := by decide +kernel
theorem dX1_takeBack_46 : decode cX1_takeBack 46 = .ok (.return_, 1) := by decide +kernel
theorem dX1_forget_0 : decode cX1_forget 0 = .ok (.aload_n 0, 1) := by decide +kernel
theorem dX1_forget_1 : decode cX1_forget 1 = .ok (.iconst 0, 1) := by decide +kernel
theorem dX1_forget_2 : decode cX1_forget 2 = .ok (.putfield 26, 3) := by decide +kernel
theorem dX1_forget_5 : decode cX1_forget 5 = .ok (.return_, 1) := by decide +kernel
theorem dX2_init_0 : decode cX2_init 0 = .ok (.aload_n 0, 1) := by decide +kernel
theorem dX2_init_1 : decode cX2_init 1 = .ok (.invokespecial 3, 3) := by decide +kernel
theorem dX2_init_4 : decode cX2_init 4 = .ok (.aload_n 0, 1) := by decide +kernel
theorem dX2_init_5 : decode cX2_init 5 = .ok (.bipush 8, 2) := by decide +kernel
theorem dX2_init_7 : decode cX2_init 7 = .ok (.newarray .int, 2) := by decide +kernel
theorem dX2_init_9 : decode cX2_init 9 = .ok (.putfield 9, 3) := by decide +kernel
theorem dX2_init_12 : decode cX2_init 12 = .ok (.aload_n 0, 1) := by decide +kernel
theorem dX2_init_13 : decode cX2_init 13 = .ok (.bipush 8, 2) := by decide +kernel
theorem dX2_init_15 : decode cX2_init 15 = .ok (.newarray .int, 2) := by decide +kernel
theorem dX2_init_17 : decode cX2_init 17 = .ok (.putfield 15, 3) := by decide +kernel
theorem dX2_init_20 : decode cX2_init 20 = .ok (.aload_n 0, 1) := by decide +kernel
theorem dX2_init_21 : decode cX2_init 21 = .ok (.bipush 8, 2) := by decide +kernel
theorem dX2_init_23 : decode cX2_init 23 = .ok (.newarray .int, 2) := by decide +kernel
theorem dX2_init_25 : decode cX2_init 25 = .ok (.putfield 18, 3) := by decide +kernel
theorem dX2_init_28 : decode cX2_init 28 = .ok (.aload_n 0, 1) := by decide +kernel
theorem dX2_init_29 : decode cX2_init 29 = .ok (.bipush 8, 2) := by decide +kernel
theorem dX2_init_31 : decode cX2_init 31 = .ok (.newarray .int, 2) := by decide +kernel
theorem dX2_init_33 : decode cX2_init 33 = .ok (.putfield 21, 3) := by decide +kernel
theorem dX2_init_36 : decode cX2_init 36 = .ok (.aload_n 0, 1) := by decide +kernel
theorem dX2_init_37 : decode cX2_init 37 = .ok (.bipush 8, 2) := by decide +kernel
theorem dX2_init_39 : decode cX2_init 39 = .ok (.newarray .int, 2) := by decide +kernel
theorem dX2_init_41 : decode cX2_init 41 = .ok (.putfield 24, 3) := by decide +kernel
theorem dX2_init_44 : decode cX2_init 44 = .ok (.aload_n 0, 1) := by decide +kernel
theorem dX2_init_45 : decode cX2_init 45 = .ok (.bipush 8, 2) := by decide +kernel
theorem dX2_init_47 : decode cX2_init 47 = .ok (.newarray .int, 2) := by decide +kernel
theorem dX2_init_49 : decode cX2_init 49 = .ok (.putfield 27, 3) := by decide +kernel
theorem dX2_init_52 : decode cX2_init 52 = .ok (.aload_n 0, 1) := by decide +kernel
theorem dX2_init_53 : decode cX2_init 53 = .ok (.bipush 8, 2) := by decide +kernel
theorem dX2_init_55 : decode cX2_init 55 = .ok (.bipush 8, 2) := by decide +kernel
theorem dX2_init_57 : decode cX2_init 57 = .ok (.multianewarray 30 2, 4) := by decide +kernel
theorem dX2_init_61 : decode cX2_init 61 = .ok (.putfield 32, 3) := by decide +kernel
theorem dX2_init_64 : decode cX2_init 64 = .ok (.return_, 1) := by decide +kernel
theorem dX2_copyFrom_0 : decode cX2_copyFrom 0 = .ok (.aload_n 0, 1) := by decide +kernel
theorem dX2_copyFrom_1 : decode cX2_copyFrom 1 = .ok (.aload_n 1, 1) := by decide +kernel
theorem dX2_copyFrom_2 : decode cX2_copyFrom 2 = .ok (.getfield 35, 3) := by decide +kernel
theorem dX2_copyFrom_5 : decode cX2_copyFrom 5 = .ok (.putfield 35, 3) := by decide +kernel
theorem dX2_copyFrom_8 : decode cX2_copyFrom 8 = .ok (.aload_n 0, 1) := by decide +kernel
theorem dX2_copyFrom_9 : decode cX2_copyFrom 9 = .ok (.aload_n 1, 1) := by decide +kernel
theorem dX2_copyFrom_10 : decode cX2_copyFrom 10 = .ok (.getfield 39, 3) := by decide +kernel
theorem dX2_copyFrom_13 : decode cX2_copyFrom 13 = .ok (.putfield 39, 3) := by decide +kernel
theorem dX2_copyFrom_16 : decode cX2_copyFrom 16 = .ok (.iconst 0, 1) := by decide +kernel
theorem dX2_copyFrom_17 : decode cX2_copyFrom 17 = .ok (.istore_n 2, 1) := by decide +kernel
theorem dX2_copyFrom_18 : decode cX2_copyFrom 18 = .ok (.iload_n 2, 1) := by decide +kernel
theorem dX2_copyFrom_19 : decode cX2_copyFrom 19 = .ok (.bipush 8, 2) := by decide +kernel
theorem dX2_copyFrom_21 : decode cX2_copyFrom 21 = .ok (.if_icmp .ge 100, 3) := by decide +kernel
theorem dX2_copyFrom_24 : decode cX2_copyFrom 24 = .ok (.aload_n 0, 1) := by decide +kernel
theorem dX2_copyFrom_25 : decode cX2_copyFrom 25 = .ok (.getfield 9, 3) := by decide +kernel
theorem dX2_copyFrom_28 : decode cX2_copyFrom 28 = .ok (.iload_n 2, 1) := by decide +kernel
theorem dX2_copyFrom_29 : decode cX2_copyFrom 29 = .ok (.aload_n 1, 1) := by decide +kernel
theorem dX2_copyFrom_30 : decode cX2_copyFrom 30 = .ok (.getfield 9, 3) := by decide +kernel
theorem dX2_copyFrom_33 : decode cX2_copyFrom 33 = .ok (.iload_n 2, 1) := by decide +kernel
theorem dX2_copyFrom_34 : decode cX2_copyFrom 34 = .ok (.iaload, 1) := by decide +kernel
theorem dX2_copyFrom_35 : decode cX2_copyFrom 35 = .ok (.iastore, 1) := by decide +kernel
theorem dX2_copyFrom_36 : decode cX2_copyFrom 36 = .ok (.aload_n 0, 1) := by decide +kernel
theorem dX2_copyFrom_37 : decode cX2_copyFrom 37 = .ok (.getfield 15, 3) := by decide +kernel
theorem dX2_copyFrom_40 : decode cX2_copyFrom 40 = .ok (.iload_n 2, 1) := by decide +kernel
theorem dX2_copyFrom_41 : decode cX2_copyFrom 41 = .ok (.aload_n 1, 1) := by decide +kernel
theorem dX2_copyFrom_42 : decode cX2_copyFrom 42 = .ok (.getfield 15, 3) := by decide +kernel
theorem dX2_copyFrom_45 : decode cX2_copyFrom 45 = .ok (.iload_n 2, 1) := by decide +kernel
theorem dX2_copyFrom_46 : decode cX2_copyFrom 46 = .ok (.iaload, 1) := by decide +kernel
theorem dX2_copyFrom_47 : decode cX2_copyFrom 47 = .ok (.iastore, 1) := by decide +kernel
theorem dX2_copyFrom_48 : decode cX2_copyFrom 48 = .ok (.aload_n 0, 1) := by decide +kernel
theorem dX2_copyFrom_49 : decode cX2_copyFrom 49 = .ok (.getfield 18, 3) := by decide +kernel
theorem dX2_copyFrom_52 : decode cX2_copyFrom 52 = .ok (.iload_n 2, 1) := by decide +kernel
theorem dX2_copyFrom_53 : decode cX2_copyFrom 53 = .ok (.aload_n 1, 1) := by decide +kernel
theorem dX2_copyFrom_54 : decode cX2_copyFrom 54 = .ok (.getfield 18, 3) := by decide +kernel
theorem dX2_copyFrom_57 : decode cX2_copyFrom 57 = .ok (.iload_n 2, 1) := by decide +kernel
theorem dX2_copyFrom_58 : decode cX2_copyFrom 58 = .ok (.iaload, 1) := by decide +kernel
theorem dX2_copyFrom_59 : decode cX2_copyFrom 59 = .ok (.iastore, 1) := by decide +kernel
theorem dX2_copyFrom_60 : decode cX2_copyFrom 60 = .ok (.aload_n 0, 1) := by decide +kernel
theorem dX2_copyFrom_61 : decode cX2_copyFrom 61 = .ok (.getfield 21, 3) := by decide +kernel
theorem dX2_copyFrom_64 : decode cX2_copyFrom 64 = .ok (.iload_n 2, 1) := by decide +kernel
theorem dX2_copyFrom_65 : decode cX2_copyFrom 65 = .ok (.aload_n 1, 1) := by decide +kernel
theorem dX2_copyFrom_66 : decode cX2_copyFrom 66 = .ok (.getfield 21, 3) := by decide +kernel
theorem dX2_copyFrom_69 : decode cX2_copyFrom 69 = .ok (.iload_n 2, 1) := by decide +kernel
theorem dX2_copyFrom_70 : decode cX2_copyFrom 70 = .ok (.iaload, 1) := by decide +kernel
theorem dX2_copyFrom_71 : decode cX2_copyFrom 71 = .ok (.iastore, 1) := by decide +kernel
theorem dX2_copyFrom_72 : decode cX2_copyFrom 72 = .ok (.aload_n 0, 1) := by decide +kernel
theorem dX2_copyFrom_73 : decode cX2_copyFrom 73 = .ok (.getfield 24, 3) := by decide +kernel
theorem dX2_copyFrom_76 : decode cX2_copyFrom 76 = .ok (.iload_n 2, 1) := by decide +kernel
theorem dX2_copyFrom_77 : decode cX2_copyFrom 77 = .ok (.aload_n 1, 1) := by decide +kernel
theorem dX2_copyFrom_78 : decode cX2_copyFrom 78 = .ok (.getfield 24, 3) := by decide +kernel
theorem dX2_copyFrom_81 : decode cX2_copyFrom 81 = .ok (.iload_n 2, 1) := by decide +kernel
theorem dX2_copyFrom_82 : decode cX2_copyFrom 82 = .ok (.iaload, 1) := by decide +kernel
theorem dX2_copyFrom_83 : decode cX2_copyFrom 83 = .ok (.iastore, 1) := by decide +kernel
theorem dX2_copyFrom_84 : decode cX2_copyFrom 84 = .ok (.aload_n 0, 1) := by decide +kernel
theorem dX2_copyFrom_85 : decode cX2_copyFrom 85 = .ok (.getfield 27, 3) := by decide +kernel
theorem dX2_copyFrom_88 : decode cX2_copyFrom 88 = .ok (.iload_n 2, 1) := by decide +kernel
theorem dX2_copyFrom_89 : decode cX2_copyFrom 89 = .ok (.aload_n 1, 1) := by decide +kernel
theorem dX2_copyFrom_90 : decode cX2_copyFrom 90 = .ok (.getfield 27, 3) := by decide +kernel
theorem dX2_copyFrom_93 : decode cX2_copyFrom 93 = .ok (.iload_n 2, 1) := by decide +kernel
theorem dX2_copyFrom_94 : decode cX2_copyFrom 94 = .ok (.iaload, 1) := by decide +kernel
theorem dX2_copyFrom_95 : decode cX2_copyFrom 95 = .ok (.iastore, 1) := by decide +kernel
theorem dX2_copyFrom_96 : decode cX2_copyFrom 96 = .ok (.aload_n 1, 1) := by decide +kernel
theorem dX2_copyFrom_97 : decode cX2_copyFrom 97 = .ok (.getfield 32, 3) := by decide +kernel
theorem dX2_copyFrom_100 : decode cX2_copyFrom 100 = .ok (.iload_n 2, 1) := by decide +kernel
theorem dX2_copyFrom_101 : decode cX2_copyFrom 101 = .ok (.aaload, 1) := by decide +kernel
theorem dX2_copyFrom_102 : decode cX2_copyFrom 102 = .ok (.iconst 0, 1) := by decide +kernel
theorem dX2_copyFrom_103 : decode cX2_copyFrom 103 = .ok (.aload_n 0, 1) := by decide +kernel
theorem dX2_copyFrom_104 : decode cX2_copyFrom 104 = .ok (.getfield 32, 3) := by decide +kernel
theorem dX2_copyFrom_107 : decode cX2_copyFrom 107 = .ok (.iload_n 2, 1) := by decide +kernel
theorem dX2_copyFrom_108 : decode cX2_copyFrom 108 = .ok (.aaload, 1) := by decide +kernel
theorem dX2_copyFrom_109 : decode cX2_copyFrom 109 = .ok (.iconst 0, 1) := by decide +kernel
theorem dX2_copyFrom_110 : decode cX2_copyFrom 110 = .ok (.bipush 8, 2) := by decide +kernel
theorem dX2_copyFrom_112 : decode cX2_copyFrom 112 = .ok (.invokestatic 42, 3) := by decide +kernel
theorem dX2_copyFrom_115 : decode cX2_copyFrom 115 = .ok (.iinc 2 1, 3) := by decide +kernel
theorem dX2_copyFrom_118 : decode cX2_copyFrom 118 = .ok (.goto (-100), 3) := by decide +kernel
theorem dX2_copyFrom_121 : decode cX2_copyFrom 121 = .ok (.return_, 1) := by decide +kernel
theorem dX2_has_0 : decode cX2_has 0 = .ok (.iload_n 1, 1) := by decide +kernel
theorem dX2_has_1 : decode cX2_has 1 = .ok (.ifCond .lt 15, 3) := by decide +kernel
theorem dX2_has_4 : decode cX2_has 4 = .ok (.iload_n 1, 1) := by decide +kernel
theorem dX2_has_5 : decode cX2_has 5 = .ok (.aload_n 0, 1) := by decide +kernel
theorem dX2_has_6 : decode cX2_has 6 = .ok (.getfield 35, 3) := by decide +kernel
theorem dX2_has_9 : decode cX2_has 9 = .ok (.if_icmp .ge 7, 3) := by decide +kernel
theorem dX2_has_12 : decode cX2_has 12 = .ok (.iconst 1, 1) := by decide +kernel
theorem dX2_has_13 : decode cX2_has 13 = .ok (.goto 4, 3) := by decide +kernel
theorem dX2_has_16 : decode cX2_has 16 = .ok (.iconst 0, 1) := by decide +kernel
theorem dX2_has_17 : decode cX2_has 17 = .ok (.ireturn, 1) := by decide +kernel
theorem dX2_settle_0 : decode cX2_settle 0 = .ok (.aload_n 0, 1) := by decide +kernel
theorem dX2_settle_1 : decode cX2_settle 1 = .ok (.getfield 35, 3) := by decide +kernel
theorem dX2_settle_4 : decode cX2_settle 4 = .ok (.bipush 8, 2) := by decide +kernel
theorem dX2_settle_6 : decode cX2_settle 6 = .ok (.if_icmp .lt 5, 3) := by decide +kernel
theorem dX2_settle_9 : decode cX2_settle 9 = .ok (.iconst (-1), 1) := by decide +kernel
theorem dX2_settle_10 : decode cX2_settle 10 = .ok (.ireturn, 1) := by decide +kernel
theorem dX2_settle_11 : decode cX2_settle 11 = .ok (.aload_n 0, 1) := by decide +kernel
theorem dX2_settle_12 : decode cX2_settle 12 = .ok (.getfield 9, 3) := by decide +kernel
theorem dX2_settle_15 : decode cX2_settle 15 = .ok (.aload_n 0, 1) := by decide +kernel
theorem dX2_settle_16 : decode cX2_settle 16 = .ok (.getfield 35, 3) := by decide +kernel
theorem dX2_settle_19 : decode cX2_settle 19 = .ok (.iload_n 1, 1) := by decide +kernel
theorem dX2_settle_20 : decode cX2_settle 20 = .ok (.iastore, 1) := by decide +kernel
theorem dX2_settle_21 : decode cX2_settle 21 = .ok (.aload_n 0, 1) := by decide +kernel
theorem dX2_settle_22 : decode cX2_settle 22 = .ok (.getfield 15, 3) := by decide +kernel
theorem dX2_settle_25 : decode cX2_settle 25 = .ok (.aload_n 0, 1) := by decide +kernel
theorem dX2_settle_26 : decode cX2_settle 26 = .ok (.getfield 35, 3) := by decide +kernel
theorem dX2_settle_29 : decode cX2_settle 29 = .ok (.iload_n 2, 1) := by decide +kernel
theorem dX2_settle_30 : decode cX2_settle 30 = .ok (.iastore, 1) := by decide +kernel
theorem dX2_settle_31 : decode cX2_settle 31 = .ok (.aload_n 0, 1) := by decide +kernel
theorem dX2_settle_32 : decode cX2_settle 32 = .ok (.getfield 18, 3) := by decide +kernel
theorem dX2_settle_35 : decode cX2_settle 35 = .ok (.aload_n 0, 1) := by decide +kernel
theorem dX2_settle_36 : decode cX2_settle 36 = .ok (.getfield 35, 3) := by decide +kernel
theorem dX2_settle_39 : decode cX2_settle 39 = .ok (.iload_n 3, 1) := by decide +kernel
theorem dX2_settle_40 : decode cX2_settle 40 = .ok (.iastore, 1) := by decide +kernel
theorem dX2_settle_41 : decode cX2_settle 41 = .ok (.aload_n 0, 1) := by decide +kernel
theorem dX2_settle_42 : decode cX2_settle 42 = .ok (.dup, 1) := by decide +kernel
theorem dX2_settle_43 : decode cX2_settle 43 = .ok (.getfield 35, 3) := by decide +kernel
theorem dX2_settle_46 : decode cX2_settle 46 = .ok (.iconst 1, 1) := by decide +kernel
theorem dX2_settle_47 : decode cX2_settle 47 = .ok (.iadd, 1) := by decide +kernel
theorem dX2_settle_48 : decode cX2_settle 48 = .ok (.putfield 35, 3) := by decide +kernel
theorem dX2_settle_51 : decode cX2_settle 51 = .ok (.aload_n 0, 1) := by decide +kernel
theorem dX2_settle_52 : decode cX2_settle 52 = .ok (.getfield 35, 3) := by decide +kernel
theorem dX2_settle_55 : decode cX2_settle 55 = .ok (.iconst 1, 1) := by decide +kernel
theorem dX2_settle_56 : decode cX2_settle 56 = .ok (.isub, 1) := by decide +kernel
theorem dX2_settle_57 : decode cX2_settle 57 = .ok (.ireturn, 1) := by decide +kernel
theorem dX2_distance_0 : decode cX2_distance 0 = .ok (.aload_n 0, 1) := by decide +kernel
theorem dX2_distance_1 : decode cX2_distance 1 = .ok (.getfield 15, 3) := by decide +kernel
theorem dX2_distance_4 : decode cX2_distance 4 = .ok (.iload_n 1, 1) := by decide +kernel
theorem dX2_distance_5 : decode cX2_distance 5 = .ok (.iaload, 1) := by decide +kernel
theorem dX2_distance_6 : decode cX2_distance 6 = .ok (.aload_n 0, 1) := by decide +kernel
theorem dX2_distance_7 : decode cX2_distance 7 = .ok (.getfield 15, 3) := by decide +kernel
theorem dX2_distance_10 : decode cX2_distance 10 = .ok (.iload_n 2, 1) := by decide +kernel
theorem dX2_distance_11 : decode cX2_distance 11 = .ok (.iaload, 1) := by decide +kernel
theorem dX2_distance_12 : decode cX2_distance 12 = .ok (.isub, 1) := by decide +kernel
theorem dX2_distance_13 : decode cX2_distance 13 = .ok (.invokestatic 48, 3) := by decide +kernel
theorem dX2_distance_16 : decode cX2_distance 16 = .ok (.ireturn, 1) := by decide +kernel
set_option maxRecDepth 20000 in
theorem ggX2_neighbourSet_X2_distance : GoodIn wsX2_neighbourSet wsX2_distance := goodIn_ca (goodIn_r _ [6, 7, 8, 9, 10, 11, 12, 13, 14, 15, 16, 17, 18, 19, 20] (by decide +kernel) (by decide +kernel)) (goodIn_sub (fun _ h => List.mem_cons_of_mem _ (List.mem_append_right _ h)) (by decide +kernel))
set_option maxRecDepth 20000 in
theorem gX2_neighbourSet_X2_distance : GoodIn wsX2_neighbourSet (wsV RX2 54 RX2 yX2_distance wsX2_distance) := goodIn_app (goodIn_of _ (by decide +kernel)) ggX2_neighbourSet_X2_distance
theorem dX2_neighbourSet_0 : decode cX2_neighbourSet 0 = .ok (.iconst 0, 1) := by decide +kernel
theorem dX2_neighbourSet_1 : decode cX2_neighbourSet 1 = .ok (.istore_n 2, 1) := by decide +kernel
theorem dX2_neighbourSet_2 : decode cX2_neighbourSet 2 = .ok (.iconst 0, 1) := by decide +kernel
theorem dX2_neighbourSet_3 : decode cX2_neighbourSet 3 = .ok (.istore_n 3, 1) := by decide +kernel
theorem dX2_neighbourSet_4 : decode cX2_neighbourSet 4 = .ok (.iload_n 3, 1) := by decide +kernel
theorem dX2_neighbourSet_5 : decode cX2_neighbourSet 5 = .ok (.aload_n 0, 1) := by decide +kernel
theorem dX2_neighbourSet_6 : decode cX2_neighbourSet 6 = .ok (.getfield 35, 3) := by decide +kernel
theorem dX2_neighbourSet_9 : decode cX2_neighbourSet 9 = .ok (.if_icmp .ge 30, 3) := by decide +kernel
theorem dX2_neighbourSet_12 : decode cX2_neighbourSet 12 = .ok (.iload_n 3, 1) := by decide +kernel
theorem dX2_neighbourSet_13 : decode cX2_neighbourSet 13 = .ok (.iload_n 1, 1) := by decide +kernel
theorem dX2_neighbourSet_14 : decode cX2_neighbourSet 14 = .ok (.if_icmp .eq 19, 3) := by decide +kernel
theorem dX2_neighbourSet_17 : decode cX2_neighbourSet 17 = .ok (.aload_n 0, 1) := by decide +kernel
theorem dX2_neighbourSet_18 : decode cX2_neighbourSet 18 = .ok (.iload_n 1, 1) := by decide +kernel
theorem dX2_neighbourSet_19 : decode cX2_neighbourSet 19 = .ok (.iload_n 3, 1) := by decide +kernel
theorem dX2_neighbourSet_20 : decode cX2_neighbourSet 20 = .ok (.invokevirtual 54, 3) := by decide +kernel
theorem dX2_neighbourSet_23 : decode cX2_neighbourSet 23 = .ok (.iconst 2, 1) := by decide +kernel
theorem dX2_neighbourSet_24 : decode cX2_neighbourSet 24 = .ok (.if_icmp .gt 9, 3) := by decide +kernel
theorem dX2_neighbourSet_27 : decode cX2_neighbourSet 27 = .ok (.iload_n 2, 1) := by decide +kernel
theorem dX2_neighbourSet_28 : decode cX2_neighbourSet 28 = .ok (.iconst 1, 1) := by decide +kernel
theorem dX2_neighbourSet_29 : decode cX2_neighbourSet 29 = .ok (.iload_n 3, 1) := by decide +kernel
theorem dX2_neighbourSet_30 : decode cX2_neighbourSet 30 = .ok (.ishl, 1) := by decide +kernel
theorem dX2_neighbourSet_31 : decode cX2_neighbourSet 31 = .ok (.ior, 1) := by decide +kernel
theorem dX2_neighbourSet_32 : decode cX2_neighbourSet 32 = .ok (.istore_n 2, 1) := by decide +kernel
theorem dX2_neighbourSet_33 : decode cX2_neighbourSet 33 = .ok (.iinc 3 1, 3) := by decide +kernel
theorem dX2_neighbourSet_36 : decode cX2_neighbourSet 36 = .ok (.goto (-32), 3) := by decide +kernel
theorem dX2_neighbourSet_39 : decode cX2_neighbourSet 39 = .ok (.iload_n 2, 1) := by decide +kernel
theorem dX2_neighbourSet_40 : decode cX2_neighbourSet 40 = .ok (.ireturn, 1) := by decide +kernel
set_option maxRecDepth 20000 in
theorem ggX2_wouldQuarrel_X2_distance : GoodIn wsX2_wouldQuarrel wsX2_distance := goodIn_ca (goodIn_r _ [6, 7, 8, 9, 10, 11, 12, 13, 14, 15, 16, 17, 18, 19, 20] (by decide +kernel) (by decide +kernel)) (goodIn_sub (fun _ h => List.mem_cons_of_mem _ (List.mem_append_right _ h)) (by decide +kernel))
set_option maxRecDepth 20000 in
theorem gX2_wouldQuarrel_X2_distance : GoodIn wsX2_wouldQuarrel (wsV RX2 54 RX2 yX2_distance wsX2_distance) := goodIn_app (goodIn_of _ (by decide +kernel)) ggX2_wouldQuarrel_X2_distance
theorem dX2_wouldQuarrel_0 : decode cX2_wouldQuarrel 0 = .ok (.aload_n 0, 1) := by decide +kernel
theorem dX2_wouldQuarrel_1 : decode cX2_wouldQuarrel 1 = .ok (.iload_n 1, 1) := by decide +kernel
theorem dX2_wouldQuarrel_2 : decode cX2_wouldQuarrel 2 = .ok (.iload_n 2, 1) := by decide +kernel
theorem dX2_wouldQuarrel_3 : decode cX2_wouldQuarrel 3 = .ok (.invokevirtual 54, 3) := by decide +kernel
theorem dX2_wouldQuarrel_6 : decode cX2_wouldQuarrel 6 = .ok (.iconst 2, 1) := by decide +kernel
theorem dX2_wouldQuarrel_7 : decode cX2_wouldQuarrel 7 = .ok (.if_icmp .gt 25, 3) := by decide +kernel
theorem dX2_wouldQuarrel_10 : decode cX2_wouldQuarrel 10 = .ok (.aload_n 0, 1) := by decide +kernel
theorem dX2_wouldQuarrel_11 : decode cX2_wouldQuarrel 11 = .ok (.getfield 18, 3) := by decide +kernel
theorem dX2_wouldQuarrel_14 : decode cX2_wouldQuarrel 14 = .ok (.iload_n 1, 1) := by decide +kernel
theorem dX2_wouldQuarrel_15 : decode cX2_wouldQuarrel 15 = .ok (.iaload, 1) := by decide +kernel
theorem dX2_wouldQuarrel_16 : decode cX2_wouldQuarrel 16 = .ok (.aload_n 0, 1) := by decide +kernel
theorem dX2_wouldQuarrel_17 : decode cX2_wouldQuarrel 17 = .ok (.getfield 18, 3) := by decide +kernel
theorem dX2_wouldQuarrel_20 : decode cX2_wouldQuarrel 20 = .ok (.iload_n 2, 1) := by decide +kernel
theorem dX2_wouldQuarrel_21 : decode cX2_wouldQuarrel 21 = .ok (.iaload, 1) := by decide +kernel
theorem dX2_wouldQuarrel_22 : decode cX2_wouldQuarrel 22 = .ok (.iadd, 1) := by decide +kernel
theorem dX2_wouldQuarrel_23 : decode cX2_wouldQuarrel 23 = .ok (.bipush 10, 2) := by decide +kernel
theorem dX2_wouldQuarrel_25 : decode cX2_wouldQuarrel 25 = .ok (.if_icmp .lt 7, 3) := by decide +kernel
theorem dX2_wouldQuarrel_28 : decode cX2_wouldQuarrel 28 = .ok (.iconst 1, 1) := by decide +kernel
theorem dX2_wouldQuarrel_29 : decode cX2_wouldQuarrel 29 = .ok (.goto 4, 3) := by decide +kernel
theorem dX2_wouldQuarrel_32 : decode cX2_wouldQuarrel 32 = .ok (.iconst 0, 1) := by decide +kernel
theorem dX2_wouldQuarrel_33 : decode cX2_wouldQuarrel 33 = .ok (.ireturn, 1) := by decide +kernel
set_option maxRecDepth 20000 in
theorem ggX2_winnerOf_X2_distance : GoodIn wsX2_winnerOf wsX2_distance := goodIn_ca (goodIn_r _ [6, 7, 8, 9, 10, 11, 12, 13, 14, 15, 16, 17, 18, 19, 20] (by decide +kernel) (by decide +kernel)) (goodIn_sub (fun _ h => List.mem_cons_of_mem _ (List.mem_append_right _ h)) (by decide +kernel))
set_option maxRecDepth 20000 in
theorem gX2_winnerOf_X2_distance : GoodIn wsX2_winnerOf (wsV RX2 54 RX2 yX2_distance wsX2_distance) := goodIn_app (goodIn_of _ (by decide +kernel)) ggX2_winnerOf_X2_distance
theorem dX2_winnerOf_0 : decode cX2_winnerOf 0 = .ok (.iconst 0, 1) := by decide +kernel
theorem dX2_winnerOf_1 : decode cX2_winnerOf 1 = .ok (.istore_n 3, 1) := by decide +kernel
theorem dX2_winnerOf_2 : decode cX2_winnerOf 2 = .ok (.iconst 0, 1) := by decide +kernel
theorem dX2_winnerOf_3 : decode cX2_winnerOf 3 = .ok (.istore 4, 2) := by decide +kernel
theorem dX2_winnerOf_5 : decode cX2_winnerOf 5 = .ok (.iload 4, 2) := by decide +kernel
theorem dX2_winnerOf_7 : decode cX2_winnerOf 7 = .ok (.aload_n 0, 1) := by decide +kernel
theorem dX2_winnerOf_8 : decode cX2_winnerOf 8 = .ok (.getfield 35, 3) := by decide +kernel
theorem dX2_winnerOf_11 : decode cX2_winnerOf 11 = .ok (.if_icmp .ge 46, 3) := by decide +kernel
theorem dX2_winnerOf_14 : decode cX2_winnerOf 14 = .ok (.iload 4, 2) := by decide +kernel
theorem dX2_winnerOf_16 : decode cX2_winnerOf 16 = .ok (.iload_n 1, 1) := by decide +kernel
theorem dX2_winnerOf_17 : decode cX2_winnerOf 17 = .ok (.if_icmp .eq 34, 3) := by decide +kernel
theorem dX2_winnerOf_20 : decode cX2_winnerOf 20 = .ok (.iload 4, 2) := by decide +kernel
theorem dX2_winnerOf_22 : decode cX2_winnerOf 22 = .ok (.iload_n 2, 1) := by decide +kernel
theorem dX2_winnerOf_23 : decode cX2_winnerOf 23 = .ok (.if_icmp .eq 28, 3) := by decide +kernel
theorem dX2_winnerOf_26 : decode cX2_winnerOf 26 = .ok (.iload_n 3, 1) := by decide +kernel
theorem dX2_winnerOf_27 : decode cX2_winnerOf 27 = .ok (.aload_n 0, 1) := by decide +kernel
theorem dX2_winnerOf_28 : decode cX2_winnerOf 28 = .ok (.iload 4, 2) := by decide +kernel
theorem dX2_winnerOf_30 : decode cX2_winnerOf 30 = .ok (.iload_n 1, 1) := by decide +kernel
theorem dX2_winnerOf_31 : decode cX2_winnerOf 31 = .ok (.invokevirtual 54, 3) := by decide +kernel
theorem dX2_winnerOf_34 : decode cX2_winnerOf 34 = .ok (.aload_n 0, 1) := by decide +kernel
theorem dX2_winnerOf_35 : decode cX2_winnerOf 35 = .ok (.iload 4, 2) := by decide +kernel
theorem dX2_winnerOf_37 : decode cX2_winnerOf 37 = .ok (.iload_n 2, 1) := by decide +kernel
theorem dX2_winnerOf_38 : decode cX2_winnerOf 38 = .ok (.invokevirtual 54, 3) := by decide +kernel
theorem dX2_winnerOf_41 : decode cX2_winnerOf 41 = .ok (.if_icmp .gt 7, 3) := by decide +kernel
theorem dX2_winnerOf_44 : decode cX2_winnerOf 44 = .ok (.iconst 1, 1) := by decide +kernel
theorem dX2_winnerOf_45 : decode cX2_winnerOf 45 = .ok (.goto 4, 3) := by decide +kernel
theorem dX2_winnerOf_48 : decode cX2_winnerOf 48 = .ok (.iconst (-1), 1) := by decide +kernel
theorem dX2_winnerOf_49 : decode cX2_winnerOf 49 = .ok (.iadd, 1) := by decide +kernel
theorem dX2_winnerOf_50 : decode cX2_winnerOf 50 = .ok (.istore_n 3, 1) := by decide +kernel
theorem dX2_winnerOf_51 : decode cX2_winnerOf 51 = .ok (.iinc 4 1, 3) := by decide +kernel
theorem dX2_winnerOf_54 : decode cX2_winnerOf 54 = .ok (.goto (-49), 3) := by decide +kernel
theorem dX2_winnerOf_57 : decode cX2_winnerOf 57 = .ok (.iload_n 3, 1) := by decide +kernel
theorem dX2_winnerOf_58 : decode cX2_winnerOf 58 = .ok (.ifCond .lt 7, 3) := by decide +kernel
theorem dX2_winnerOf_61 : decode cX2_winnerOf 61 = .ok (.iload_n 1, 1) := by decide +kernel
theorem dX2_winnerOf_62 : decode cX2_winnerOf 62 = .ok (.goto 4, 3) := by decide +kernel
theorem dX2_winnerOf_65 : decode cX2_winnerOf 65 = .ok (.iload_n 2, 1) := by decide +kernel
theorem dX2_winnerOf_66 : decode cX2_winnerOf 66 = .ok (.ireturn, 1) := by decide +kernel
theorem dX2_settleQuarrel_0 : decode cX2_settleQuarrel 0 = .ok (.aload_n 0, 1) := by decide +kernel
theorem dX2_settleQuarrel_1 : decode cX2_settleQuarrel 1 = .ok (.getfield 24, 3) := by decide +kernel
theorem dX2_settleQuarrel_4 : decode cX2_settleQuarrel 4 = .ok (.iload_n 2, 1) := by decide +kernel
theorem dX2_settleQuarrel_5 : decode cX2_settleQuarrel 5 = .ok (.dup2, 1) := by decide +kernel
theorem dX2_settleQuarrel_6 : decode cX2_settleQuarrel 6 = .ok (.iaload, 1) := by decide +kernel
theorem dX2_settleQuarrel_7 : decode cX2_settleQuarrel 7 = .ok (.iconst 1, 1) := by decide +kernel
theorem dX2_settleQuarrel_8 : decode cX2_settleQuarrel 8 = .ok (.iadd, 1) := by decide +kernel
theorem dX2_settleQuarrel_9 : decode cX2_settleQuarrel 9 = .ok (.iastore, 1) := by decide +kernel
theorem dX2_settleQuarrel_10 : decode cX2_settleQuarrel 10 = .ok (.aload_n 0, 1) := by decide +kernel
theorem dX2_settleQuarrel_11 : decode cX2_settleQuarrel 11 = .ok (.getfield 18, 3) := by decide +kernel
theorem dX2_settleQuarrel_14 : decode cX2_settleQuarrel 14 = .ok (.iload_n 2, 1) := by decide +kernel
theorem dX2_settleQuarrel_15 : decode cX2_settleQuarrel 15 = .ok (.bipush 9, 2) := by decide +kernel
theorem dX2_settleQuarrel_17 : decode cX2_settleQuarrel 17 = .ok (.aload_n 0, 1) := by decide +kernel
theorem dX2_settleQuarrel_18 : decode cX2_settleQuarrel 18 = .ok (.getfield 18, 3) := by decide +kernel
theorem dX2_settleQuarrel_21 : decode cX2_settleQuarrel 21 = .ok (.iload_n 2, 1) := by decide +kernel
theorem dX2_settleQuarrel_22 : decode cX2_settleQuarrel 22 = .ok (.iaload, 1) := by decide +kernel
theorem dX2_settleQuarrel_23 : decode cX2_settleQuarrel 23 = .ok (.iconst 1, 1) := by decide +kernel
theorem dX2_settleQuarrel_24 : decode cX2_settleQuarrel 24 = .ok (.iadd, 1) := by decide +kernel
theorem dX2_settleQuarrel_25 : decode cX2_settleQuarrel 25 = .ok (.invokestatic 58, 3) := by decide +kernel
theorem dX2_settleQuarrel_28 : decode cX2_settleQuarrel 28 = .ok (.iastore, 1) := by decide +kernel
theorem dX2_settleQuarrel_29 : decode cX2_settleQuarrel 29 = .ok (.aload_n 0, 1) := by decide +kernel
theorem dX2_settleQuarrel_30 : decode cX2_settleQuarrel 30 = .ok (.getfield 18, 3) := by decide +kernel
theorem dX2_settleQuarrel_33 : decode cX2_settleQuarrel 33 = .ok (.iload_n 1, 1) := by decide +kernel
theorem dX2_settleQuarrel_34 : decode cX2_settleQuarrel 34 = .ok (.iconst 0, 1) := by decide +kernel
theorem dX2_settleQuarrel_35 : decode cX2_settleQuarrel 35 = .ok (.aload_n 0, 1) := by decide +kernel
theorem dX2_settleQuarrel_36 : decode cX2_settleQuarrel 36 = .ok (.getfield 18, 3) := by decide +kernel
theorem dX2_settleQuarrel_39 : decode cX2_settleQuarrel 39 = .ok (.iload_n 1, 1) := by decide +kernel
theorem dX2_settleQuarrel_40 : decode cX2_settleQuarrel 40 = .ok (.iaload, 1) := by decide +kernel
theorem dX2_settleQuarrel_41 : decode cX2_settleQuarrel 41 = .ok (.iconst 1, 1) := by decide +kernel
theorem dX2_settleQuarrel_42 : decode cX2_settleQuarrel 42 = .ok (.isub, 1) := by decide +kernel
theorem dX2_settleQuarrel_43 : decode cX2_settleQuarrel 43 = .ok (.invokestatic 61, 3) := by decide +kernel
theorem dX2_settleQuarrel_46 : decode cX2_settleQuarrel 46 = .ok (.iastore, 1) := by decide +kernel
theorem dX2_settleQuarrel_47 : decode cX2_settleQuarrel 47 = .ok (.aload_n 0, 1) := by decide +kernel
theorem dX2_settleQuarrel_48 : decode cX2_settleQuarrel 48 = .ok (.getfield 32, 3) := by decide +kernel
theorem dX2_settleQuarrel_51 : decode cX2_settleQuarrel 51 = .ok (.iload_n 1, 1) := by decide +kernel
theorem dX2_settleQuarrel_52 : decode cX2_settleQuarrel 52 = .ok (.aaload, 1) := by decide +kernel
theorem dX2_settleQuarrel_53 : decode cX2_settleQuarrel 53 = .ok (.iload_n 2, 1) := by decide +kernel
theorem dX2_settleQuarrel_54 : decode cX2_settleQuarrel 54 = .ok (.dup2, 1) := by decide +kernel
theorem dX2_settleQuarrel_55 : decode cX2_settleQuarrel 55 = .ok (.iaload, 1) := by decide +kernel
theorem dX2_settleQuarrel_56 : decode cX2_settleQuarrel 56 = .ok (.iconst 1, 1) := by decide +kernel
theorem dX2_settleQuarrel_57 : decode cX2_settleQuarrel 57 = .ok (.iadd, 1) := by decide +kernel
theorem dX2_settleQuarrel_58 : decode cX2_settleQuarrel 58 = .ok (.iastore, 1) := by decide +kernel
theorem dX2_settleQuarrel_59 : decode cX2_settleQuarrel 59 = .ok (.aload_n 0, 1) := by decide +kernel
theorem dX2_settleQuarrel_60 : decode cX2_settleQuarrel 60 = .ok (.dup, 1) := by decide +kernel
theorem dX2_settleQuarrel_61 : decode cX2_settleQuarrel 61 = .ok (.getfield 39, 3) := by decide +kernel
theorem dX2_settleQuarrel_64 : decode cX2_settleQuarrel 64 = .ok (.iconst 1, 1) := by decide +kernel
theorem dX2_settleQuarrel_65 : decode cX2_settleQuarrel 65 = .ok (.iadd, 1) := by decide +kernel
theorem dX2_settleQuarrel_66 : decode cX2_settleQuarrel 66 = .ok (.putfield 39, 3) := by decide +kernel
theorem dX2_settleQuarrel_69 : decode cX2_settleQuarrel 69 = .ok (.return_, 1) := by decide +kernel
theorem dX2_lawfulTurns_0 : decode cX2_lawfulTurns 0 = .ok (.iload_n 2, 1) := by decide +kernel
theorem dX2_lawfulTurns_1 : decode cX2_lawfulTurns 1 = .ok (.tableswitch 51 0 2 #[27, 38, 40], 27) := by decide +kernel
theorem dX2_lawfulTurns_28 : decode cX2_lawfulTurns 28 = .ok (.aload_n 0, 1) := by decide +kernel
theorem dX2_lawfulTurns_29 : decode cX2_lawfulTurns 29 = .ok (.getfield 9, 3) := by decide +kernel
theorem dX2_lawfulTurns_32 : decode cX2_lawfulTurns 32 = .ok (.iload_n 1, 1) := by decide +kernel
theorem dX2_lawfulTurns_33 : decode cX2_lawfulTurns 33 = .ok (.iaload, 1) := by decide +kernel
theorem dX2_lawfulTurns_34 : decode cX2_lawfulTurns 34 = .ok (.iconst 1, 1) := by decide +kernel
theorem dX2_lawfulTurns_35 : decode cX2_lawfulTurns 35 = .ok (.iadd, 1) := by decide +kernel
theorem dX2_lawfulTurns_36 : decode cX2_lawfulTurns 36 = .ok (.iconst 2, 1) := by decide +kernel
theorem dX2_lawfulTurns_37 : decode cX2_lawfulTurns 37 = .ok (.idiv, 1) := by decide +kernel
theorem dX2_lawfulTurns_38 : decode cX2_lawfulTurns 38 = .ok (.ireturn, 1) := by decide +kernel
theorem dX2_lawfulTurns_39 : decode cX2_lawfulTurns 39 = .ok (.iconst 3, 1) := by decide +kernel
theorem dX2_lawfulTurns_40 : decode cX2_lawfulTurns 40 = .ok (.ireturn, 1) := by decide +kernel
theorem dX2_lawfulTurns_41 : decode cX2_lawfulTurns 41 = .ok (.iconst 4, 1) := by decide +kernel
theorem dX2_lawfulTurns_42 : decode cX2_lawfulTurns 42 = .ok (.aload_n 0, 1) := by decide +kernel
theorem dX2_lawfulTurns_43 : decode cX2_lawfulTurns 43 = .ok (.getfield 18, 3) := by decide +kernel
theorem dX2_lawfulTurns_46 : decode cX2_lawfulTurns 46 = .ok (.iload_n 1, 1) := by decide +kernel
theorem dX2_lawfulTurns_47 : decode cX2_lawfulTurns 47 = .ok (.iaload, 1) := by decide +kernel
theorem dX2_lawfulTurns_48 : decode cX2_lawfulTurns 48 = .ok (.iconst 3, 1) := by decide +kernel
theorem dX2_lawfulTurns_49 : decode cX2_lawfulTurns 49 = .ok (.idiv, 1) := by decide +kernel
theorem dX2_lawfulTurns_50 : decode cX2_lawfulTurns 50 = .ok (.isub, 1) := by decide +kernel
theorem dX2_lawfulTurns_51 : decode cX2_lawfulTurns 51 = .ok (.ireturn, 1) := by decide +kernel
theorem dX2_lawfulTurns_52 : decode cX2_lawfulTurns 52 = .ok (.iconst 1, 1) := by decide +kernel
theorem dX2_lawfulTurns_53 : decode cX2_lawfulTurns 53 = .ok (.ireturn, 1) := by decide +kernel
set_option maxRecDepth 20000 in
theorem ggX2_favouriteLaw_X2_lawfulTurns : GoodIn wsX2_favouriteLaw wsX2_lawfulTurns := goodIn_ca (goodIn_r _ [5, 6, 7, 8, 9, 10, 11, 12, 13, 14, 15, 16] (by decide +kernel) (by decide +kernel)) (goodIn_sub (fun _ h => List.mem_cons_of_mem _ (List.mem_append_right _ h)) (by decide +kernel))
set_option maxRecDepth 20000 in
theorem gX2_favouriteLaw_X2_lawfulTurns : GoodIn wsX2_favouriteLaw (wsV RX2 64 RX2 yX2_lawfulTurns wsX2_lawfulTurns) := goodIn_app (goodIn_of _ (by decide +kernel)) ggX2_favouriteLaw_X2_lawfulTurns
theorem dX2_favouriteLaw_0 : decode cX2_favouriteLaw 0 = .ok (.iconst 0, 1) := by decide +kernel
theorem dX2_favouriteLaw_1 : decode cX2_favouriteLaw 1 = .ok (.istore_n 2, 1) := by decide +kernel
theorem dX2_favouriteLaw_2 : decode cX2_favouriteLaw 2 = .ok (.iconst 1, 1) := by decide +kernel
theorem dX2_favouriteLaw_3 : decode cX2_favouriteLaw 3 = .ok (.istore_n 3, 1) := by decide +kernel
theorem dX2_favouriteLaw_4 : decode cX2_favouriteLaw 4 = .ok (.iload_n 3, 1) := by decide +kernel
theorem dX2_favouriteLaw_5 : decode cX2_favouriteLaw 5 = .ok (.iconst 4, 1) := by decide +kernel
theorem dX2_favouriteLaw_6 : decode cX2_favouriteLaw 6 = .ok (.if_icmp .ge 26, 3) := by decide +kernel
theorem dX2_favouriteLaw_9 : decode cX2_favouriteLaw 9 = .ok (.aload_n 0, 1) := by decide +kernel
theorem dX2_favouriteLaw_10 : decode cX2_favouriteLaw 10 = .ok (.iload_n 1, 1) := by decide +kernel
theorem dX2_favouriteLaw_11 : decode cX2_favouriteLaw 11 = .ok (.iload_n 3, 1) := by decide +kernel
theorem dX2_favouriteLaw_12 : decode cX2_favouriteLaw 12 = .ok (.invokevirtual 64, 3) := by decide +kernel
theorem dX2_favouriteLaw_15 : decode cX2_favouriteLaw 15 = .ok (.aload_n 0, 1) := by decide +kernel
theorem dX2_favouriteLaw_16 : decode cX2_favouriteLaw 16 = .ok (.iload_n 1, 1) := by decide +kernel
theorem dX2_favouriteLaw_17 : decode cX2_favouriteLaw 17 = .ok (.iload_n 2, 1) := by decide +kernel
theorem dX2_favouriteLaw_18 : decode cX2_favouriteLaw 18 = .ok (.invokevirtual 64, 3) := by decide +kernel
theorem dX2_favouriteLaw_21 : decode cX2_favouriteLaw 21 = .ok (.if_icmp .le 5, 3) := by decide +kernel
theorem dX2_favouriteLaw_24 : decode cX2_favouriteLaw 24 = .ok (.iload_n 3, 1) := by decide +kernel
theorem dX2_favouriteLaw_25 : decode cX2_favouriteLaw 25 = .ok (.istore_n 2, 1) := by decide +kernel
theorem dX2_favouriteLaw_26 : decode cX2_favouriteLaw 26 = .ok (.iinc 3 1, 3) := by decide +kernel
theorem dX2_favouriteLaw_29 : decode cX2_favouriteLaw 29 = .ok (.goto (-25), 3) := by decide +kernel
theorem dX2_favouriteLaw_32 : decode cX2_favouriteLaw 32 = .ok (.iload_n 2, 1) := by decide +kernel
theorem dX2_favouriteLaw_33 : decode cX2_favouriteLaw 33 = .ok (.ireturn, 1) := by decide +kernel
set_option maxRecDepth 20000 in
theorem ggX2_membersBehind_X2_favouriteLaw : GoodIn wsX2_membersBehind wsX2_favouriteLaw := goodIn_ca (goodIn_r _ [7, 8, 9, 10, 6, 11, 2, 12, 13, 14, 15, 16, 17, 18, 19, 20, 21] (by decide +kernel) (by decide +kernel)) (goodIn_sub (fun _ h => List.mem_cons_of_mem _ (List.mem_append_right _ h)) (by decide +kernel))
set_option maxRecDepth 20000 in
theorem gX2_membersBehind_X2_favouriteLaw : GoodIn wsX2_membersBehind (wsV RX2 67 RX2 yX2_favouriteLaw wsX2_favouriteLaw) := goodIn_app (goodIn_of _ (by decide +kernel)) ggX2_membersBehind_X2_favouriteLaw
theorem dX2_membersBehind_0 : decode cX2_membersBehind 0 = .ok (.iconst 0, 1) := by decide +kernel
theorem dX2_membersBehind_1 : decode cX2_membersBehind 1 = .ok (.istore_n 2, 1) := by decide +kernel
theorem dX2_membersBehind_2 : decode cX2_membersBehind 2 = .ok (.iconst 0, 1) := by decide +kernel
theorem dX2_membersBehind_3 : decode cX2_membersBehind 3 = .ok (.istore_n 3, 1) := by decide +kernel
theorem dX2_membersBehind_4 : decode cX2_membersBehind 4 = .ok (.iload_n 3, 1) := by decide +kernel
theorem dX2_membersBehind_5 : decode cX2_membersBehind 5 = .ok (.aload_n 0, 1) := by decide +kernel
theorem dX2_membersBehind_6 : decode cX2_membersBehind 6 = .ok (.getfield 35, 3) := by decide +kernel
theorem dX2_membersBehind_9 : decode cX2_membersBehind 9 = .ok (.if_icmp .ge 27, 3) := by decide +kernel
theorem dX2_membersBehind_12 : decode cX2_membersBehind 12 = .ok (.aload_n 0, 1) := by decide +kernel
theorem dX2_membersBehind_13 : decode cX2_membersBehind 13 = .ok (.iload_n 3, 1) := by decide +kernel
theorem dX2_membersBehind_14 : decode cX2_membersBehind 14 = .ok (.invokevirtual 67, 3) := by decide +kernel
theorem dX2_membersBehind_17 : decode cX2_membersBehind 17 = .ok (.iload_n 1, 1) := by decide +kernel
theorem dX2_membersBehind_18 : decode cX2_membersBehind 18 = .ok (.if_icmp .ne 12, 3) := by decide +kernel
theorem dX2_membersBehind_21 : decode cX2_membersBehind 21 = .ok (.iload_n 2, 1) := by decide +kernel
theorem dX2_membersBehind_22 : decode cX2_membersBehind 22 = .ok (.aload_n 0, 1) := by decide +kernel
theorem dX2_membersBehind_23 : decode cX2_membersBehind 23 = .ok (.getfield 9, 3) := by decide +kernel
theorem dX2_membersBehind_26 : decode cX2_membersBehind 26 = .ok (.iload_n 3, 1) := by decide +kernel
theorem dX2_membersBehind_27 : decode cX2_membersBehind 27 = .ok (.iaload, 1) := by decide +kernel
theorem dX2_membersBehind_28 : decode cX2_membersBehind 28 = .ok (.iadd, 1) := by decide +kernel
theorem dX2_membersBehind_29 : decode cX2_membersBehind 29 = .ok (.istore_n 2, 1) := by decide +kernel
theorem dX2_membersBehind_30 : decode cX2_membersBehind 30 = .ok (.iinc 3 1, 3) := by decide +kernel
theorem dX2_membersBehind_33 : decode cX2_membersBehind 33 = .ok (.goto (-29), 3) := by decide +kernel
theorem dX2_membersBehind_36 : decode cX2_membersBehind 36 = .ok (.iload_n 2, 1) := by decide +kernel
theorem dX2_membersBehind_37 : decode cX2_membersBehind 37 = .ok (.ireturn, 1) := by decide +kernel
set_option maxRecDepth 20000 in
theorem ggX2_lawOfMost_X2_membersBehind : GoodIn wsX2_lawOfMost wsX2_membersBehind := goodIn_ca (goodIn_r _ [5, 6, 7, 8, 9, 10, 4, 11, 12, 13, 14, 15, 16, 17, 18, 19, 20, 21, 22, 23, 24, 25] (by decide +kernel) (by decide +kernel)) (goodIn_sub (fun _ h => List.mem_cons_of_mem _ (List.mem_append_right _ h)) (by decide +kernel))
set_option maxRecDepth 20000 in
theorem gX2_lawOfMost_X2_membersBehind : GoodIn wsX2_lawOfMost (wsV RX2 70 RX2 yX2_membersBehind wsX2_membersBehind) := goodIn_app (goodIn_of _ (by decide +kernel)) ggX2_lawOfMost_X2_membersBehind
theorem dX2_lawOfMost_0 : decode cX2_lawOfMost 0 = .ok (.iconst 0, 1) := by decide +kernel
theorem dX2_lawOfMost_1 : decode cX2_lawOfMost 1 = .ok (.istore_n 1, 1) := by decide +kernel
theorem dX2_lawOfMost_2 : decode cX2_lawOfMost 2 = .ok (.aload_n 0, 1) := by decide +kernel
theorem dX2_lawOfMost_3 : decode cX2_lawOfMost 3 = .ok (.iload_n 1, 1) := by decide +kernel
theorem dX2_lawOfMost_4 : decode cX2_lawOfMost 4 = .ok (.invokevirtual 70, 3) := by decide +kernel
theorem dX2_lawOfMost_7 : decode cX2_lawOfMost 7 = .ok (.istore_n 2, 1) := by decide +kernel
theorem dX2_lawOfMost_8 : decode cX2_lawOfMost 8 = .ok (.iconst 1, 1) := by decide +kernel
theorem dX2_lawOfMost_9 : decode cX2_lawOfMost 9 = .ok (.istore_n 3, 1) := by decide +kernel
theorem dX2_lawOfMost_10 : decode cX2_lawOfMost 10 = .ok (.iload_n 3, 1) := by decide +kernel
theorem dX2_lawOfMost_11 : decode cX2_lawOfMost 11 = .ok (.iconst 4, 1) := by decide +kernel
theorem dX2_lawOfMost_12 : decode cX2_lawOfMost 12 = .ok (.if_icmp .ge 27, 3) := by decide +kernel
theorem dX2_lawOfMost_15 : decode cX2_lawOfMost 15 = .ok (.aload_n 0, 1) := by decide +kernel
theorem dX2_lawOfMost_16 : decode cX2_lawOfMost 16 = .ok (.iload_n 3, 1) := by decide +kernel
theorem dX2_lawOfMost_17 : decode cX2_lawOfMost 17 = .ok (.invokevirtual 70, 3) := by decide +kernel
theorem dX2_lawOfMost_20 : decode cX2_lawOfMost 20 = .ok (.istore 4, 2) := by decide +kernel
theorem dX2_lawOfMost_22 : decode cX2_lawOfMost 22 = .ok (.iload 4, 2) := by decide +kernel
theorem dX2_lawOfMost_24 : decode cX2_lawOfMost 24 = .ok (.iload_n 2, 1) := by decide +kernel
theorem dX2_lawOfMost_25 : decode cX2_lawOfMost 25 = .ok (.if_icmp .le 8, 3) := by decide +kernel
theorem dX2_lawOfMost_28 : decode cX2_lawOfMost 28 = .ok (.iload_n 3, 1) := by decide +kernel
theorem dX2_lawOfMost_29 : decode cX2_lawOfMost 29 = .ok (.istore_n 1, 1) := by decide +kernel
theorem dX2_lawOfMost_30 : decode cX2_lawOfMost 30 = .ok (.iload 4, 2) := by decide +kernel
theorem dX2_lawOfMost_32 : decode cX2_lawOfMost 32 = .ok (.istore_n 2, 1) := by decide +kernel
theorem dX2_lawOfMost_33 : decode cX2_lawOfMost 33 = .ok (.iinc 3 1, 3) := by decide +kernel
theorem dX2_lawOfMost_36 : decode cX2_lawOfMost 36 = .ok (.goto (-26), 3) := by decide +kernel
theorem dX2_lawOfMost_39 : decode cX2_lawOfMost 39 = .ok (.iload_n 1, 1) := by decide +kernel
theorem dX2_lawOfMost_40 : decode cX2_lawOfMost 40 = .ok (.ireturn, 1) := by decide +kernel
theorem dX2_temperSum_0 : decode cX2_temperSum 0 = .ok (.iconst 0, 1) := by decide +kernel
theorem dX2_temperSum_1 : decode cX2_temperSum 1 = .ok (.istore_n 1, 1) := by decide +kernel
theorem dX2_temperSum_2 : decode cX2_temperSum 2 = .ok (.iconst 0, 1) := by decide +kernel
theorem dX2_temperSum_3 : decode cX2_temperSum 3 = .ok (.istore_n 2, 1) := by decide +kernel
theorem dX2_temperSum_4 : decode cX2_temperSum 4 = .ok (.iload_n 2, 1) := by decide +kernel
theorem dX2_temperSum_5 : decode cX2_temperSum 5 = .ok (.aload_n 0, 1) := by decide +kernel
theorem dX2_temperSum_6 : decode cX2_temperSum 6 = .ok (.getfield 35, 3) := by decide +kernel
theorem dX2_temperSum_9 : decode cX2_temperSum 9 = .ok (.if_icmp .ge 18, 3) := by decide +kernel
theorem dX2_temperSum_12 : decode cX2_temperSum 12 = .ok (.iload_n 1, 1) := by decide +kernel
theorem dX2_temperSum_13 : decode cX2_temperSum 13 = .ok (.aload_n 0, 1) := by decide +kernel
theorem dX2_temperSum_14 : decode cX2_temperSum 14 = .ok (.getfield 18, 3) := by decide +kernel
theorem dX2_temperSum_17 : decode cX2_temperSum 17 = .ok (.iload_n 2, 1) := by decide +kernel
theorem dX2_temperSum_18 : decode cX2_temperSum 18 = .ok (.iaload, 1) := by decide +kernel
theorem dX2_temperSum_19 : decode cX2_temperSum 19 = .ok (.iadd, 1) := by decide +kernel
theorem dX2_temperSum_20 : decode cX2_temperSum 20 = .ok (.istore_n 1, 1) := by decide +kernel
theorem dX2_temperSum_21 : decode cX2_temperSum 21 = .ok (.iinc 2 1, 3) := by decide +kernel
theorem dX2_temperSum_24 : decode cX2_temperSum 24 = .ok (.goto (-20), 3) := by decide +kernel
theorem dX2_temperSum_27 : decode cX2_temperSum 27 = .ok (.iload_n 1, 1) := by decide +kernel
theorem dX2_temperSum_28 : decode cX2_temperSum 28 = .ok (.ireturn, 1) := by decide +kernel
theorem dX2_forgetDay_0 : decode cX2_forgetDay 0 = .ok (.iconst 0, 1) := by decide +kernel
theorem dX2_forgetDay_1 : decode cX2_forgetDay 1 = .ok (.istore_n 1, 1) := by decide +kernel
theorem dX2_forgetDay_2 : decode cX2_forgetDay 2 = .ok (.iload_n 1, 1) := by decide +kernel
theorem dX2_forgetDay_3 : decode cX2_forgetDay 3 = .ok (.aload_n 0, 1) := by decide +kernel
theorem dX2_forgetDay_4 : decode cX2_forgetDay 4 = .ok (.getfield 35, 3) := by decide +kernel
theorem dX2_forgetDay_7 : decode cX2_forgetDay 7 = .ok (.if_icmp .ge 23, 3) := by decide +kernel
theorem dX2_forgetDay_10 : decode cX2_forgetDay 10 = .ok (.aload_n 0, 1) := by decide +kernel
theorem dX2_forgetDay_11 : decode cX2_forgetDay 11 = .ok (.getfield 21, 3) := by decide +kernel
theorem dX2_forgetDay_14 : decode cX2_forgetDay 14 = .ok (.iload_n 1, 1) := by decide +kernel
theorem dX2_forgetDay_15 : decode cX2_forgetDay 15 = .ok (.iconst 0, 1) := by decide +kernel
theorem dX2_forgetDay_16 : decode cX2_forgetDay 16 = .ok (.iastore, 1) := by decide +kernel
theorem dX2_forgetDay_17 : decode cX2_forgetDay 17 = .ok (.aload_n 0, 1) := by decide +kernel
theorem dX2_forgetDay_18 : decode cX2_forgetDay 18 = .ok (.getfield 24, 3) := by decide +kernel
theorem dX2_forgetDay_21 : decode cX2_forgetDay 21 = .ok (.iload_n 1, 1) := by decide +kernel
theorem dX2_forgetDay_22 : decode cX2_forgetDay 22 = .ok (.iconst 0, 1) := by decide +kernel
theorem dX2_forgetDay_23 : decode cX2_forgetDay 23 = .ok (.iastore, 1) := by decide +kernel
theorem dX2_forgetDay_24 : decode cX2_forgetDay 24 = .ok (.iinc 1 1, 3) := by decide +kernel
theorem dX2_forgetDay_27 : decode cX2_forgetDay 27 = .ok (.goto (-25), 3) := by decide +kernel
theorem dX2_forgetDay_30 : decode cX2_forgetDay 30 = .ok (.return_, 1) := by decide +kernel
theorem dX3_init_0 : decode cX3_init 0 = .ok (.aload_n 0, 1) := by decide +kernel
theorem dX3_init_1 : decode cX3_init 1 = .ok (.invokespecial 3, 3) := by decide +kernel
theorem dX3_init_4 : decode cX3_init 4 = .ok (.aload_n 0, 1) := by decide +kernel
theorem dX3_init_5 : decode cX3_init 5 = .ok (.bipush 20, 2) := by decide +kernel
theorem dX3_init_7 : decode cX3_init 7 = .ok (.newarray .int, 2) := by decide +kernel
theorem dX3_init_9 : decode cX3_init 9 = .ok (.putfield 9, 3) := by decide +kernel
theorem dX3_init_12 : decode cX3_init 12 = .ok (.aload_n 0, 1) := by decide +kernel
theorem dX3_init_13 : decode cX3_init 13 = .ok (.bipush 20, 2) := by decide +kernel
theorem dX3_init_15 : decode cX3_init 15 = .ok (.newarray .int, 2) := by decide +kernel
theorem dX3_init_17 : decode cX3_init 17 = .ok (.putfield 15, 3) := by decide +kernel
theorem dX3_init_20 : decode cX3_init 20 = .ok (.aload_n 0, 1) := by decide +kernel
theorem dX3_init_21 : decode cX3_init 21 = .ok (.bipush 20, 2) := by decide +kernel
theorem dX3_init_23 : decode cX3_init 23 = .ok (.newarray .int, 2) := by decide +kernel
theorem dX3_init_25 : decode cX3_init 25 = .ok (.putfield 18, 3) := by decide +kernel
theorem dX3_init_28 : decode cX3_init 28 = .ok (.aload_n 0, 1) := by decide +kernel
theorem dX3_init_29 : decode cX3_init 29 = .ok (.bipush 20, 2) := by decide +kernel
theorem dX3_init_31 : decode cX3_init 31 = .ok (.newarray .int, 2) := by decide +kernel
theorem dX3_init_33 : decode cX3_init 33 = .ok (.putfield 21, 3) := by decide +kernel
theorem dX3_init_36 : decode cX3_init 36 = .ok (.return_, 1) := by decide +kernel
theorem dX3_copyFrom_0 : decode cX3_copyFrom 0 = .ok (.aload_n 0, 1) := by decide +kernel
theorem dX3_copyFrom_1 : decode cX3_copyFrom 1 = .ok (.aload_n 1, 1) := by decide +kernel
theorem dX3_copyFrom_2 : decode cX3_copyFrom 2 = .ok (.getfield 24, 3) := by decide +kernel
theorem dX3_copyFrom_5 : decode cX3_copyFrom 5 = .ok (.putfield 24, 3) := by decide +kernel
theorem dX3_copyFrom_8 : decode cX3_copyFrom 8 = .ok (.aload_n 0, 1) := by decide +kernel
theorem dX3_copyFrom_9 : decode cX3_copyFrom 9 = .ok (.aload_n 1, 1) := by decide +kernel
theorem dX3_copyFrom_10 : decode cX3_copyFrom 10 = .ok (.getfield 28, 3) := by decide +kernel
theorem dX3_copyFrom_13 : decode cX3_copyFrom 13 = .ok (.putfield 28, 3) := by decide +kernel
theorem dX3_copyFrom_16 : decode cX3_copyFrom 16 = .ok (.aload_n 1, 1) := by decide +kernel
theorem dX3_copyFrom_17 : decode cX3_copyFrom 17 = .ok (.getfield 9, 3) := by decide +kernel
theorem dX3_copyFrom_20 : decode cX3_copyFrom 20 = .ok (.iconst 0, 1) := by decide +kernel
theorem dX3_copyFrom_21 : decode cX3_copyFrom 21 = .ok (.aload_n 0, 1) := by decide +kernel
theorem dX3_copyFrom_22 : decode cX3_copyFrom 22 = .ok (.getfield 9, 3) := by decide +kernel
theorem dX3_copyFrom_25 : decode cX3_copyFrom 25 = .ok (.iconst 0, 1) := by decide +kernel
theorem dX3_copyFrom_26 : decode cX3_copyFrom 26 = .ok (.bipush 20, 2) := by decide +kernel
theorem dX3_copyFrom_28 : decode cX3_copyFrom 28 = .ok (.invokestatic 31, 3) := by decide +kernel
theorem dX3_copyFrom_31 : decode cX3_copyFrom 31 = .ok (.aload_n 1, 1) := by decide +kernel
theorem dX3_copyFrom_32 : decode cX3_copyFrom 32 = .ok (.getfield 15, 3) := by decide +kernel
theorem dX3_copyFrom_35 : decode cX3_copyFrom 35 = .ok (.iconst 0, 1) := by decide +kernel
theorem dX3_copyFrom_36 : decode cX3_copyFrom 36 = .ok (.aload_n 0, 1) := by decide +kernel
theorem dX3_copyFrom_37 : decode cX3_copyFrom 37 = .ok (.getfield 15, 3) := by decide +kernel
theorem dX3_copyFrom_40 : decode cX3_copyFrom 40 = .ok (.iconst 0, 1) := by decide +kernel
theorem dX3_copyFrom_41 : decode cX3_copyFrom 41 = .ok (.bipush 20, 2) := by decide +kernel
theorem dX3_copyFrom_43 : decode cX3_copyFrom 43 = .ok (.invokestatic 31, 3) := by decide +kernel
theorem dX3_copyFrom_46 : decode cX3_copyFrom 46 = .ok (.aload_n 1, 1) := by decide +kernel
theorem dX3_copyFrom_47 : decode cX3_copyFrom 47 = .ok (.getfield 18, 3) := by decide +kernel
theorem dX3_copyFrom_50 : decode cX3_copyFrom 50 = .ok (.iconst 0, 1) := by decide +kernel
theorem dX3_copyFrom_51 : decode cX3_copyFrom 51 = .ok (.aload_n 0, 1) := by decide +kernel
theorem dX3_copyFrom_52 : decode cX3_copyFrom 52 = .ok (.getfield 18, 3) := by decide +kernel
theorem dX3_copyFrom_55 : decode cX3_copyFrom 55 = .ok (.iconst 0, 1) := by decide +kernel
theorem dX3_copyFrom_56 : decode cX3_copyFrom 56 = .ok (.bipush 20, 2) := by decide +kernel
theorem dX3_copyFrom_58 : decode cX3_copyFrom 58 = .ok (.invokestatic 31, 3) := by decide +kernel
theorem dX3_copyFrom_61 : decode cX3_copyFrom 61 = .ok (.aload_n 1, 1) := by decide +kernel
theorem dX3_copyFrom_62 : decode cX3_copyFrom 62 = .ok (.getfield 21, 3) := by decide +kernel
theorem dX3_copyFrom_65 : decode cX3_copyFrom 65 = .ok (.iconst 0, 1) := by decide +kernel
theorem dX3_copyFrom_66 : decode cX3_copyFrom 66 = .ok (.aload_n 0, 1) := by decide +kernel
theorem dX3_copyFrom_67 : decode cX3_copyFrom 67 = .ok (.getfield 21, 3) := by decide +kernel
theorem dX3_copyFrom_70 : decode cX3_copyFrom 70 = .ok (.iconst 0, 1) := by decide +kernel
theorem dX3_copyFrom_71 : decode cX3_copyFrom 71 = .ok (.bipush 20, 2) := by decide +kernel
theorem dX3_copyFrom_73 : decode cX3_copyFrom 73 = .ok (.invokestatic 31, 3) := by decide +kernel
theorem dX3_copyFrom_76 : decode cX3_copyFrom 76 = .ok (.return_, 1) := by decide +kernel
theorem dX3_has_0 : decode cX3_has 0 = .ok (.iload_n 1, 1) := by decide +kernel
theorem dX3_has_1 : decode cX3_has 1 = .ok (.ifCond .lt 15, 3) := by decide +kernel
theorem dX3_has_4 : decode cX3_has 4 = .ok (.iload_n 1, 1) := by decide +kernel
theorem dX3_has_5 : decode cX3_has 5 = .ok (.aload_n 0, 1) := by decide +kernel
theorem dX3_has_6 : decode cX3_has 6 = .ok (.getfield 24, 3) := by decide +kernel
theorem dX3_has_9 : decode cX3_has 9 = .ok (.if_icmp .ge 7, 3) := by decide +kernel
theorem dX3_has_12 : decode cX3_has 12 = .ok (.iconst 1, 1) := by decide +kernel
theorem dX3_has_13 : decode cX3_has 13 = .ok (.goto 4, 3) := by decide +kernel
theorem dX3_has_16 : decode cX3_has 16 = .ok (.iconst 0, 1) := by decide +kernel
theorem dX3_has_17 : decode cX3_has 17 = .ok (.ireturn, 1) := by decide +kernel
theorem dX3_note_0 : decode cX3_note 0 = .ok (.aload_n 0, 1) := by decide +kernel
theorem dX3_note_1 : decode cX3_note 1 = .ok (.getfield 9, 3) := by decide +kernel
theorem dX3_note_4 : decode cX3_note 4 = .ok (.aload_n 0, 1) := by decide +kernel
theorem dX3_note_5 : decode cX3_note 5 = .ok (.getfield 28, 3) := by decide +kernel
theorem dX3_note_8 : decode cX3_note 8 = .ok (.iload_n 1, 1) := by decide +kernel
theorem dX3_note_9 : decode cX3_note 9 = .ok (.iastore, 1) := by decide +kernel
theorem dX3_note_10 : decode cX3_note 10 = .ok (.aload_n 0, 1) := by decide +kernel
theorem dX3_note_11 : decode cX3_note 11 = .ok (.getfield 15, 3) := by decide +kernel
theorem dX3_note_14 : decode cX3_note 14 = .ok (.aload_n 0, 1) := by decide +kernel
theorem dX3_note_15 : decode cX3_note 15 = .ok (.getfield 28, 3) := by decide +kernel
theorem dX3_note_18 : decode cX3_note 18 = .ok (.iload_n 2, 1) := by decide +kernel
theorem dX3_note_19 : decode cX3_note 19 = .ok (.iastore, 1) := by decide +kernel
theorem dX3_note_20 : decode cX3_note 20 = .ok (.aload_n 0, 1) := by decide +kernel
theorem dX3_note_21 : decode cX3_note 21 = .ok (.getfield 18, 3) := by decide +kernel
theorem dX3_note_24 : decode cX3_note 24 = .ok (.aload_n 0, 1) := by decide +kernel
theorem dX3_note_25 : decode cX3_note 25 = .ok (.getfield 28, 3) := by decide +kernel
theorem dX3_note_28 : decode cX3_note 28 = .ok (.iload_n 3, 1) := by decide +kernel
theorem dX3_note_29 : decode cX3_note 29 = .ok (.iastore, 1) := by decide +kernel
theorem dX3_note_30 : decode cX3_note 30 = .ok (.aload_n 0, 1) := by decide +kernel
theorem dX3_note_31 : decode cX3_note 31 = .ok (.getfield 21, 3) := by decide +kernel
theorem dX3_note_34 : decode cX3_note 34 = .ok (.aload_n 0, 1) := by decide +kernel
theorem dX3_note_35 : decode cX3_note 35 = .ok (.getfield 28, 3) := by decide +kernel
theorem dX3_note_38 : decode cX3_note 38 = .ok (.iload 4, 2) := by decide +kernel
theorem dX3_note_40 : decode cX3_note 40 = .ok (.iastore, 1) := by decide +kernel
theorem dX3_note_41 : decode cX3_note 41 = .ok (.aload_n 0, 1) := by decide +kernel
theorem dX3_note_42 : decode cX3_note 42 = .ok (.aload_n 0, 1) := by decide +kernel
theorem dX3_note_43 : decode cX3_note 43 = .ok (.getfield 28, 3) := by decide +kernel
theorem dX3_note_46 : decode cX3_note 46 = .ok (.iconst 1, 1) := by decide +kernel
theorem dX3_note_47 : decode cX3_note 47 = .ok (.iadd, 1) := by decide +kernel
theorem dX3_note_48 : decode cX3_note 48 = .ok (.bipush 20, 2) := by decide +kernel
theorem dX3_note_50 : decode cX3_note 50 = .ok (.irem, 1) := by decide +kernel
theorem dX3_note_51 : decode cX3_note 51 = .ok (.putfield 28, 3) := by decide +kernel
theorem dX3_note_54 : decode cX3_note 54 = .ok (.aload_n 0, 1) := by decide +kernel
theorem dX3_note_55 : decode cX3_note 55 = .ok (.bipush 20, 2) := by decide +kernel
theorem dX3_note_57 : decode cX3_note 57 = .ok (.aload_n 0, 1) := by decide +kernel
theorem dX3_note_58 : decode cX3_note 58 = .ok (.getfield 24, 3) := by decide +kernel
theorem dX3_note_61 : decode cX3_note 61 = .ok (.iconst 1, 1) := by decide +kernel
theorem dX3_note_62 : decode cX3_note 62 = .ok (.iadd, 1) := by decide +kernel
theorem dX3_note_63 : decode cX3_note 63 = .ok (.invokestatic 37, 3) := by decide +kernel
theorem dX3_note_66 : decode cX3_note 66 = .ok (.putfield 24, 3) := by decide +kernel
theorem dX3_note_69 : decode cX3_note 69 = .ok (.return_, 1) := by decide +kernel
set_option maxRecDepth 20000 in
theorem ggX3_write_J4_setLength_d00df : GoodIn wsX3_write wsJ4_setLength_d00df := goodIn_r _ [11, 12, 13, 14, 15, 16, 17, 18, 19, 20, 21, 22, 23, 24, 25, 26, 27, 28, 29, 30, 31, 32, 33, 34, 35, 36, 37, 38, 39, 40, 41, 42, 43, 44, 45, 46, 47, 48, 49, 50, 51, 52, 53, 54, 55, 56, 57, 58, 59, 60, 61, 62, 63, 64, 65, 66, 67, 68, 69, 70, 71, 72, 73, 74, 75, 76, 77, 78, 79, 80, 81, 82, 83, 10, 84, 85, 86, 87, 88, 89, 90, 91, 238, 239, 240, 241, 242, 243, 244, 245, 246, 247, 248, 249, 250, 251, 252, 253] (by decide +kernel) (by decide +kernel)
set_option maxRecDepth 20000 in
theorem gX3_write_J4_setLength_d00df : GoodIn wsX3_write (wsV RX3 43 RJ4 yJ4_setLength_d00df wsJ4_setLength_d00df) := goodIn_app (goodIn_of _ (by decide +kernel)) ggX3_write_J4_setLength_d00df
set_option maxRecDepth 20000 in
theorem ggX3_write_J4_append_cf468 : GoodIn wsX3_write wsJ4_append_cf468 := goodIn_r _ [95, 96, 97, 14, 98, 16, 99, 21, 22, 24, 25, 26, 27, 28, 29, 30, 31, 32, 33, 34, 35, 36, 37, 38, 39, 40, 41, 42, 43, 44, 45, 46, 47, 48, 49, 50, 51, 52, 53, 54, 55, 56, 57, 58, 59, 60, 61, 62, 63, 64, 65, 66, 67, 68, 69, 70, 71, 100, 101, 74, 102, 103, 104, 105, 106, 107, 108, 109, 89, 110, 111, 112, 113, 114, 115, 116, 117, 118, 119, 120, 121, 122, 123, 124, 125, 126, 127, 128, 129, 130, 131, 132, 133, 134, 135, 136, 137, 138, 139, 140, 141, 142, 143, 144, 145, 146, 147, 148, 149, 150, 151, 152, 153, 244, 245, 246, 247] (by decide +kernel) (by decide +kernel)
set_option maxRecDepth 20000 in
theorem gX3_write_J4_append_cf468 : GoodIn wsX3_write (wsV RX3 49 RJ4 yJ4_append_cf468 wsJ4_append_cf468) := goodIn_app (goodIn_of _ (by decide +kernel)) ggX3_write_J4_append_cf468
set_option maxRecDepth 20000 in
theorem ggX3_write_J4_append_bf812 : GoodIn wsX3_write wsJ4_append_bf812 := goodIn_r _ [157, 158, 159, 14, 160, 16, 161, 21, 22, 162, 163, 164, 165, 24, 25, 26, 27, 28, 29, 30, 31, 32, 33, 34, 35, 36, 37, 38, 39, 40, 41, 42, 43, 44, 45, 46, 47, 48, 49, 50, 51, 52, 53, 54, 55, 56, 57, 58, 59, 60, 61, 62, 63, 64, 65, 66, 67, 68, 69, 70, 71, 166, 167, 168, 169, 170, 171, 172, 89, 173, 139, 174, 175, 176, 124, 125, 126, 177, 178, 129, 179, 131, 180, 181, 134, 182, 183, 184, 185, 186, 187, 136, 137, 138, 140, 141, 244, 245, 246, 247] (by decide +kernel) (by decide +kernel)
set_option maxRecDepth 20000 in
theorem gX3_write_J4_append_bf812 : GoodIn wsX3_write (wsV RX3 53 RJ4 yJ4_append_bf812 wsJ4_append_bf812) := goodIn_app (goodIn_of _ (by decide +kernel)) ggX3_write_J4_append_bf812
set_option maxRecDepth 20000 in
theorem ggX3_write_J4_append_15ec4 : GoodIn wsX3_write wsJ4_append_15ec4 := goodIn_r _ [191, 192, 193, 14, 194, 16, 195, 21, 196, 197, 198, 199, 200, 22, 24, 25, 26, 27, 28, 29, 30, 31, 32, 33, 34, 35, 36, 37, 38, 39, 40, 41, 42, 43, 44, 45, 46, 47, 48, 49, 50, 51, 52, 53, 54, 55, 56, 57, 58, 59, 60, 61, 62, 63, 64, 65, 66, 67, 68, 69, 70, 71, 201, 202, 89, 203, 139, 174, 175, 176, 124, 125, 126, 177, 178, 129, 179, 131, 180, 181, 134, 182, 136, 137, 138, 140, 141, 204, 205, 206, 207, 208, 209, 210, 211, 212, 213, 214, 215, 216, 217, 218, 219, 220, 221, 222, 223, 224, 225, 103, 104, 105, 106, 107, 108, 109, 110, 111, 112, 113, 114, 115, 116, 74, 117, 118, 119, 120, 121, 122, 123, 127, 128, 130, 132, 133, 135, 226, 227, 228, 229, 230, 231, 244, 245, 246, 247, 254, 255, 256, 257] (by decide +kernel) (by decide +kernel)
set_option maxRecDepth 20000 in
theorem gX3_write_J4_append_15ec4 : GoodIn wsX3_write (wsV RX3 58 RJ4 yJ4_append_15ec4 wsJ4_append_15ec4) := goodIn_app (goodIn_of _ (by decide +kernel)) ggX3_write_J4_append_15ec4
theorem dX3_write_0 : decode cX3_write 0 = .ok (.aload_n 0, 1) := by decide +kernel
theorem dX3_write_1 : decode cX3_write 1 = .ok (.getfield 28, 3) := by decide +kernel
theorem dX3_write_4 : decode cX3_write 4 = .ok (.bipush 20, 2) := by decide +kernel
theorem dX3_write_6 : decode cX3_write 6 = .ok (.iadd, 1) := by decide +kernel
theorem dX3_write_7 : decode cX3_write 7 = .ok (.aload_n 0, 1) := by decide +kernel
theorem dX3_write_8 : decode cX3_write 8 = .ok (.getfield 24, 3) := by decide +kernel
theorem dX3_write_11 : decode cX3_write 11 = .ok (.isub, 1) := by decide +kernel
theorem dX3_write_12 : decode cX3_write 12 = .ok (.iload_n 1, 1) := by decide +kernel
theorem dX3_write_13 : decode cX3_write 13 = .ok (.iadd, 1) := by decide +kernel
theorem dX3_write_14 : decode cX3_write 14 = .ok (.bipush 20, 2) := by decide +kernel
theorem dX3_write_16 : decode cX3_write 16 = .ok (.irem, 1) := by decide +kernel
theorem dX3_write_17 : decode cX3_write 17 = .ok (.istore_n 3, 1) := by decide +kernel
theorem dX3_write_18 : decode cX3_write 18 = .ok (.aload_n 2, 1) := by decide +kernel
theorem dX3_write_19 : decode cX3_write 19 = .ok (.iconst 0, 1) := by decide +kernel
theorem dX3_write_20 : decode cX3_write 20 = .ok (.invokevirtual 43, 3) := by decide +kernel
theorem dX3_write_23 : decode cX3_write 23 = .ok (.aload_n 2, 1) := by decide +kernel
theorem dX3_write_24 : decode cX3_write 24 = .ok (.bipush 100, 2) := by decide +kernel
theorem dX3_write_26 : decode cX3_write 26 = .ok (.invokevirtual 49, 3) := by decide +kernel
theorem dX3_write_29 : decode cX3_write 29 = .ok (.aload_n 0, 1) := by decide +kernel
theorem dX3_write_30 : decode cX3_write 30 = .ok (.getfield 15, 3) := by decide +kernel
theorem dX3_write_33 : decode cX3_write 33 = .ok (.iload_n 3, 1) := by decide +kernel
theorem dX3_write_34 : decode cX3_write 34 = .ok (.iaload, 1) := by decide +kernel
theorem dX3_write_35 : decode cX3_write 35 = .ok (.invokevirtual 53, 3) := by decide +kernel
theorem dX3_write_38 : decode cX3_write 38 = .ok (.bipush 32, 2) := by decide +kernel
theorem dX3_write_40 : decode cX3_write 40 = .ok (.invokevirtual 49, 3) := by decide +kernel
theorem dX3_write_43 : decode cX3_write 43 = .ok (.pop, 1) := by decide +kernel
theorem dX3_write_44 : decode cX3_write 44 = .ok (.aload_n 0, 1) := by decide +kernel
theorem dX3_write_45 : decode cX3_write 45 = .ok (.getfield 9, 3) := by decide +kernel
theorem dX3_write_48 : decode cX3_write 48 = .ok (.iload_n 3, 1) := by decide +kernel
theorem dX3_write_49 : decode cX3_write 49 = .ok (.iaload, 1) := by decide +kernel
theorem dX3_write_50 : decode cX3_write 50 = .ok (.tableswitch 111 0 2 #[26, 59, 92], 26) := by decide +kernel
theorem dX3_write_76 : decode cX3_write 76 = .ok (.aload_n 2, 1) := by decide +kernel
theorem dX3_write_77 : decode cX3_write 77 = .ok (.bipush 104, 2) := by decide +kernel
theorem dX3_write_79 : decode cX3_write 79 = .ok (.invokevirtual 49, 3) := by decide +kernel
theorem dX3_write_82 : decode cX3_write 82 = .ok (.aload_n 0, 1) := by decide +kernel
theorem dX3_write_83 : decode cX3_write 83 = .ok (.getfield 18, 3) := by decide +kernel
theorem dX3_write_86 : decode cX3_write 86 = .ok (.iload_n 3, 1) := by decide +kernel
theorem dX3_write_87 : decode cX3_write 87 = .ok (.iaload, 1) := by decide +kernel
theorem dX3_write_88 : decode cX3_write 88 = .ok (.invokevirtual 53, 3) := by decide +kernel
theorem dX3_write_91 : decode cX3_write 91 = .ok (.bipush 98, 2) := by decide +kernel
theorem dX3_write_93 : decode cX3_write 93 = .ok (.invokevirtual 49, 3) := by decide +kernel
theorem dX3_write_96 : decode cX3_write 96 = .ok (.aload_n 0, 1) := by decide +kernel
theorem dX3_write_97 : decode cX3_write 97 = .ok (.getfield 21, 3) := by decide +kernel
theorem dX3_write_100 : decode cX3_write 100 = .ok (.iload_n 3, 1) := by decide +kernel
theorem dX3_write_101 : decode cX3_write 101 = .ok (.iaload, 1) := by decide +kernel
theorem dX3_write_102 : decode cX3_write 102 = .ok (.invokevirtual 53, 3) := by decide +kernel
theorem dX3_write_105 : decode cX3_write 105 = .ok (.pop, 1) := by decide +kernel
theorem dX3_write_106 : decode cX3_write 106 = .ok (.goto 62, 3) := by decide +kernel
theorem dX3_write_109 : decode cX3_write 109 = .ok (.aload_n 2, 1) := by decide +kernel
theorem dX3_write_110 : decode cX3_write 110 = .ok (.bipush 104, 2) := by decide +kernel
theorem dX3_write_112 : decode cX3_write 112 = .ok (.invokevirtual 49, 3) := by decide +kernel
theorem dX3_write_115 : decode cX3_write 115 = .ok (.aload_n 0, 1) := by decide +kernel
theorem dX3_write_116 : decode cX3_write 116 = .ok (.getfield 18, 3) := by decide +kernel
theorem dX3_write_119 : decode cX3_write 119 = .ok (.iload_n 3, 1) := by decide +kernel
theorem dX3_write_120 : decode cX3_write 120 = .ok (.iaload, 1) := by decide +kernel
theorem dX3_write_121 : decode cX3_write 121 = .ok (.invokevirtual 53, 3) := by decide +kernel
theorem dX3_write_124 : decode cX3_write 124 = .ok (.bipush 120, 2) := by decide +kernel
theorem dX3_write_126 : decode cX3_write 126 = .ok (.invokevirtual 49, 3) := by decide +kernel
theorem dX3_write_129 : decode cX3_write 129 = .ok (.aload_n 0, 1) := by decide +kernel
theorem dX3_write_130 : decode cX3_write 130 = .ok (.getfield 21, 3) := by decide +kernel
theorem dX3_write_133 : decode cX3_write 133 = .ok (.iload_n 3, 1) := by decide +kernel
theorem dX3_write_134 : decode cX3_write 134 = .ok (.iaload, 1) := by decide +kernel
theorem dX3_write_135 : decode cX3_write 135 = .ok (.invokevirtual 53, 3) := by decide +kernel
theorem dX3_write_138 : decode cX3_write 138 = .ok (.pop, 1) := by decide +kernel
theorem dX3_write_139 : decode cX3_write 139 = .ok (.goto 29, 3) := by decide +kernel
theorem dX3_write_142 : decode cX3_write 142 = .ok (.aload_n 2, 1) := by decide +kernel
theorem dX3_write_143 : decode cX3_write 143 = .ok (.ldc 56, 2) := by decide +kernel
theorem dX3_write_145 : decode cX3_write 145 = .ok (.invokevirtual 58, 3) := by decide +kernel
theorem dX3_write_148 : decode cX3_write 148 = .ok (.aload_n 0, 1) := by decide +kernel
theorem dX3_write_149 : decode cX3_write 149 = .ok (.getfield 18, 3) := by decide +kernel
theorem dX3_write_152 : decode cX3_write 152 = .ok (.iload_n 3, 1) := by decide +kernel
theorem dX3_write_153 : decode cX3_write 153 = .ok (.iaload, 1) := by decide +kernel
theorem dX3_write_154 : decode cX3_write 154 = .ok (.invokevirtual 53, 3) := by decide +kernel
theorem dX3_write_157 : decode cX3_write 157 = .ok (.pop, 1) := by decide +kernel
theorem dX3_write_158 : decode cX3_write 158 = .ok (.goto 10, 3) := by decide +kernel
theorem dX3_write_161 : decode cX3_write 161 = .ok (.aload_n 2, 1) := by decide +kernel
theorem dX3_write_162 : decode cX3_write 162 = .ok (.ldc 61, 2) := by decide +kernel
theorem dX3_write_164 : decode cX3_write 164 = .ok (.invokevirtual 58, 3) := by decide +kernel
theorem dX3_write_167 : decode cX3_write 167 = .ok (.pop, 1) := by decide +kernel
theorem dX3_write_168 : decode cX3_write 168 = .ok (.return_, 1) := by decide +kernel
theorem dX4_init_0 : decode cX4_init 0 = .ok (.aload_n 0, 1) := by decide +kernel
theorem dX4_init_1 : decode cX4_init 1 = .ok (.invokespecial 3, 3) := by decide +kernel
theorem dX4_init_4 : decode cX4_init 4 = .ok (.aload_n 0, 1) := by decide +kernel
theorem dX4_init_5 : decode cX4_init 5 = .ok (.bipush 8, 2) := by decide +kernel
theorem dX4_init_7 : decode cX4_init 7 = .ok (.newarray .int, 2) := by decide +kernel
theorem dX4_init_9 : decode cX4_init 9 = .ok (.putfield 9, 3) := by decide +kernel
theorem dX4_init_12 : decode cX4_init 12 = .ok (.return_, 1) := by decide +kernel
theorem dX4_copyFrom_0 : decode cX4_copyFrom 0 = .ok (.aload_n 0, 1) := by decide +kernel
theorem dX4_copyFrom_1 : decode cX4_copyFrom 1 = .ok (.aload_n 1, 1) := by decide +kernel
theorem dX4_copyFrom_2 : decode cX4_copyFrom 2 = .ok (.getfield 15, 3) := by decide +kernel
theorem dX4_copyFrom_5 : decode cX4_copyFrom 5 = .ok (.putfield 15, 3) := by decide +kernel
theorem dX4_copyFrom_8 : decode cX4_copyFrom 8 = .ok (.aload_n 1, 1) := by decide +kernel
theorem dX4_copyFrom_9 : decode cX4_copyFrom 9 = .ok (.getfield 9, 3) := by decide +kernel
theorem dX4_copyFrom_12 : decode cX4_copyFrom 12 = .ok (.iconst 0, 1) := by decide +kernel
theorem dX4_copyFrom_13 : decode cX4_copyFrom 13 = .ok (.aload_n 0, 1) := by decide +kernel
theorem dX4_copyFrom_14 : decode cX4_copyFrom 14 = .ok (.getfield 9, 3) := by decide +kernel
theorem dX4_copyFrom_17 : decode cX4_copyFrom 17 = .ok (.iconst 0, 1) := by decide +kernel
theorem dX4_copyFrom_18 : decode cX4_copyFrom 18 = .ok (.bipush 8, 2) := by decide +kernel
theorem dX4_copyFrom_20 : decode cX4_copyFrom 20 = .ok (.invokestatic 19, 3) := by decide +kernel
theorem dX4_copyFrom_23 : decode cX4_copyFrom 23 = .ok (.return_, 1) := by decide +kernel
theorem dX4_hasPlace_0 : decode cX4_hasPlace 0 = .ok (.iload_n 1, 1) := by decide +kernel
theorem dX4_hasPlace_1 : decode cX4_hasPlace 1 = .ok (.ifCond .lt 15, 3) := by decide +kernel
theorem dX4_hasPlace_4 : decode cX4_hasPlace 4 = .ok (.iload_n 1, 1) := by decide +kernel
theorem dX4_hasPlace_5 : decode cX4_hasPlace 5 = .ok (.aload_n 0, 1) := by decide +kernel
theorem dX4_hasPlace_6 : decode cX4_hasPlace 6 = .ok (.getfield 15, 3) := by decide +kernel
theorem dX4_hasPlace_9 : decode cX4_hasPlace 9 = .ok (.if_icmp .ge 7, 3) := by decide +kernel
theorem dX4_hasPlace_12 : decode cX4_hasPlace 12 = .ok (.iconst 1, 1) := by decide +kernel
theorem dX4_hasPlace_13 : decode cX4_hasPlace 13 = .ok (.goto 4, 3) := by decide +kernel
theorem dX4_hasPlace_16 : decode cX4_hasPlace 16 = .ok (.iconst 0, 1) := by decide +kernel
theorem dX4_hasPlace_17 : decode cX4_hasPlace 17 = .ok (.ireturn, 1) := by decide +kernel
theorem dX4_placeOf_0 : decode cX4_placeOf 0 = .ok (.iconst 0, 1) := by decide +kernel
theorem dX4_placeOf_1 : decode cX4_placeOf 1 = .ok (.istore_n 2, 1) := by decide +kernel
theorem dX4_placeOf_2 : decode cX4_placeOf 2 = .ok (.iload_n 2, 1) := by decide +kernel
theorem dX4_placeOf_3 : decode cX4_placeOf 3 = .ok (.aload_n 0, 1) := by decide +kernel
theorem dX4_placeOf_4 : decode cX4_placeOf 4 = .ok (.getfield 15, 3) := by decide +kernel
theorem dX4_placeOf_7 : decode cX4_placeOf 7 = .ok (.if_icmp .ge 21, 3) := by decide +kernel
theorem dX4_placeOf_10 : decode cX4_placeOf 10 = .ok (.aload_n 0, 1) := by decide +kernel
theorem dX4_placeOf_11 : decode cX4_placeOf 11 = .ok (.getfield 9, 3) := by decide +kernel
theorem dX4_placeOf_14 : decode cX4_placeOf 14 = .ok (.iload_n 2, 1) := by decide +kernel
theorem dX4_placeOf_15 : decode cX4_placeOf 15 = .ok (.iaload, 1) := by decide +kernel
theorem dX4_placeOf_16 : decode cX4_placeOf 16 = .ok (.iload_n 1, 1) := by decide +kernel
theorem dX4_placeOf_17 : decode cX4_placeOf 17 = .ok (.if_icmp .ne 5, 3) := by decide +kernel
theorem dX4_placeOf_20 : decode cX4_placeOf 20 = .ok (.iload_n 2, 1) := by decide +kernel
theorem dX4_placeOf_21 : decode cX4_placeOf 21 = .ok (.ireturn, 1) := by decide +kernel
theorem dX4_placeOf_22 : decode cX4_placeOf 22 = .ok (.iinc 2 1, 3) := by decide +kernel
theorem dX4_placeOf_25 : decode cX4_placeOf 25 = .ok (.goto (-23), 3) := by decide +kernel
theorem dX4_placeOf_28 : decode cX4_placeOf 28 = .ok (.iconst (-1), 1) := by decide +kernel
theorem dX4_placeOf_29 : decode cX4_placeOf 29 = .ok (.ireturn, 1) := by decide +kernel
theorem dX4_addLast_0 : decode cX4_addLast 0 = .ok (.aload_n 0, 1) := by decide +kernel
theorem dX4_addLast_1 : decode cX4_addLast 1 = .ok (.getfield 15, 3) := by decide +kernel
theorem dX4_addLast_4 : decode cX4_addLast 4 = .ok (.bipush 8, 2) := by decide +kernel
theorem dX4_addLast_6 : decode cX4_addLast 6 = .ok (.if_icmp .ge 23, 3) := by decide +kernel
theorem dX4_addLast_9 : decode cX4_addLast 9 = .ok (.aload_n 0, 1) := by decide +kernel
theorem dX4_addLast_10 : decode cX4_addLast 10 = .ok (.getfield 9, 3) := by decide +kernel
theorem dX4_addLast_13 : decode cX4_addLast 13 = .ok (.aload_n 0, 1) := by decide +kernel
theorem dX4_addLast_14 : decode cX4_addLast 14 = .ok (.getfield 15, 3) := by decide +kernel
theorem dX4_addLast_17 : decode cX4_addLast 17 = .ok (.iload_n 1, 1) := by decide +kernel
theorem dX4_addLast_18 : decode cX4_addLast 18 = .ok (.iastore, 1) := by decide +kernel
theorem dX4_addLast_19 : decode cX4_addLast 19 = .ok (.aload_n 0, 1) := by decide +kernel
theorem dX4_addLast_20 : decode cX4_addLast 20 = .ok (.dup, 1) := by decide +kernel
theorem dX4_addLast_21 : decode cX4_addLast 21 = .ok (.getfield 15, 3) := by decide +kernel
theorem dX4_addLast_24 : decode cX4_addLast 24 = .ok (.iconst 1, 1) := by decide +kernel
theorem dX4_addLast_25 : decode cX4_addLast 25 = .ok (.iadd, 1) := by decide +kernel
theorem dX4_addLast_26 : decode cX4_addLast 26 = .ok (.putfield 15, 3) := by decide +kernel
theorem dX4_addLast_29 : decode cX4_addLast 29 = .ok (.return_, 1) := by decide +kernel
set_option maxRecDepth 20000 in
theorem ggX4_removePlace_X4_hasPlace : GoodIn wsX4_removePlace wsX4_hasPlace := goodIn_r _ [7, 1, 8, 9] (by decide +kernel) (by decide +kernel)
set_option maxRecDepth 20000 in
theorem gX4_removePlace_X4_hasPlace : GoodIn wsX4_removePlace (wsV RX4 25 RX4 yX4_hasPlace wsX4_hasPlace) := goodIn_app (goodIn_of _ (by decide +kernel)) ggX4_removePlace_X4_hasPlace
theorem dX4_removePlace_0 : decode cX4_removePlace 0 = .ok (.aload_n 0, 1) := by decide +kernel
theorem dX4_removePlace_1 : decode cX4_removePlace 1 = .ok (.iload_n 1, 1) := by decide +kernel
theorem dX4_removePlace_2 : decode cX4_removePlace 2 = .ok (.invokevirtual 25, 3) := by decide +kernel
theorem dX4_removePlace_5 : decode cX4_removePlace 5 = .ok (.ifCond .eq 43, 3) := by decide +kernel
theorem dX4_removePlace_8 : decode cX4_removePlace 8 = .ok (.aload_n 0, 1) := by decide +kernel
theorem dX4_removePlace_9 : decode cX4_removePlace 9 = .ok (.dup, 1) := by decide +kernel
theorem dX4_removePlace_10 : decode cX4_removePlace 10 = .ok (.getfield 15, 3) := by decide +kernel
theorem dX4_removePlace_13 : decode cX4_removePlace 13 = .ok (.iconst 1, 1) := by decide +kernel
theorem dX4_removePlace_14 : decode cX4_removePlace 14 = .ok (.isub, 1) := by decide +kernel
theorem dX4_removePlace_15 : decode cX4_removePlace 15 = .ok (.putfield 15, 3) := by decide +kernel
theorem dX4_removePlace_18 : decode cX4_removePlace 18 = .ok (.iload_n 1, 1) := by decide +kernel
theorem dX4_removePlace_19 : decode cX4_removePlace 19 = .ok (.istore_n 2, 1) := by decide +kernel
theorem dX4_removePlace_20 : decode cX4_removePlace 20 = .ok (.iload_n 2, 1) := by decide +kernel
theorem dX4_removePlace_21 : decode cX4_removePlace 21 = .ok (.aload_n 0, 1) := by decide +kernel
theorem dX4_removePlace_22 : decode cX4_removePlace 22 = .ok (.getfield 15, 3) := by decide +kernel
theorem dX4_removePlace_25 : decode cX4_removePlace 25 = .ok (.if_icmp .ge 23, 3) := by decide +kernel
theorem dX4_removePlace_28 : decode cX4_removePlace 28 = .ok (.aload_n 0, 1) := by decide +kernel
theorem dX4_removePlace_29 : decode cX4_removePlace 29 = .ok (.getfield 9, 3) := by decide +kernel
theorem dX4_removePlace_32 : decode cX4_removePlace 32 = .ok (.iload_n 2, 1) := by decide +kernel
theorem dX4_removePlace_33 : decode cX4_removePlace 33 = .ok (.aload_n 0, 1) := by decide +kernel
theorem dX4_removePlace_34 : decode cX4_removePlace 34 = .ok (.getfield 9, 3) := by decide +kernel
theorem dX4_removePlace_37 : decode cX4_removePlace 37 = .ok (.iload_n 2, 1) := by decide +kernel
theorem dX4_removePlace_38 : decode cX4_removePlace 38 = .ok (.iconst 1, 1) := by decide +kernel
theorem dX4_removePlace_39 : decode cX4_removePlace 39 = .ok (.iadd, 1) := by decide +kernel
theorem dX4_removePlace_40 : decode cX4_removePlace 40 = .ok (.iaload, 1) := by decide +kernel
theorem dX4_removePlace_41 : decode cX4_removePlace 41 = .ok (.iastore, 1) := by decide +kernel
theorem dX4_removePlace_42 : decode cX4_removePlace 42 = .ok (.iinc 2 1, 3) := by decide +kernel
theorem dX4_removePlace_45 : decode cX4_removePlace 45 = .ok (.goto (-25), 3) := by decide +kernel
theorem dX4_removePlace_48 : decode cX4_removePlace 48 = .ok (.return_, 1) := by decide +kernel
theorem dX5_init_0 : decode cX5_init 0 = .ok (.aload_n 0, 1) := by decide +kernel
theorem dX5_init_1 : decode cX5_init 1 = .ok (.invokespecial 1, 3) := by decide +kernel
theorem dX5_init_4 : decode cX5_init 4 = .ok (.return_, 1) := by decide +kernel
theorem dX5_because_0 : decode cX5_because 0 = .ok (.aload_n 0, 1) := by decide +kernel
theorem dX5_because_1 : decode cX5_because 1 = .ok (.iload_n 1, 1) := by decide +kernel
theorem dX5_because_2 : decode cX5_because 2 = .ok (.putfield 7, 3) := by decide +kernel
theorem dX5_because_5 : decode cX5_because 5 = .ok (.aload_n 0, 1) := by decide +kernel
theorem dX5_because_6 : decode cX5_because 6 = .ok (.iload_n 2, 1) := by decide +kernel
theorem dX5_because_7 : decode cX5_because 7 = .ok (.putfield 13, 3) := by decide +kernel
theorem dX5_because_10 : decode cX5_because 10 = .ok (.aload_n 0, 1) := by decide +kernel
theorem dX5_because_11 : decode cX5_because 11 = .ok (.aload_n 0, 1) := by decide +kernel
theorem dX5_because_12 : decode cX5_because 12 = .ok (.getfield 16, 3) := by decide +kernel
theorem dX5_because_15 : decode cX5_because 15 = .ok (.putfield 19, 3) := by decide +kernel
theorem dX5_because_18 : decode cX5_because 18 = .ok (.iconst 1, 1) := by decide +kernel
theorem dX5_because_19 : decode cX5_because 19 = .ok (.ireturn, 1) := by decide +kernel
set_option maxRecDepth 20000 in
theorem ggX6_init_X2_init : GoodIn wsX6_init wsX2_init := goodIn_r _ [21, 22, 2, 3, 23, 24, 25, 26, 27, 28, 29, 30, 31, 48, 49, 50, 51, 52, 53, 54, 55, 56] (by decide +kernel) (by decide +kernel)
set_option maxRecDepth 20000 in
theorem gX6_init_X2_init_n11 : GoodIn wsX6_init (wsX2_init) := ggX6_init_X2_init
set_option maxRecDepth 20000 in
theorem ggX6_init_X4_init : GoodIn wsX6_init wsX4_init := goodIn_r _ [33, 34, 2, 3, 23, 35, 64, 65] (by decide +kernel) (by decide +kernel)
set_option maxRecDepth 20000 in
theorem gX6_init_X4_init_n20 : GoodIn wsX6_init (wsX4_init) := ggX6_init_X4_init
set_option maxRecDepth 20000 in
theorem ggX6_init_X7_init : GoodIn wsX6_init wsX7_init := goodIn_r _ [37, 38, 2, 3, 39, 40, 66, 67, 68, 69, 70, 71, 72, 73] (by decide +kernel) (by decide +kernel)
set_option maxRecDepth 20000 in
theorem gX6_init_X7_init_n27 : GoodIn wsX6_init (wsX7_init) := ggX6_init_X7_init
set_option maxRecDepth 20000 in
theorem ggX6_init_X3_init : GoodIn wsX6_init wsX3_init := goodIn_r _ [42, 43, 2, 3, 23, 44, 45, 46, 47, 74, 75, 76, 77, 78, 79] (by decide +kernel) (by decide +kernel)
set_option maxRecDepth 20000 in
theorem gX6_init_X3_init_n34 : GoodIn wsX6_init (wsX3_init) := ggX6_init_X3_init
theorem dX6_init_0 : decode cX6_init 0 = .ok (.aload_n 0, 1) := by decide +kernel
theorem dX6_init_1 : decode cX6_init 1 = .ok (.invokespecial 3, 3) := by decide +kernel
theorem dX6_init_4 : decode cX6_init 4 = .ok (.aload_n 0, 1) := by decide +kernel
theorem dX6_init_5 : decode cX6_init 5 = .ok (.new 9, 3) := by decide +kernel
theorem dX6_init_8 : decode cX6_init 8 = .ok (.dup, 1) := by decide +kernel
theorem dX6_init_9 : decode cX6_init 9 = .ok (.invokespecial 11, 3) := by decide +kernel
theorem dX6_init_12 : decode cX6_init 12 = .ok (.putfield 12, 3) := by decide +kernel
theorem dX6_init_15 : decode cX6_init 15 = .ok (.aload_n 0, 1) := by decide +kernel
theorem dX6_init_16 : decode cX6_init 16 = .ok (.new 18, 3) := by decide +kernel
theorem dX6_init_19 : decode cX6_init 19 = .ok (.dup, 1) := by decide +kernel
theorem dX6_init_20 : decode cX6_init 20 = .ok (.invokespecial 20, 3) := by decide +kernel
theorem dX6_init_23 : decode cX6_init 23 = .ok (.putfield 21, 3) := by decide +kernel
theorem dX6_init_26 : decode cX6_init 26 = .ok (.aload_n 0, 1) := by decide +kernel
theorem dX6_init_27 : decode cX6_init 27 = .ok (.new 25, 3) := by decide +kernel
theorem dX6_init_30 : decode cX6_init 30 = .ok (.dup, 1) := by decide +kernel
theorem dX6_init_31 : decode cX6_init 31 = .ok (.invokespecial 27, 3) := by decide +kernel
theorem dX6_init_34 : decode cX6_init 34 = .ok (.putfield 28, 3) := by decide +kernel
theorem dX6_init_37 : decode cX6_init 37 = .ok (.aload_n 0, 1) := by decide +kernel
theorem dX6_init_38 : decode cX6_init 38 = .ok (.new 32, 3) := by decide +kernel
theorem dX6_init_41 : decode cX6_init 41 = .ok (.dup, 1) := by decide +kernel
theorem dX6_init_42 : decode cX6_init 42 = .ok (.invokespecial 34, 3) := by decide +kernel
theorem dX6_init_45 : decode cX6_init 45 = .ok (.putfield 35, 3) := by decide +kernel
theorem dX6_init_48 : decode cX6_init 48 = .ok (.return_, 1) := by decide +kernel
set_option maxRecDepth 20000 in
theorem ggX6_copyFrom_X2_copyFrom : GoodIn wsX6_copyFrom wsX2_copyFrom := goodIn_ca (goodIn_r _ [11, 12, 13, 14, 15, 16, 17, 18, 19, 20, 21, 22, 23, 24, 62, 63, 64, 65, 66, 67, 68, 69, 70] (by decide +kernel) (by decide +kernel)) (goodIn_sub (fun _ h => List.mem_cons_of_mem _ (List.mem_append_right _ h)) (by decide +kernel))
set_option maxRecDepth 20000 in
theorem gX6_copyFrom_X2_copyFrom_n39 : GoodIn wsX6_copyFrom (wsX2_copyFrom) := ggX6_copyFrom_X2_copyFrom
set_option maxRecDepth 20000 in
theorem ggX6_copyFrom_X4_copyFrom : GoodIn wsX6_copyFrom wsX4_copyFrom := goodIn_r _ [28, 29, 30, 31, 22, 23, 24, 71, 72] (by decide +kernel) (by decide +kernel)
set_option maxRecDepth 20000 in
theorem gX6_copyFrom_X4_copyFrom_n43 : GoodIn wsX6_copyFrom (wsX4_copyFrom) := ggX6_copyFrom_X4_copyFrom
set_option maxRecDepth 20000 in
theorem ggX6_copyFrom_X7_copyFrom : GoodIn wsX6_copyFrom wsX7_copyFrom := goodIn_r _ [35, 36, 37, 38, 39, 40, 41, 42, 43, 73, 74, 75, 76, 77, 78, 79, 80] (by decide +kernel) (by decide +kernel)
set_option maxRecDepth 20000 in
theorem gX6_copyFrom_X7_copyFrom_n46 : GoodIn wsX6_copyFrom (wsX7_copyFrom) := ggX6_copyFrom_X7_copyFrom
set_option maxRecDepth 20000 in
theorem ggX6_copyFrom_X3_copyFrom : GoodIn wsX6_copyFrom wsX3_copyFrom := goodIn_r _ [47, 48, 49, 50, 51, 22, 23, 24, 52, 53, 54, 81, 82, 83, 84, 85, 86] (by decide +kernel) (by decide +kernel)
set_option maxRecDepth 20000 in
theorem gX6_copyFrom_X3_copyFrom_n49 : GoodIn wsX6_copyFrom (wsX3_copyFrom) := ggX6_copyFrom_X3_copyFrom
theorem dX6_copyFrom_0 : decode cX6_copyFrom 0 = .ok (.aload_n 0, 1) := by decide +kernel
theorem dX6_copyFrom_1 : decode cX6_copyFrom 1 = .ok (.getfield 12, 3) := by decide +kernel
theorem dX6_copyFrom_4 : decode cX6_copyFrom 4 = .ok (.aload_n 1, 1) := by decide +kernel
theorem dX6_copyFrom_5 : decode cX6_copyFrom 5 = .ok (.getfield 12, 3) := by decide +kernel
theorem dX6_copyFrom_8 : decode cX6_copyFrom 8 = .ok (.invokevirtual 39, 3) := by decide +kernel
theorem dX6_copyFrom_11 : decode cX6_copyFrom 11 = .ok (.aload_n 0, 1) := by decide +kernel
theorem dX6_copyFrom_12 : decode cX6_copyFrom 12 = .ok (.getfield 21, 3) := by decide +kernel
theorem dX6_copyFrom_15 : decode cX6_copyFrom 15 = .ok (.aload_n 1, 1) := by decide +kernel
theorem dX6_copyFrom_16 : decode cX6_copyFrom 16 = .ok (.getfield 21, 3) := by decide +kernel
theorem dX6_copyFrom_19 : decode cX6_copyFrom 19 = .ok (.invokevirtual 43, 3) := by decide +kernel
theorem dX6_copyFrom_22 : decode cX6_copyFrom 22 = .ok (.aload_n 0, 1) := by decide +kernel
theorem dX6_copyFrom_23 : decode cX6_copyFrom 23 = .ok (.getfield 28, 3) := by decide +kernel
theorem dX6_copyFrom_26 : decode cX6_copyFrom 26 = .ok (.aload_n 1, 1) := by decide +kernel
theorem dX6_copyFrom_27 : decode cX6_copyFrom 27 = .ok (.getfield 28, 3) := by decide +kernel
theorem dX6_copyFrom_30 : decode cX6_copyFrom 30 = .ok (.invokevirtual 46, 3) := by decide +kernel
theorem dX6_copyFrom_33 : decode cX6_copyFrom 33 = .ok (.aload_n 0, 1) := by decide +kernel
theorem dX6_copyFrom_34 : decode cX6_copyFrom 34 = .ok (.getfield 35, 3) := by decide +kernel
theorem dX6_copyFrom_37 : decode cX6_copyFrom 37 = .ok (.aload_n 1, 1) := by decide +kernel
theorem dX6_copyFrom_38 : decode cX6_copyFrom 38 = .ok (.getfield 35, 3) := by decide +kernel
theorem dX6_copyFrom_41 : decode cX6_copyFrom 41 = .ok (.invokevirtual 49, 3) := by decide +kernel
theorem dX6_copyFrom_44 : decode cX6_copyFrom 44 = .ok (.aload_n 0, 1) := by decide +kernel
theorem dX6_copyFrom_45 : decode cX6_copyFrom 45 = .ok (.aload_n 1, 1) := by decide +kernel
theorem dX6_copyFrom_46 : decode cX6_copyFrom 46 = .ok (.getfield 52, 3) := by decide +kernel
theorem dX6_copyFrom_49 : decode cX6_copyFrom 49 = .ok (.putfield 52, 3) := by decide +kernel
theorem dX6_copyFrom_52 : decode cX6_copyFrom 52 = .ok (.aload_n 0, 1) := by decide +kernel
theorem dX6_copyFrom_53 : decode cX6_copyFrom 53 = .ok (.aload_n 1, 1) := by decide +kernel
theorem dX6_copyFrom_54 : decode cX6_copyFrom 54 = .ok (.getfield 56, 3) := by decide +kernel
theorem dX6_copyFrom_57 : decode cX6_copyFrom 57 = .ok (.putfield 56, 3) := by decide +kernel
theorem dX6_copyFrom_60 : decode cX6_copyFrom 60 = .ok (.aload_n 0, 1) := by decide +kernel
theorem dX6_copyFrom_61 : decode cX6_copyFrom 61 = .ok (.aload_n 1, 1) := by decide +kernel
theorem dX6_copyFrom_62 : decode cX6_copyFrom 62 = .ok (.getfield 59, 3) := by decide +kernel
theorem dX6_copyFrom_65 : decode cX6_copyFrom 65 = .ok (.putfield 59, 3) := by decide +kernel
theorem dX6_copyFrom_68 : decode cX6_copyFrom 68 = .ok (.return_, 1) := by decide +kernel
set_option maxRecDepth 20000 in
theorem ggX6_turnsOf_X2_lawfulTurns : GoodIn wsX6_turnsOf wsX2_lawfulTurns := goodIn_ca (goodIn_r _ [7, 8, 9, 25, 26, 27, 28, 29, 30, 31, 32, 33] (by decide +kernel) (by decide +kernel)) (goodIn_sub (fun _ h => List.mem_cons_of_mem _ (List.mem_append_right _ h)) (by decide +kernel))
set_option maxRecDepth 20000 in
theorem gX6_turnsOf_X2_lawfulTurns_n62 : GoodIn wsX6_turnsOf (wsX2_lawfulTurns) := ggX6_turnsOf_X2_lawfulTurns
theorem dX6_turnsOf_0 : decode cX6_turnsOf 0 = .ok (.aload_n 0, 1) := by decide +kernel
theorem dX6_turnsOf_1 : decode cX6_turnsOf 1 = .ok (.getfield 12, 3) := by decide +kernel
theorem dX6_turnsOf_4 : decode cX6_turnsOf 4 = .ok (.iload_n 1, 1) := by decide +kernel
theorem dX6_turnsOf_5 : decode cX6_turnsOf 5 = .ok (.aload_n 0, 1) := by decide +kernel
theorem dX6_turnsOf_6 : decode cX6_turnsOf 6 = .ok (.getfield 56, 3) := by decide +kernel
theorem dX6_turnsOf_9 : decode cX6_turnsOf 9 = .ok (.invokevirtual 62, 3) := by decide +kernel
theorem dX6_turnsOf_12 : decode cX6_turnsOf 12 = .ok (.istore_n 2, 1) := by decide +kernel
theorem dX6_turnsOf_13 : decode cX6_turnsOf 13 = .ok (.aload_n 0, 1) := by decide +kernel
theorem dX6_turnsOf_14 : decode cX6_turnsOf 14 = .ok (.getfield 28, 3) := by decide +kernel
theorem dX6_turnsOf_17 : decode cX6_turnsOf 17 = .ok (.getfield 66, 3) := by decide +kernel
theorem dX6_turnsOf_20 : decode cX6_turnsOf 20 = .ok (.ifCond .eq 11, 3) := by decide +kernel
theorem dX6_turnsOf_23 : decode cX6_turnsOf 23 = .ok (.iload_n 2, 1) := by decide +kernel
theorem dX6_turnsOf_24 : decode cX6_turnsOf 24 = .ok (.iconst 1, 1) := by decide +kernel
theorem dX6_turnsOf_25 : decode cX6_turnsOf 25 = .ok (.iadd, 1) := by decide +kernel
theorem dX6_turnsOf_26 : decode cX6_turnsOf 26 = .ok (.iconst 2, 1) := by decide +kernel
theorem dX6_turnsOf_27 : decode cX6_turnsOf 27 = .ok (.idiv, 1) := by decide +kernel
theorem dX6_turnsOf_28 : decode cX6_turnsOf 28 = .ok (.goto 4, 3) := by decide +kernel
theorem dX6_turnsOf_31 : decode cX6_turnsOf 31 = .ok (.iload_n 2, 1) := by decide +kernel
theorem dX6_turnsOf_32 : decode cX6_turnsOf 32 = .ok (.ireturn, 1) := by decide +kernel
set_option maxRecDepth 20000 in
theorem ggX6_turnsLeft_X6_turnsOf : GoodIn wsX6_turnsLeft wsX6_turnsOf := goodIn_ca (goodIn_r _ [10, 1, 11, 12, 13, 14, 15, 16, 17, 18, 19, 20, 21, 22, 23, 24, 25, 35, 36, 37, 38, 39, 40, 41, 42, 26, 27, 28, 29, 30, 31, 32, 33, 34] (by decide +kernel) (by decide +kernel)) (goodIn_sub (fun _ h => List.mem_cons_of_mem _ (List.mem_append_right _ h)) (by decide +kernel))
set_option maxRecDepth 20000 in
theorem gX6_turnsLeft_X6_turnsOf : GoodIn wsX6_turnsLeft (wsV RX6 70 RX6 yX6_turnsOf wsX6_turnsOf) := goodIn_app (goodIn_of _ (by decide +kernel)) ggX6_turnsLeft_X6_turnsOf
theorem dX6_turnsLeft_0 : decode cX6_turnsLeft 0 = .ok (.iconst 0, 1) := by decide +kernel
theorem dX6_turnsLeft_1 : decode cX6_turnsLeft 1 = .ok (.aload_n 0, 1) := by decide +kernel
theorem dX6_turnsLeft_2 : decode cX6_turnsLeft 2 = .ok (.iload_n 1, 1) := by decide +kernel
theorem dX6_turnsLeft_3 : decode cX6_turnsLeft 3 = .ok (.invokevirtual 70, 3) := by decide +kernel
theorem dX6_turnsLeft_6 : decode cX6_turnsLeft 6 = .ok (.aload_n 0, 1) := by decide +kernel
theorem dX6_turnsLeft_7 : decode cX6_turnsLeft 7 = .ok (.getfield 12, 3) := by decide +kernel
theorem dX6_turnsLeft_10 : decode cX6_turnsLeft 10 = .ok (.getfield 74, 3) := by decide +kernel
theorem dX6_turnsLeft_13 : decode cX6_turnsLeft 13 = .ok (.iload_n 1, 1) := by decide +kernel
theorem dX6_turnsLeft_14 : decode cX6_turnsLeft 14 = .ok (.iaload, 1) := by decide +kernel
theorem dX6_turnsLeft_15 : decode cX6_turnsLeft 15 = .ok (.isub, 1) := by decide +kernel
theorem dX6_turnsLeft_16 : decode cX6_turnsLeft 16 = .ok (.aload_n 0, 1) := by decide +kernel
theorem dX6_turnsLeft_17 : decode cX6_turnsLeft 17 = .ok (.getfield 12, 3) := by decide +kernel
theorem dX6_turnsLeft_20 : decode cX6_turnsLeft 20 = .ok (.getfield 78, 3) := by decide +kernel
theorem dX6_turnsLeft_23 : decode cX6_turnsLeft 23 = .ok (.iload_n 1, 1) := by decide +kernel
theorem dX6_turnsLeft_24 : decode cX6_turnsLeft 24 = .ok (.iaload, 1) := by decide +kernel
theorem dX6_turnsLeft_25 : decode cX6_turnsLeft 25 = .ok (.isub, 1) := by decide +kernel
theorem dX6_turnsLeft_26 : decode cX6_turnsLeft 26 = .ok (.invokestatic 81, 3) := by decide +kernel
theorem dX6_turnsLeft_29 : decode cX6_turnsLeft 29 = .ok (.ireturn, 1) := by decide +kernel
set_option maxRecDepth 20000 in
theorem ggX6_drawsInQueue_X6_turnsLeft : GoodIn wsX6_drawsInQueue wsX6_turnsLeft := goodIn_ca (goodIn_r _ [6, 7, 8, 9, 10, 11, 12, 13, 14, 5, 15, 16, 17, 18, 19, 20, 21, 22, 23, 24, 25, 26, 27, 28, 29, 30, 33, 34, 35, 36, 37, 38, 39, 40, 41, 42, 43, 44, 45, 46, 47, 48, 49] (by decide +kernel) (by decide +kernel)) (goodIn_sub (fun _ h => List.mem_cons_of_mem _ (List.mem_append_right _ h)) (by decide +kernel))
set_option maxRecDepth 20000 in
theorem gX6_drawsInQueue_X6_turnsLeft : GoodIn wsX6_drawsInQueue (wsV RX6 92 RX6 yX6_turnsLeft wsX6_turnsLeft) := goodIn_app (goodIn_of _ (by decide +kernel)) ggX6_drawsInQueue_X6_turnsLeft
theorem dX6_drawsInQueue_0 : decode cX6_drawsInQueue 0 = .ok (.iconst 0, 1) := by decide +kernel
theorem dX6_drawsInQueue_1 : decode cX6_drawsInQueue 1 = .ok (.istore_n 1, 1) := by decide +kernel
theorem dX6_drawsInQueue_2 : decode cX6_drawsInQueue 2 = .ok (.iconst 0, 1) := by decide +kernel
theorem dX6_drawsInQueue_3 : decode cX6_drawsInQueue 3 = .ok (.istore_n 2, 1) := by decide +kernel
theorem dX6_drawsInQueue_4 : decode cX6_drawsInQueue 4 = .ok (.iload_n 2, 1) := by decide +kernel
theorem dX6_drawsInQueue_5 : decode cX6_drawsInQueue 5 = .ok (.aload_n 0, 1) := by decide +kernel
theorem dX6_drawsInQueue_6 : decode cX6_drawsInQueue 6 = .ok (.getfield 21, 3) := by decide +kernel
theorem dX6_drawsInQueue_9 : decode cX6_drawsInQueue 9 = .ok (.getfield 86, 3) := by decide +kernel
theorem dX6_drawsInQueue_12 : decode cX6_drawsInQueue 12 = .ok (.if_icmp .ge 25, 3) := by decide +kernel
theorem dX6_drawsInQueue_15 : decode cX6_drawsInQueue 15 = .ok (.iload_n 1, 1) := by decide +kernel
theorem dX6_drawsInQueue_16 : decode cX6_drawsInQueue 16 = .ok (.aload_n 0, 1) := by decide +kernel
theorem dX6_drawsInQueue_17 : decode cX6_drawsInQueue 17 = .ok (.aload_n 0, 1) := by decide +kernel
theorem dX6_drawsInQueue_18 : decode cX6_drawsInQueue 18 = .ok (.getfield 21, 3) := by decide +kernel
theorem dX6_drawsInQueue_21 : decode cX6_drawsInQueue 21 = .ok (.getfield 89, 3) := by decide +kernel
theorem dX6_drawsInQueue_24 : decode cX6_drawsInQueue 24 = .ok (.iload_n 2, 1) := by decide +kernel
theorem dX6_drawsInQueue_25 : decode cX6_drawsInQueue 25 = .ok (.iaload, 1) := by decide +kernel
theorem dX6_drawsInQueue_26 : decode cX6_drawsInQueue 26 = .ok (.invokevirtual 92, 3) := by decide +kernel
theorem dX6_drawsInQueue_29 : decode cX6_drawsInQueue 29 = .ok (.iadd, 1) := by decide +kernel
theorem dX6_drawsInQueue_30 : decode cX6_drawsInQueue 30 = .ok (.istore_n 1, 1) := by decide +kernel
theorem dX6_drawsInQueue_31 : decode cX6_drawsInQueue 31 = .ok (.iinc 2 1, 3) := by decide +kernel
theorem dX6_drawsInQueue_34 : decode cX6_drawsInQueue 34 = .ok (.goto (-30), 3) := by decide +kernel
theorem dX6_drawsInQueue_37 : decode cX6_drawsInQueue 37 = .ok (.iload_n 1, 1) := by decide +kernel
theorem dX6_drawsInQueue_38 : decode cX6_drawsInQueue 38 = .ok (.ireturn, 1) := by decide +kernel
set_option maxRecDepth 20000 in
theorem ggX6_refusesHousehold_X8_isWithin : GoodIn wsX6_refusesHousehold wsX8_isWithin := goodIn_r _ [4] (by decide +kernel) (by decide +kernel)
set_option maxRecDepth 20000 in
theorem gX6_refusesHousehold_X8_isWithin_n95 : GoodIn wsX6_refusesHousehold (wsX8_isWithin) := ggX6_refusesHousehold_X8_isWithin
set_option maxRecDepth 20000 in
theorem ggX6_refusesHousehold_X5_because : GoodIn wsX6_refusesHousehold wsX5_because := goodIn_r _ [8, 9, 10, 11, 12, 29, 30, 31, 32] (by decide +kernel) (by decide +kernel)
set_option maxRecDepth 20000 in
theorem gX6_refusesHousehold_X5_because_n99 : GoodIn wsX6_refusesHousehold (wsX5_because) := ggX6_refusesHousehold_X5_because
theorem dX6_refusesHousehold_0 : decode cX6_refusesHousehold 0 = .ok (.iload_n 1, 1) := by decide +kernel
theorem dX6_refusesHousehold_1 : decode cX6_refusesHousehold 1 = .ok (.iconst 1, 1) := by decide +kernel
theorem dX6_refusesHousehold_2 : decode cX6_refusesHousehold 2 = .ok (.bipush 9, 2) := by decide +kernel
theorem dX6_refusesHousehold_4 : decode cX6_refusesHousehold 4 = .ok (.invokestatic 95, 3) := by decide +kernel
theorem dX6_refusesHousehold_7 : decode cX6_refusesHousehold 7 = .ok (.ifCond .eq 23, 3) := by decide +kernel
theorem dX6_refusesHousehold_10 : decode cX6_refusesHousehold 10 = .ok (.iload_n 2, 1) := by decide +kernel
theorem dX6_refusesHousehold_11 : decode cX6_refusesHousehold 11 = .ok (.iconst 0, 1) := by decide +kernel
theorem dX6_refusesHousehold_12 : decode cX6_refusesHousehold 12 = .ok (.bipush 19, 2) := by decide +kernel
theorem dX6_refusesHousehold_14 : decode cX6_refusesHousehold 14 = .ok (.invokestatic 95, 3) := by decide +kernel
theorem dX6_refusesHousehold_17 : decode cX6_refusesHousehold 17 = .ok (.ifCond .eq 13, 3) := by decide +kernel
theorem dX6_refusesHousehold_20 : decode cX6_refusesHousehold 20 = .ok (.iload_n 3, 1) := by decide +kernel
theorem dX6_refusesHousehold_21 : decode cX6_refusesHousehold 21 = .ok (.iconst 0, 1) := by decide +kernel
theorem dX6_refusesHousehold_22 : decode cX6_refusesHousehold 22 = .ok (.bipush 9, 2) := by decide +kernel
theorem dX6_refusesHousehold_24 : decode cX6_refusesHousehold 24 = .ok (.invokestatic 95, 3) := by decide +kernel
theorem dX6_refusesHousehold_27 : decode cX6_refusesHousehold 27 = .ok (.ifCond .ne 11, 3) := by decide +kernel
theorem dX6_refusesHousehold_30 : decode cX6_refusesHousehold 30 = .ok (.aload 4, 2) := by decide +kernel
theorem dX6_refusesHousehold_32 : decode cX6_refusesHousehold 32 = .ok (.iconst 1, 1) := by decide +kernel
theorem dX6_refusesHousehold_33 : decode cX6_refusesHousehold 33 = .ok (.iconst 0, 1) := by decide +kernel
theorem dX6_refusesHousehold_34 : decode cX6_refusesHousehold 34 = .ok (.invokevirtual 99, 3) := by decide +kernel
theorem dX6_refusesHousehold_37 : decode cX6_refusesHousehold 37 = .ok (.ireturn, 1) := by decide +kernel
theorem dX6_refusesHousehold_38 : decode cX6_refusesHousehold 38 = .ok (.aload_n 0, 1) := by decide +kernel
theorem dX6_refusesHousehold_39 : decode cX6_refusesHousehold 39 = .ok (.getfield 12, 3) := by decide +kernel
theorem dX6_refusesHousehold_42 : decode cX6_refusesHousehold 42 = .ok (.getfield 105, 3) := by decide +kernel
theorem dX6_refusesHousehold_45 : decode cX6_refusesHousehold 45 = .ok (.bipush 8, 2) := by decide +kernel
theorem dX6_refusesHousehold_47 : decode cX6_refusesHousehold 47 = .ok (.if_icmp .lt 18, 3) := by decide +kernel
theorem dX6_refusesHousehold_50 : decode cX6_refusesHousehold 50 = .ok (.aload 4, 2) := by decide +kernel
theorem dX6_refusesHousehold_52 : decode cX6_refusesHousehold 52 = .ok (.iconst 2, 1) := by decide +kernel
theorem dX6_refusesHousehold_53 : decode cX6_refusesHousehold 53 = .ok (.bipush 8, 2) := by decide +kernel
theorem dX6_refusesHousehold_55 : decode cX6_refusesHousehold 55 = .ok (.invokevirtual 99, 3) := by decide +kernel
theorem dX6_refusesHousehold_58 : decode cX6_refusesHousehold 58 = .ok (.ifCond .eq 7, 3) := by decide +kernel
theorem dX6_refusesHousehold_61 : decode cX6_refusesHousehold 61 = .ok (.iconst 1, 1) := by decide +kernel
theorem dX6_refusesHousehold_62 : decode cX6_refusesHousehold 62 = .ok (.goto 4, 3) := by decide +kernel
theorem dX6_refusesHousehold_65 : decode cX6_refusesHousehold 65 = .ok (.iconst 0, 1) := by decide +kernel
theorem dX6_refusesHousehold_66 : decode cX6_refusesHousehold 66 = .ok (.ireturn, 1) := by decide +kernel
set_option maxRecDepth 20000 in
theorem ggX6_refusesJoin_X2_has : GoodIn wsX6_refusesJoin wsX2_has := goodIn_r _ [6, 7, 49, 50, 51, 52, 53, 54, 55, 56, 57] (by decide +kernel) (by decide +kernel)
set_option maxRecDepth 20000 in
theorem gX6_refusesJoin_X2_has_n108 : GoodIn wsX6_refusesJoin (wsX2_has) := ggX6_refusesJoin_X2_has
set_option maxRecDepth 20000 in
theorem ggX6_refusesJoin_X5_because : GoodIn wsX6_refusesJoin wsX5_because := goodIn_r _ [11, 12, 13, 14, 15, 58, 59, 60, 61] (by decide +kernel) (by decide +kernel)
set_option maxRecDepth 20000 in
theorem gX6_refusesJoin_X5_because_n99 : GoodIn wsX6_refusesJoin (wsX5_because) := ggX6_refusesJoin_X5_because
set_option maxRecDepth 20000 in
theorem ggX6_refusesJoin_X4_placeOf : GoodIn wsX6_refusesJoin wsX4_placeOf := goodIn_ca (goodIn_r _ [19, 20, 21, 62, 63] (by decide +kernel) (by decide +kernel)) (goodIn_sub (fun _ h => List.mem_cons_of_mem _ (List.mem_append_right _ h)) (by decide +kernel))
set_option maxRecDepth 20000 in
theorem gX6_refusesJoin_X4_placeOf_n112 : GoodIn wsX6_refusesJoin (wsX4_placeOf) := ggX6_refusesJoin_X4_placeOf
set_option maxRecDepth 20000 in
theorem ggX6_refusesJoin_X6_turnsLeft : GoodIn wsX6_refusesJoin wsX6_turnsLeft := goodIn_ca (goodIn_r _ [26, 1, 27, 28, 29, 30, 31, 32, 33, 25, 34, 35, 36, 37, 4, 38, 39, 40, 41, 42, 43, 44, 45, 46, 47, 48, 49, 50, 51, 52, 53, 54, 55, 56, 57, 64, 65, 66, 67, 68, 69, 70, 71] (by decide +kernel) (by decide +kernel)) (goodIn_sub (fun _ h => List.mem_cons_of_mem _ (List.mem_append_right _ h)) (by decide +kernel))
set_option maxRecDepth 20000 in
theorem gX6_refusesJoin_X6_turnsLeft : GoodIn wsX6_refusesJoin (wsV RX6 92 RX6 yX6_turnsLeft wsX6_turnsLeft) := goodIn_app (goodIn_of _ (by decide +kernel)) ggX6_refusesJoin_X6_turnsLeft
theorem dX6_refusesJoin_0 : decode cX6_refusesJoin 0 = .ok (.aload_n 0, 1) := by decide +kernel
theorem dX6_refusesJoin_1 : decode cX6_refusesJoin 1 = .ok (.getfield 12, 3) := by decide +kernel
theorem dX6_refusesJoin_4 : decode cX6_refusesJoin 4 = .ok (.iload_n 1, 1) := by decide +kernel
theorem dX6_refusesJoin_5 : decode cX6_refusesJoin 5 = .ok (.invokevirtual 108, 3) := by decide +kernel
theorem dX6_refusesJoin_8 : decode cX6_refusesJoin 8 = .ok (.ifCond .ne 10, 3) := by decide +kernel
theorem dX6_refusesJoin_11 : decode cX6_refusesJoin 11 = .ok (.aload_n 2, 1) := by decide +kernel
theorem dX6_refusesJoin_12 : decode cX6_refusesJoin 12 = .ok (.iconst 3, 1) := by decide +kernel
theorem dX6_refusesJoin_13 : decode cX6_refusesJoin 13 = .ok (.iload_n 1, 1) := by decide +kernel
theorem dX6_refusesJoin_14 : decode cX6_refusesJoin 14 = .ok (.invokevirtual 99, 3) := by decide +kernel
theorem dX6_refusesJoin_17 : decode cX6_refusesJoin 17 = .ok (.ireturn, 1) := by decide +kernel
theorem dX6_refusesJoin_18 : decode cX6_refusesJoin 18 = .ok (.aload_n 0, 1) := by decide +kernel
theorem dX6_refusesJoin_19 : decode cX6_refusesJoin 19 = .ok (.getfield 21, 3) := by decide +kernel
theorem dX6_refusesJoin_22 : decode cX6_refusesJoin 22 = .ok (.iload_n 1, 1) := by decide +kernel
theorem dX6_refusesJoin_23 : decode cX6_refusesJoin 23 = .ok (.invokevirtual 112, 3) := by decide +kernel
theorem dX6_refusesJoin_26 : decode cX6_refusesJoin 26 = .ok (.istore_n 3, 1) := by decide +kernel
theorem dX6_refusesJoin_27 : decode cX6_refusesJoin 27 = .ok (.iload_n 3, 1) := by decide +kernel
theorem dX6_refusesJoin_28 : decode cX6_refusesJoin 28 = .ok (.iconst (-1), 1) := by decide +kernel
theorem dX6_refusesJoin_29 : decode cX6_refusesJoin 29 = .ok (.if_icmp .eq 10, 3) := by decide +kernel
theorem dX6_refusesJoin_32 : decode cX6_refusesJoin 32 = .ok (.aload_n 2, 1) := by decide +kernel
theorem dX6_refusesJoin_33 : decode cX6_refusesJoin 33 = .ok (.iconst 4, 1) := by decide +kernel
theorem dX6_refusesJoin_34 : decode cX6_refusesJoin 34 = .ok (.iload_n 3, 1) := by decide +kernel
theorem dX6_refusesJoin_35 : decode cX6_refusesJoin 35 = .ok (.invokevirtual 99, 3) := by decide +kernel
theorem dX6_refusesJoin_38 : decode cX6_refusesJoin 38 = .ok (.ireturn, 1) := by decide +kernel
theorem dX6_refusesJoin_39 : decode cX6_refusesJoin 39 = .ok (.aload_n 0, 1) := by decide +kernel
theorem dX6_refusesJoin_40 : decode cX6_refusesJoin 40 = .ok (.iload_n 1, 1) := by decide +kernel
theorem dX6_refusesJoin_41 : decode cX6_refusesJoin 41 = .ok (.invokevirtual 92, 3) := by decide +kernel
theorem dX6_refusesJoin_44 : decode cX6_refusesJoin 44 = .ok (.ifCond .ne 25, 3) := by decide +kernel
theorem dX6_refusesJoin_47 : decode cX6_refusesJoin 47 = .ok (.aload_n 2, 1) := by decide +kernel
theorem dX6_refusesJoin_48 : decode cX6_refusesJoin 48 = .ok (.bipush 6, 2) := by decide +kernel
theorem dX6_refusesJoin_50 : decode cX6_refusesJoin 50 = .ok (.aload_n 0, 1) := by decide +kernel
theorem dX6_refusesJoin_51 : decode cX6_refusesJoin 51 = .ok (.getfield 12, 3) := by decide +kernel
theorem dX6_refusesJoin_54 : decode cX6_refusesJoin 54 = .ok (.getfield 74, 3) := by decide +kernel
theorem dX6_refusesJoin_57 : decode cX6_refusesJoin 57 = .ok (.iload_n 1, 1) := by decide +kernel
theorem dX6_refusesJoin_58 : decode cX6_refusesJoin 58 = .ok (.iaload, 1) := by decide +kernel
theorem dX6_refusesJoin_59 : decode cX6_refusesJoin 59 = .ok (.invokevirtual 99, 3) := by decide +kernel
theorem dX6_refusesJoin_62 : decode cX6_refusesJoin 62 = .ok (.ifCond .eq 7, 3) := by decide +kernel
theorem dX6_refusesJoin_65 : decode cX6_refusesJoin 65 = .ok (.iconst 1, 1) := by decide +kernel
theorem dX6_refusesJoin_66 : decode cX6_refusesJoin 66 = .ok (.goto 4, 3) := by decide +kernel
theorem dX6_refusesJoin_69 : decode cX6_refusesJoin 69 = .ok (.iconst 0, 1) := by decide +kernel
theorem dX6_refusesJoin_70 : decode cX6_refusesJoin 70 = .ok (.ireturn, 1) := by decide +kernel
set_option maxRecDepth 20000 in
theorem ggX6_letJoin_X2_wouldQuarrel : GoodIn wsX6_letJoin wsX2_wouldQuarrel := goodIn_ca (goodIn_r _ [6, 7, 8, 9, 10, 4, 11, 12, 13, 14, 15, 16, 73, 74, 75, 76, 77, 78, 79, 80, 81] (by decide +kernel) (by decide +kernel)) (goodIn_sub (fun _ h => List.mem_cons_of_mem _ (List.mem_append_right _ h)) (by decide +kernel))
set_option maxRecDepth 20000 in
theorem gX6_letJoin_X2_wouldQuarrel_n115 : GoodIn wsX6_letJoin (wsX2_wouldQuarrel) := ggX6_letJoin_X2_wouldQuarrel
set_option maxRecDepth 20000 in
theorem ggX6_letJoin_X2_winnerOf : GoodIn wsX6_letJoin wsX2_winnerOf := goodIn_ca (goodIn_r _ [19, 20, 8, 9, 10, 4, 11, 12, 13, 14, 15, 16, 73, 74, 75, 76, 77, 78, 79, 80, 81] (by decide +kernel) (by decide +kernel)) (goodIn_sub (fun _ h => List.mem_cons_of_mem _ (List.mem_append_right _ h)) (by decide +kernel))
set_option maxRecDepth 20000 in
theorem gX6_letJoin_X2_winnerOf_n118 : GoodIn wsX6_letJoin (wsX2_winnerOf) := ggX6_letJoin_X2_winnerOf
set_option maxRecDepth 20000 in
theorem ggX6_letJoin_X6_quarrel : GoodIn wsX6_letJoin wsX6_quarrel := goodIn_ca (goodIn_r _ [25, 2, 26, 27, 28, 4, 29, 30, 31, 7, 32, 33, 15, 34, 35, 36, 37, 38, 39, 40, 41, 42, 43, 44, 45, 46, 47, 48, 49, 50, 64, 65, 66, 67, 68, 69, 70, 73, 74, 75, 76, 77, 78, 79, 80, 81, 82, 83, 84, 85, 86, 87] (by decide +kernel) (by decide +kernel)) (goodIn_sub (fun _ h => List.mem_cons_of_mem _ (List.mem_append_right _ h)) (by decide +kernel))
set_option maxRecDepth 20000 in
theorem gX6_letJoin_X6_quarrel : GoodIn wsX6_letJoin (wsV RX6 121 RX6 yX6_quarrel wsX6_quarrel) := goodIn_app (goodIn_of _ (by decide +kernel)) ggX6_letJoin_X6_quarrel
set_option maxRecDepth 20000 in
theorem ggX6_letJoin_X4_removePlace : GoodIn wsX6_letJoin wsX4_removePlace := goodIn_ca (goodIn_r _ [54, 55, 56, 57, 58, 59, 52, 60, 71, 72] (by decide +kernel) (by decide +kernel)) (goodIn_sub (fun _ h => List.mem_cons_of_mem _ (List.mem_append_right _ h)) (by decide +kernel))
set_option maxRecDepth 20000 in
theorem gX6_letJoin_X4_removePlace_n125 : GoodIn wsX6_letJoin (wsX4_removePlace) := ggX6_letJoin_X4_removePlace
set_option maxRecDepth 20000 in
theorem ggX6_letJoin_X4_addLast : GoodIn wsX6_letJoin wsX4_addLast := goodIn_ca (goodIn_r _ [63, 55, 56, 71, 72] (by decide +kernel) (by decide +kernel)) (goodIn_sub (fun _ h => List.mem_cons_of_mem _ (List.mem_append_right _ h)) (by decide +kernel))
set_option maxRecDepth 20000 in
theorem gX6_letJoin_X4_addLast_n129 : GoodIn wsX6_letJoin (wsX4_addLast) := ggX6_letJoin_X4_addLast
theorem dX6_letJoin_0 : decode cX6_letJoin 0 = .ok (.aload_n 0, 1) := by decide +kernel
theorem dX6_letJoin_1 : decode cX6_letJoin 1 = .ok (.getfield 21, 3) := by decide +kernel
theorem dX6_letJoin_4 : decode cX6_letJoin 4 = .ok (.getfield 86, 3) := by decide +kernel
theorem dX6_letJoin_7 : decode cX6_letJoin 7 = .ok (.iconst 1, 1) := by decide +kernel
theorem dX6_letJoin_8 : decode cX6_letJoin 8 = .ok (.isub, 1) := by decide +kernel
theorem dX6_letJoin_9 : decode cX6_letJoin 9 = .ok (.istore_n 2, 1) := by decide +kernel
theorem dX6_letJoin_10 : decode cX6_letJoin 10 = .ok (.iload_n 2, 1) := by decide +kernel
theorem dX6_letJoin_11 : decode cX6_letJoin 11 = .ok (.ifCond .lt 69, 3) := by decide +kernel
theorem dX6_letJoin_14 : decode cX6_letJoin 14 = .ok (.aload_n 0, 1) := by decide +kernel
theorem dX6_letJoin_15 : decode cX6_letJoin 15 = .ok (.getfield 21, 3) := by decide +kernel
theorem dX6_letJoin_18 : decode cX6_letJoin 18 = .ok (.getfield 89, 3) := by decide +kernel
theorem dX6_letJoin_21 : decode cX6_letJoin 21 = .ok (.iload_n 2, 1) := by decide +kernel
theorem dX6_letJoin_22 : decode cX6_letJoin 22 = .ok (.iaload, 1) := by decide +kernel
theorem dX6_letJoin_23 : decode cX6_letJoin 23 = .ok (.istore_n 3, 1) := by decide +kernel
theorem dX6_letJoin_24 : decode cX6_letJoin 24 = .ok (.aload_n 0, 1) := by decide +kernel
theorem dX6_letJoin_25 : decode cX6_letJoin 25 = .ok (.getfield 12, 3) := by decide +kernel
theorem dX6_letJoin_28 : decode cX6_letJoin 28 = .ok (.iload_n 3, 1) := by decide +kernel
theorem dX6_letJoin_29 : decode cX6_letJoin 29 = .ok (.iload_n 1, 1) := by decide +kernel
theorem dX6_letJoin_30 : decode cX6_letJoin 30 = .ok (.invokevirtual 115, 3) := by decide +kernel
theorem dX6_letJoin_33 : decode cX6_letJoin 33 = .ok (.ifCond .ne 6, 3) := by decide +kernel
theorem dX6_letJoin_36 : decode cX6_letJoin 36 = .ok (.goto 44, 3) := by decide +kernel
theorem dX6_letJoin_39 : decode cX6_letJoin 39 = .ok (.aload_n 0, 1) := by decide +kernel
theorem dX6_letJoin_40 : decode cX6_letJoin 40 = .ok (.getfield 12, 3) := by decide +kernel
theorem dX6_letJoin_43 : decode cX6_letJoin 43 = .ok (.iload_n 3, 1) := by decide +kernel
theorem dX6_letJoin_44 : decode cX6_letJoin 44 = .ok (.iload_n 1, 1) := by decide +kernel
theorem dX6_letJoin_45 : decode cX6_letJoin 45 = .ok (.invokevirtual 118, 3) := by decide +kernel
theorem dX6_letJoin_48 : decode cX6_letJoin 48 = .ok (.iload_n 3, 1) := by decide +kernel
theorem dX6_letJoin_49 : decode cX6_letJoin 49 = .ok (.if_icmp .ne 11, 3) := by decide +kernel
theorem dX6_letJoin_52 : decode cX6_letJoin 52 = .ok (.aload_n 0, 1) := by decide +kernel
theorem dX6_letJoin_53 : decode cX6_letJoin 53 = .ok (.iload_n 3, 1) := by decide +kernel
theorem dX6_letJoin_54 : decode cX6_letJoin 54 = .ok (.iload_n 1, 1) := by decide +kernel
theorem dX6_letJoin_55 : decode cX6_letJoin 55 = .ok (.invokevirtual 121, 3) := by decide +kernel
theorem dX6_letJoin_58 : decode cX6_letJoin 58 = .ok (.iconst (-1), 1) := by decide +kernel
theorem dX6_letJoin_59 : decode cX6_letJoin 59 = .ok (.ireturn, 1) := by decide +kernel
theorem dX6_letJoin_60 : decode cX6_letJoin 60 = .ok (.aload_n 0, 1) := by decide +kernel
theorem dX6_letJoin_61 : decode cX6_letJoin 61 = .ok (.iload_n 1, 1) := by decide +kernel
theorem dX6_letJoin_62 : decode cX6_letJoin 62 = .ok (.iload_n 3, 1) := by decide +kernel
theorem dX6_letJoin_63 : decode cX6_letJoin 63 = .ok (.invokevirtual 121, 3) := by decide +kernel
theorem dX6_letJoin_66 : decode cX6_letJoin 66 = .ok (.aload_n 0, 1) := by decide +kernel
theorem dX6_letJoin_67 : decode cX6_letJoin 67 = .ok (.getfield 21, 3) := by decide +kernel
theorem dX6_letJoin_70 : decode cX6_letJoin 70 = .ok (.iload_n 2, 1) := by decide +kernel
theorem dX6_letJoin_71 : decode cX6_letJoin 71 = .ok (.invokevirtual 125, 3) := by decide +kernel
theorem dX6_letJoin_74 : decode cX6_letJoin 74 = .ok (.iinc 2 (-1), 3) := by decide +kernel
theorem dX6_letJoin_77 : decode cX6_letJoin 77 = .ok (.goto (-67), 3) := by decide +kernel
theorem dX6_letJoin_80 : decode cX6_letJoin 80 = .ok (.aload_n 0, 1) := by decide +kernel
theorem dX6_letJoin_81 : decode cX6_letJoin 81 = .ok (.getfield 21, 3) := by decide +kernel
theorem dX6_letJoin_84 : decode cX6_letJoin 84 = .ok (.iload_n 1, 1) := by decide +kernel
theorem dX6_letJoin_85 : decode cX6_letJoin 85 = .ok (.invokevirtual 129, 3) := by decide +kernel
theorem dX6_letJoin_88 : decode cX6_letJoin 88 = .ok (.aload_n 0, 1) := by decide +kernel
theorem dX6_letJoin_89 : decode cX6_letJoin 89 = .ok (.getfield 21, 3) := by decide +kernel
theorem dX6_letJoin_92 : decode cX6_letJoin 92 = .ok (.getfield 86, 3) := by decide +kernel
theorem dX6_letJoin_95 : decode cX6_letJoin 95 = .ok (.iconst 1, 1) := by decide +kernel
theorem dX6_letJoin_96 : decode cX6_letJoin 96 = .ok (.isub, 1) := by decide +kernel
theorem dX6_letJoin_97 : decode cX6_letJoin 97 = .ok (.ireturn, 1) := by decide +kernel
set_option maxRecDepth 20000 in
theorem ggX6_quarrel_X2_settleQuarrel : GoodIn wsX6_quarrel wsX2_settleQuarrel := goodIn_ca (goodIn_r _ [7, 8, 9, 10, 11, 12, 13, 14, 15, 16, 17, 18, 37, 38, 39, 40, 41, 42, 43, 44, 45] (by decide +kernel) (by decide +kernel)) (goodIn_sub (fun _ h => List.mem_cons_of_mem _ (List.mem_append_right _ h)) (by decide +kernel))
set_option maxRecDepth 20000 in
theorem gX6_quarrel_X2_settleQuarrel_n132 : GoodIn wsX6_quarrel (wsX2_settleQuarrel) := ggX6_quarrel_X2_settleQuarrel
set_option maxRecDepth 20000 in
theorem ggX6_quarrel_X3_note : GoodIn wsX6_quarrel wsX3_note := goodIn_ca (goodIn_r _ [22, 23, 24, 25, 26, 27, 28, 29, 11, 12, 13, 46, 47, 48, 49, 50, 51] (by decide +kernel) (by decide +kernel)) (goodIn_sub (fun _ h => List.mem_cons_of_mem _ (List.mem_append_right _ h)) (by decide +kernel))
set_option maxRecDepth 20000 in
theorem gX6_quarrel_X3_note_n135 : GoodIn wsX6_quarrel (wsX3_note) := ggX6_quarrel_X3_note
theorem dX6_quarrel_0 : decode cX6_quarrel 0 = .ok (.aload_n 0, 1) := by decide +kernel
theorem dX6_quarrel_1 : decode cX6_quarrel 1 = .ok (.getfield 12, 3) := by decide +kernel
theorem dX6_quarrel_4 : decode cX6_quarrel 4 = .ok (.iload_n 1, 1) := by decide +kernel
theorem dX6_quarrel_5 : decode cX6_quarrel 5 = .ok (.iload_n 2, 1) := by decide +kernel
theorem dX6_quarrel_6 : decode cX6_quarrel 6 = .ok (.invokevirtual 132, 3) := by decide +kernel
theorem dX6_quarrel_9 : decode cX6_quarrel 9 = .ok (.aload_n 0, 1) := by decide +kernel
theorem dX6_quarrel_10 : decode cX6_quarrel 10 = .ok (.getfield 35, 3) := by decide +kernel
theorem dX6_quarrel_13 : decode cX6_quarrel 13 = .ok (.iconst 1, 1) := by decide +kernel
theorem dX6_quarrel_14 : decode cX6_quarrel 14 = .ok (.aload_n 0, 1) := by decide +kernel
theorem dX6_quarrel_15 : decode cX6_quarrel 15 = .ok (.getfield 52, 3) := by decide +kernel
theorem dX6_quarrel_18 : decode cX6_quarrel 18 = .ok (.iload_n 1, 1) := by decide +kernel
theorem dX6_quarrel_19 : decode cX6_quarrel 19 = .ok (.iload_n 2, 1) := by decide +kernel
theorem dX6_quarrel_20 : decode cX6_quarrel 20 = .ok (.invokevirtual 135, 3) := by decide +kernel
theorem dX6_quarrel_23 : decode cX6_quarrel 23 = .ok (.return_, 1) := by decide +kernel
set_option maxRecDepth 20000 in
theorem ggX6_refusesLeave_X2_has : GoodIn wsX6_refusesLeave wsX2_has := goodIn_r _ [6, 7, 29, 30, 31, 32, 33, 34, 35, 36, 37] (by decide +kernel) (by decide +kernel)
set_option maxRecDepth 20000 in
theorem gX6_refusesLeave_X2_has_n108 : GoodIn wsX6_refusesLeave (wsX2_has) := ggX6_refusesLeave_X2_has
set_option maxRecDepth 20000 in
theorem ggX6_refusesLeave_X5_because : GoodIn wsX6_refusesLeave wsX5_because := goodIn_r _ [11, 12, 13, 14, 15, 38, 39, 40, 41] (by decide +kernel) (by decide +kernel)
set_option maxRecDepth 20000 in
theorem gX6_refusesLeave_X5_because_n99 : GoodIn wsX6_refusesLeave (wsX5_because) := ggX6_refusesLeave_X5_because
set_option maxRecDepth 20000 in
theorem ggX6_refusesLeave_X4_placeOf : GoodIn wsX6_refusesLeave wsX4_placeOf := goodIn_ca (goodIn_r _ [19, 20, 21, 42, 43] (by decide +kernel) (by decide +kernel)) (goodIn_sub (fun _ h => List.mem_cons_of_mem _ (List.mem_append_right _ h)) (by decide +kernel))
set_option maxRecDepth 20000 in
theorem gX6_refusesLeave_X4_placeOf_n112 : GoodIn wsX6_refusesLeave (wsX4_placeOf) := ggX6_refusesLeave_X4_placeOf
theorem dX6_refusesLeave_0 : decode cX6_refusesLeave 0 = .ok (.aload_n 0, 1) := by decide +kernel
theorem dX6_refusesLeave_1 : decode cX6_refusesLeave 1 = .ok (.getfield 12, 3) := by decide +kernel
theorem dX6_refusesLeave_4 : decode cX6_refusesLeave 4 = .ok (.iload_n 1, 1) := by decide +kernel
theorem dX6_refusesLeave_5 : decode cX6_refusesLeave 5 = .ok (.invokevirtual 108, 3) := by decide +kernel
theorem dX6_refusesLeave_8 : decode cX6_refusesLeave 8 = .ok (.ifCond .ne 10, 3) := by decide +kernel
theorem dX6_refusesLeave_11 : decode cX6_refusesLeave 11 = .ok (.aload_n 2, 1) := by decide +kernel
theorem dX6_refusesLeave_12 : decode cX6_refusesLeave 12 = .ok (.iconst 3, 1) := by decide +kernel
theorem dX6_refusesLeave_13 : decode cX6_refusesLeave 13 = .ok (.iload_n 1, 1) := by decide +kernel
theorem dX6_refusesLeave_14 : decode cX6_refusesLeave 14 = .ok (.invokevirtual 99, 3) := by decide +kernel
theorem dX6_refusesLeave_17 : decode cX6_refusesLeave 17 = .ok (.ireturn, 1) := by decide +kernel
theorem dX6_refusesLeave_18 : decode cX6_refusesLeave 18 = .ok (.aload_n 0, 1) := by decide +kernel
theorem dX6_refusesLeave_19 : decode cX6_refusesLeave 19 = .ok (.getfield 21, 3) := by decide +kernel
theorem dX6_refusesLeave_22 : decode cX6_refusesLeave 22 = .ok (.iload_n 1, 1) := by decide +kernel
theorem dX6_refusesLeave_23 : decode cX6_refusesLeave 23 = .ok (.invokevirtual 112, 3) := by decide +kernel
theorem dX6_refusesLeave_26 : decode cX6_refusesLeave 26 = .ok (.iconst (-1), 1) := by decide +kernel
theorem dX6_refusesLeave_27 : decode cX6_refusesLeave 27 = .ok (.if_icmp .ne 16, 3) := by decide +kernel
theorem dX6_refusesLeave_30 : decode cX6_refusesLeave 30 = .ok (.aload_n 2, 1) := by decide +kernel
theorem dX6_refusesLeave_31 : decode cX6_refusesLeave 31 = .ok (.iconst 5, 1) := by decide +kernel
theorem dX6_refusesLeave_32 : decode cX6_refusesLeave 32 = .ok (.iconst 0, 1) := by decide +kernel
theorem dX6_refusesLeave_33 : decode cX6_refusesLeave 33 = .ok (.invokevirtual 99, 3) := by decide +kernel
theorem dX6_refusesLeave_36 : decode cX6_refusesLeave 36 = .ok (.ifCond .eq 7, 3) := by decide +kernel
theorem dX6_refusesLeave_39 : decode cX6_refusesLeave 39 = .ok (.iconst 1, 1) := by decide +kernel
theorem dX6_refusesLeave_40 : decode cX6_refusesLeave 40 = .ok (.goto 4, 3) := by decide +kernel
theorem dX6_refusesLeave_43 : decode cX6_refusesLeave 43 = .ok (.iconst 0, 1) := by decide +kernel
theorem dX6_refusesLeave_44 : decode cX6_refusesLeave 44 = .ok (.ireturn, 1) := by decide +kernel
set_option maxRecDepth 20000 in
theorem ggX6_letLeave_X4_placeOf : GoodIn wsX6_letLeave wsX4_placeOf := goodIn_ca (goodIn_r _ [5, 6, 7, 22, 23] (by decide +kernel) (by decide +kernel)) (goodIn_sub (fun _ h => List.mem_cons_of_mem _ (List.mem_append_right _ h)) (by decide +kernel))
set_option maxRecDepth 20000 in
theorem gX6_letLeave_X4_placeOf_n112 : GoodIn wsX6_letLeave (wsX4_placeOf) := ggX6_letLeave_X4_placeOf
set_option maxRecDepth 20000 in
theorem ggX6_letLeave_X4_removePlace : GoodIn wsX6_letLeave wsX4_removePlace := goodIn_ca (goodIn_r _ [10, 6, 7, 11, 12, 13, 3, 14, 22, 23] (by decide +kernel) (by decide +kernel)) (goodIn_sub (fun _ h => List.mem_cons_of_mem _ (List.mem_append_right _ h)) (by decide +kernel))
set_option maxRecDepth 20000 in
theorem gX6_letLeave_X4_removePlace_n125 : GoodIn wsX6_letLeave (wsX4_removePlace) := ggX6_letLeave_X4_removePlace
theorem dX6_letLeave_0 : decode cX6_letLeave 0 = .ok (.aload_n 0, 1) := by decide +kernel
theorem dX6_letLeave_1 : decode cX6_letLeave 1 = .ok (.getfield 21, 3) := by decide +kernel
theorem dX6_letLeave_4 : decode cX6_letLeave 4 = .ok (.iload_n 1, 1) := by decide +kernel
theorem dX6_letLeave_5 : decode cX6_letLeave 5 = .ok (.invokevirtual 112, 3) := by decide +kernel
theorem dX6_letLeave_8 : decode cX6_letLeave 8 = .ok (.istore_n 2, 1) := by decide +kernel
theorem dX6_letLeave_9 : decode cX6_letLeave 9 = .ok (.aload_n 0, 1) := by decide +kernel
theorem dX6_letLeave_10 : decode cX6_letLeave 10 = .ok (.getfield 21, 3) := by decide +kernel
theorem dX6_letLeave_13 : decode cX6_letLeave 13 = .ok (.iload_n 2, 1) := by decide +kernel
theorem dX6_letLeave_14 : decode cX6_letLeave 14 = .ok (.invokevirtual 125, 3) := by decide +kernel
theorem dX6_letLeave_17 : decode cX6_letLeave 17 = .ok (.iload_n 2, 1) := by decide +kernel
theorem dX6_letLeave_18 : decode cX6_letLeave 18 = .ok (.ireturn, 1) := by decide +kernel
set_option maxRecDepth 20000 in
theorem ggX6_refusesDraws_X8_isWithin : GoodIn wsX6_refusesDraws wsX8_isWithin := goodIn_r _ [4] (by decide +kernel) (by decide +kernel)
set_option maxRecDepth 20000 in
theorem gX6_refusesDraws_X8_isWithin_n95 : GoodIn wsX6_refusesDraws (wsX8_isWithin) := ggX6_refusesDraws_X8_isWithin
set_option maxRecDepth 20000 in
theorem ggX6_refusesDraws_X5_because : GoodIn wsX6_refusesDraws wsX5_because := goodIn_r _ [8, 9, 10, 11, 12, 65, 66, 67, 68] (by decide +kernel) (by decide +kernel)
set_option maxRecDepth 20000 in
theorem gX6_refusesDraws_X5_because_n99 : GoodIn wsX6_refusesDraws (wsX5_because) := ggX6_refusesDraws_X5_because
set_option maxRecDepth 20000 in
theorem ggX6_refusesDraws_X6_drawsInQueue : GoodIn wsX6_refusesDraws wsX6_drawsInQueue := goodIn_ca (goodIn_r _ [17, 18, 19, 20, 21, 16, 22, 23, 24, 25, 26, 27, 28, 29, 30, 31, 32, 1, 33, 34, 35, 36, 37, 38, 50, 51, 52, 53, 54, 55, 56, 69, 70, 71, 72, 73, 74, 75, 76, 77, 78, 79, 57, 58, 59, 60, 61, 62, 63, 64] (by decide +kernel) (by decide +kernel)) (goodIn_sub (fun _ h => List.mem_cons_of_mem _ (List.mem_append_right _ h)) (by decide +kernel))
set_option maxRecDepth 20000 in
theorem gX6_refusesDraws_X6_drawsInQueue : GoodIn wsX6_refusesDraws (wsV RX6 139 RX6 yX6_drawsInQueue wsX6_drawsInQueue) := goodIn_app (goodIn_of _ (by decide +kernel)) ggX6_refusesDraws_X6_drawsInQueue
set_option maxRecDepth 20000 in
theorem ggX6_refusesDraws_X7_waterOf : GoodIn wsX6_refusesDraws wsX7_waterOf := goodIn_r _ [42, 43, 44, 45, 26, 46, 47, 48, 40, 49, 57, 58, 59, 60, 61, 62, 63, 64] (by decide +kernel) (by decide +kernel)
set_option maxRecDepth 20000 in
theorem gX6_refusesDraws_X7_waterOf_n143 : GoodIn wsX6_refusesDraws (wsX7_waterOf) := ggX6_refusesDraws_X7_waterOf
theorem dX6_refusesDraws_0 : decode cX6_refusesDraws 0 = .ok (.iload_n 1, 1) := by decide +kernel
theorem dX6_refusesDraws_1 : decode cX6_refusesDraws 1 = .ok (.iconst 1, 1) := by decide +kernel
theorem dX6_refusesDraws_2 : decode cX6_refusesDraws 2 = .ok (.bipush 50, 2) := by decide +kernel
theorem dX6_refusesDraws_4 : decode cX6_refusesDraws 4 = .ok (.invokestatic 95, 3) := by decide +kernel
theorem dX6_refusesDraws_7 : decode cX6_refusesDraws 7 = .ok (.ifCond .ne 10, 3) := by decide +kernel
theorem dX6_refusesDraws_10 : decode cX6_refusesDraws 10 = .ok (.aload_n 2, 1) := by decide +kernel
theorem dX6_refusesDraws_11 : decode cX6_refusesDraws 11 = .ok (.iconst 1, 1) := by decide +kernel
theorem dX6_refusesDraws_12 : decode cX6_refusesDraws 12 = .ok (.iconst 0, 1) := by decide +kernel
theorem dX6_refusesDraws_13 : decode cX6_refusesDraws 13 = .ok (.invokevirtual 99, 3) := by decide +kernel
theorem dX6_refusesDraws_16 : decode cX6_refusesDraws 16 = .ok (.ireturn, 1) := by decide +kernel
theorem dX6_refusesDraws_17 : decode cX6_refusesDraws 17 = .ok (.aload_n 0, 1) := by decide +kernel
theorem dX6_refusesDraws_18 : decode cX6_refusesDraws 18 = .ok (.invokevirtual 139, 3) := by decide +kernel
theorem dX6_refusesDraws_21 : decode cX6_refusesDraws 21 = .ok (.istore_n 3, 1) := by decide +kernel
theorem dX6_refusesDraws_22 : decode cX6_refusesDraws 22 = .ok (.iload_n 1, 1) := by decide +kernel
theorem dX6_refusesDraws_23 : decode cX6_refusesDraws 23 = .ok (.iload_n 3, 1) := by decide +kernel
theorem dX6_refusesDraws_24 : decode cX6_refusesDraws 24 = .ok (.if_icmp .le 11, 3) := by decide +kernel
theorem dX6_refusesDraws_27 : decode cX6_refusesDraws 27 = .ok (.aload_n 2, 1) := by decide +kernel
theorem dX6_refusesDraws_28 : decode cX6_refusesDraws 28 = .ok (.bipush 7, 2) := by decide +kernel
theorem dX6_refusesDraws_30 : decode cX6_refusesDraws 30 = .ok (.iload_n 3, 1) := by decide +kernel
theorem dX6_refusesDraws_31 : decode cX6_refusesDraws 31 = .ok (.invokevirtual 99, 3) := by decide +kernel
theorem dX6_refusesDraws_34 : decode cX6_refusesDraws 34 = .ok (.ireturn, 1) := by decide +kernel
theorem dX6_refusesDraws_35 : decode cX6_refusesDraws 35 = .ok (.aload_n 0, 1) := by decide +kernel
theorem dX6_refusesDraws_36 : decode cX6_refusesDraws 36 = .ok (.getfield 28, 3) := by decide +kernel
theorem dX6_refusesDraws_39 : decode cX6_refusesDraws 39 = .ok (.iload_n 1, 1) := by decide +kernel
theorem dX6_refusesDraws_40 : decode cX6_refusesDraws 40 = .ok (.invokevirtual 143, 3) := by decide +kernel
theorem dX6_refusesDraws_43 : decode cX6_refusesDraws 43 = .ok (.aload_n 0, 1) := by decide +kernel
theorem dX6_refusesDraws_44 : decode cX6_refusesDraws 44 = .ok (.getfield 28, 3) := by decide +kernel
theorem dX6_refusesDraws_47 : decode cX6_refusesDraws 47 = .ok (.getfield 146, 3) := by decide +kernel
theorem dX6_refusesDraws_50 : decode cX6_refusesDraws 50 = .ok (.if_icmp .le 23, 3) := by decide +kernel
theorem dX6_refusesDraws_53 : decode cX6_refusesDraws 53 = .ok (.aload_n 2, 1) := by decide +kernel
theorem dX6_refusesDraws_54 : decode cX6_refusesDraws 54 = .ok (.bipush 8, 2) := by decide +kernel
theorem dX6_refusesDraws_56 : decode cX6_refusesDraws 56 = .ok (.aload_n 0, 1) := by decide +kernel
theorem dX6_refusesDraws_57 : decode cX6_refusesDraws 57 = .ok (.getfield 28, 3) := by decide +kernel
theorem dX6_refusesDraws_60 : decode cX6_refusesDraws 60 = .ok (.getfield 146, 3) := by decide +kernel
theorem dX6_refusesDraws_63 : decode cX6_refusesDraws 63 = .ok (.invokevirtual 99, 3) := by decide +kernel
theorem dX6_refusesDraws_66 : decode cX6_refusesDraws 66 = .ok (.ifCond .eq 7, 3) := by decide +kernel
theorem dX6_refusesDraws_69 : decode cX6_refusesDraws 69 = .ok (.iconst 1, 1) := by decide +kernel
theorem dX6_refusesDraws_70 : decode cX6_refusesDraws 70 = .ok (.goto 4, 3) := by decide +kernel
theorem dX6_refusesDraws_73 : decode cX6_refusesDraws 73 = .ok (.iconst 0, 1) := by decide +kernel
theorem dX6_refusesDraws_74 : decode cX6_refusesDraws 74 = .ok (.ireturn, 1) := by decide +kernel
set_option maxRecDepth 20000 in
theorem ggX6_letDraw_X6_drawFirst : GoodIn wsX6_letDraw wsX6_drawFirst := goodIn_ca (goodIn_r _ [6, 1, 7, 8, 9, 10, 11, 12, 13, 14, 15, 16, 17, 18, 19, 20, 21, 22, 23, 24, 25, 26, 27, 28, 29, 30, 31, 32, 33, 34, 35, 36, 37, 38, 39, 40, 41, 42, 43, 44, 45, 46, 47, 48, 49, 5, 50, 51, 52, 53, 54, 55, 56, 57, 58, 59, 60, 61, 62, 63, 64, 65, 66, 67, 68, 69, 70, 71, 72, 73, 74, 75, 76, 77, 78, 79, 80, 81, 82, 83, 84, 85, 86, 87, 88, 89, 90, 91, 92, 93, 94, 95, 96, 97, 98, 99] (by decide +kernel) (by decide +kernel)) (goodIn_sub (fun _ h => List.mem_cons_of_mem _ (List.mem_append_right _ h)) (by decide +kernel))
set_option maxRecDepth 20000 in
theorem gX6_letDraw_X6_drawFirst : GoodIn wsX6_letDraw (wsV RX6 149 RX6 yX6_drawFirst wsX6_drawFirst) := goodIn_app (goodIn_of _ (by decide +kernel)) ggX6_letDraw_X6_drawFirst
theorem dX6_letDraw_0 : decode cX6_letDraw 0 = .ok (.iconst 0, 1) := by decide +kernel
theorem dX6_letDraw_1 : decode cX6_letDraw 1 = .ok (.istore_n 2, 1) := by decide +kernel
theorem dX6_letDraw_2 : decode cX6_letDraw 2 = .ok (.iconst 0, 1) := by decide +kernel
theorem dX6_letDraw_3 : decode cX6_letDraw 3 = .ok (.istore_n 3, 1) := by decide +kernel
theorem dX6_letDraw_4 : decode cX6_letDraw 4 = .ok (.iload_n 3, 1) := by decide +kernel
theorem dX6_letDraw_5 : decode cX6_letDraw 5 = .ok (.iload_n 1, 1) := by decide +kernel
theorem dX6_letDraw_6 : decode cX6_letDraw 6 = .ok (.if_icmp .ge 26, 3) := by decide +kernel
theorem dX6_letDraw_9 : decode cX6_letDraw 9 = .ok (.aload_n 0, 1) := by decide +kernel
theorem dX6_letDraw_10 : decode cX6_letDraw 10 = .ok (.getfield 21, 3) := by decide +kernel
theorem dX6_letDraw_13 : decode cX6_letDraw 13 = .ok (.getfield 86, 3) := by decide +kernel
theorem dX6_letDraw_16 : decode cX6_letDraw 16 = .ok (.ifCond .le 16, 3) := by decide +kernel
theorem dX6_letDraw_19 : decode cX6_letDraw 19 = .ok (.iload_n 2, 1) := by decide +kernel
theorem dX6_letDraw_20 : decode cX6_letDraw 20 = .ok (.aload_n 0, 1) := by decide +kernel
theorem dX6_letDraw_21 : decode cX6_letDraw 21 = .ok (.invokevirtual 149, 3) := by decide +kernel
theorem dX6_letDraw_24 : decode cX6_letDraw 24 = .ok (.iadd, 1) := by decide +kernel
theorem dX6_letDraw_25 : decode cX6_letDraw 25 = .ok (.istore_n 2, 1) := by decide +kernel
theorem dX6_letDraw_26 : decode cX6_letDraw 26 = .ok (.iinc 3 1, 3) := by decide +kernel
theorem dX6_letDraw_29 : decode cX6_letDraw 29 = .ok (.goto (-25), 3) := by decide +kernel
theorem dX6_letDraw_32 : decode cX6_letDraw 32 = .ok (.iload_n 2, 1) := by decide +kernel
theorem dX6_letDraw_33 : decode cX6_letDraw 33 = .ok (.ireturn, 1) := by decide +kernel
set_option maxRecDepth 20000 in
theorem ggX6_drawFirst_X7_drawOnce : GoodIn wsX6_drawFirst wsX7_drawOnce := goodIn_r _ [9, 10, 11, 12, 13, 14, 15, 16, 17, 18, 19, 7, 20, 82, 83, 84, 85, 86, 87, 88, 89] (by decide +kernel) (by decide +kernel)
set_option maxRecDepth 20000 in
theorem gX6_drawFirst_X7_drawOnce_n152 : GoodIn wsX6_drawFirst (wsX7_drawOnce) := ggX6_drawFirst_X7_drawOnce
set_option maxRecDepth 20000 in
theorem ggX6_drawFirst_X3_note : GoodIn wsX6_drawFirst wsX3_note := goodIn_ca (goodIn_r _ [24, 25, 26, 27, 28, 29, 30, 31, 15, 16, 17, 90, 91, 92, 93, 94, 95] (by decide +kernel) (by decide +kernel)) (goodIn_sub (fun _ h => List.mem_cons_of_mem _ (List.mem_append_right _ h)) (by decide +kernel))
set_option maxRecDepth 20000 in
theorem gX6_drawFirst_X3_note_n135 : GoodIn wsX6_drawFirst (wsX3_note) := ggX6_drawFirst_X3_note
set_option maxRecDepth 20000 in
theorem ggX6_drawFirst_X4_removePlace : GoodIn wsX6_drawFirst wsX4_removePlace := goodIn_ca (goodIn_r _ [35, 36, 37, 38, 39, 40, 33, 41, 71, 72] (by decide +kernel) (by decide +kernel)) (goodIn_sub (fun _ h => List.mem_cons_of_mem _ (List.mem_append_right _ h)) (by decide +kernel))
set_option maxRecDepth 20000 in
theorem gX6_drawFirst_X4_removePlace_n125 : GoodIn wsX6_drawFirst (wsX4_removePlace) := ggX6_drawFirst_X4_removePlace
set_option maxRecDepth 20000 in
theorem ggX6_drawFirst_X6_turnsLeft : GoodIn wsX6_drawFirst wsX6_turnsLeft := goodIn_ca (goodIn_r _ [46, 3, 47, 48, 16, 49, 50, 51, 52, 45, 53, 54, 2, 55, 56, 57, 58, 59, 60, 64, 65, 66, 67, 68, 69, 70, 73, 74, 75, 76, 77, 78, 79, 80, 81, 82, 83, 84, 85, 86, 87, 88, 89] (by decide +kernel) (by decide +kernel)) (goodIn_sub (fun _ h => List.mem_cons_of_mem _ (List.mem_append_right _ h)) (by decide +kernel))
set_option maxRecDepth 20000 in
theorem gX6_drawFirst_X6_turnsLeft : GoodIn wsX6_drawFirst (wsV RX6 92 RX6 yX6_turnsLeft wsX6_turnsLeft) := goodIn_app (goodIn_of _ (by decide +kernel)) ggX6_drawFirst_X6_turnsLeft
set_option maxRecDepth 20000 in
theorem ggX6_drawFirst_X4_addLast : GoodIn wsX6_drawFirst wsX4_addLast := goodIn_ca (goodIn_r _ [63, 36, 37, 71, 72] (by decide +kernel) (by decide +kernel)) (goodIn_sub (fun _ h => List.mem_cons_of_mem _ (List.mem_append_right _ h)) (by decide +kernel))
set_option maxRecDepth 20000 in
theorem gX6_drawFirst_X4_addLast_n129 : GoodIn wsX6_drawFirst (wsX4_addLast) := ggX6_drawFirst_X4_addLast
theorem dX6_drawFirst_0 : decode cX6_drawFirst 0 = .ok (.aload_n 0, 1) := by decide +kernel
theorem dX6_drawFirst_1 : decode cX6_drawFirst 1 = .ok (.getfield 21, 3) := by decide +kernel
theorem dX6_drawFirst_4 : decode cX6_drawFirst 4 = .ok (.getfield 89, 3) := by decide +kernel
theorem dX6_drawFirst_7 : decode cX6_drawFirst 7 = .ok (.iconst 0, 1) := by decide +kernel
theorem dX6_drawFirst_8 : decode cX6_drawFirst 8 = .ok (.iaload, 1) := by decide +kernel
theorem dX6_drawFirst_9 : decode cX6_drawFirst 9 = .ok (.istore_n 1, 1) := by decide +kernel
theorem dX6_drawFirst_10 : decode cX6_drawFirst 10 = .ok (.aload_n 0, 1) := by decide +kernel
theorem dX6_drawFirst_11 : decode cX6_drawFirst 11 = .ok (.getfield 28, 3) := by decide +kernel
theorem dX6_drawFirst_14 : decode cX6_drawFirst 14 = .ok (.invokevirtual 152, 3) := by decide +kernel
theorem dX6_drawFirst_17 : decode cX6_drawFirst 17 = .ok (.istore_n 2, 1) := by decide +kernel
theorem dX6_drawFirst_18 : decode cX6_drawFirst 18 = .ok (.aload_n 0, 1) := by decide +kernel
theorem dX6_drawFirst_19 : decode cX6_drawFirst 19 = .ok (.getfield 12, 3) := by decide +kernel
theorem dX6_drawFirst_22 : decode cX6_drawFirst 22 = .ok (.getfield 74, 3) := by decide +kernel
theorem dX6_drawFirst_25 : decode cX6_drawFirst 25 = .ok (.iload_n 1, 1) := by decide +kernel
theorem dX6_drawFirst_26 : decode cX6_drawFirst 26 = .ok (.dup2, 1) := by decide +kernel
theorem dX6_drawFirst_27 : decode cX6_drawFirst 27 = .ok (.iaload, 1) := by decide +kernel
theorem dX6_drawFirst_28 : decode cX6_drawFirst 28 = .ok (.iconst 1, 1) := by decide +kernel
theorem dX6_drawFirst_29 : decode cX6_drawFirst 29 = .ok (.iadd, 1) := by decide +kernel
theorem dX6_drawFirst_30 : decode cX6_drawFirst 30 = .ok (.iastore, 1) := by decide +kernel
theorem dX6_drawFirst_31 : decode cX6_drawFirst 31 = .ok (.aload_n 0, 1) := by decide +kernel
theorem dX6_drawFirst_32 : decode cX6_drawFirst 32 = .ok (.getfield 12, 3) := by decide +kernel
theorem dX6_drawFirst_35 : decode cX6_drawFirst 35 = .ok (.getfield 155, 3) := by decide +kernel
theorem dX6_drawFirst_38 : decode cX6_drawFirst 38 = .ok (.iload_n 1, 1) := by decide +kernel
theorem dX6_drawFirst_39 : decode cX6_drawFirst 39 = .ok (.dup2, 1) := by decide +kernel
theorem dX6_drawFirst_40 : decode cX6_drawFirst 40 = .ok (.iaload, 1) := by decide +kernel
theorem dX6_drawFirst_41 : decode cX6_drawFirst 41 = .ok (.iload_n 2, 1) := by decide +kernel
theorem dX6_drawFirst_42 : decode cX6_drawFirst 42 = .ok (.iadd, 1) := by decide +kernel
theorem dX6_drawFirst_43 : decode cX6_drawFirst 43 = .ok (.iastore, 1) := by decide +kernel
theorem dX6_drawFirst_44 : decode cX6_drawFirst 44 = .ok (.aload_n 0, 1) := by decide +kernel
theorem dX6_drawFirst_45 : decode cX6_drawFirst 45 = .ok (.getfield 35, 3) := by decide +kernel
theorem dX6_drawFirst_48 : decode cX6_drawFirst 48 = .ok (.iconst 0, 1) := by decide +kernel
theorem dX6_drawFirst_49 : decode cX6_drawFirst 49 = .ok (.aload_n 0, 1) := by decide +kernel
theorem dX6_drawFirst_50 : decode cX6_drawFirst 50 = .ok (.getfield 52, 3) := by decide +kernel
theorem dX6_drawFirst_53 : decode cX6_drawFirst 53 = .ok (.iload_n 1, 1) := by decide +kernel
theorem dX6_drawFirst_54 : decode cX6_drawFirst 54 = .ok (.iload_n 2, 1) := by decide +kernel
theorem dX6_drawFirst_55 : decode cX6_drawFirst 55 = .ok (.invokevirtual 135, 3) := by decide +kernel
theorem dX6_drawFirst_58 : decode cX6_drawFirst 58 = .ok (.aload_n 0, 1) := by decide +kernel
theorem dX6_drawFirst_59 : decode cX6_drawFirst 59 = .ok (.getfield 21, 3) := by decide +kernel
theorem dX6_drawFirst_62 : decode cX6_drawFirst 62 = .ok (.iconst 0, 1) := by decide +kernel
theorem dX6_drawFirst_63 : decode cX6_drawFirst 63 = .ok (.invokevirtual 125, 3) := by decide +kernel
theorem dX6_drawFirst_66 : decode cX6_drawFirst 66 = .ok (.aload_n 0, 1) := by decide +kernel
theorem dX6_drawFirst_67 : decode cX6_drawFirst 67 = .ok (.iload_n 1, 1) := by decide +kernel
theorem dX6_drawFirst_68 : decode cX6_drawFirst 68 = .ok (.invokevirtual 92, 3) := by decide +kernel
theorem dX6_drawFirst_71 : decode cX6_drawFirst 71 = .ok (.ifCond .le 11, 3) := by decide +kernel
theorem dX6_drawFirst_74 : decode cX6_drawFirst 74 = .ok (.aload_n 0, 1) := by decide +kernel
theorem dX6_drawFirst_75 : decode cX6_drawFirst 75 = .ok (.getfield 21, 3) := by decide +kernel
theorem dX6_drawFirst_78 : decode cX6_drawFirst 78 = .ok (.iload_n 1, 1) := by decide +kernel
theorem dX6_drawFirst_79 : decode cX6_drawFirst 79 = .ok (.invokevirtual 129, 3) := by decide +kernel
theorem dX6_drawFirst_82 : decode cX6_drawFirst 82 = .ok (.iload_n 2, 1) := by decide +kernel
theorem dX6_drawFirst_83 : decode cX6_drawFirst 83 = .ok (.ireturn, 1) := by decide +kernel
set_option maxRecDepth 20000 in
theorem ggX6_refusesVote_X5_because : GoodIn wsX6_refusesVote wsX5_because := goodIn_r _ [5, 6, 7, 8, 9, 26, 27, 28, 29] (by decide +kernel) (by decide +kernel)
set_option maxRecDepth 20000 in
theorem gX6_refusesVote_X5_because_n99 : GoodIn wsX6_refusesVote (wsX5_because) := ggX6_refusesVote_X5_because
theorem dX6_refusesVote_0 : decode cX6_refusesVote 0 = .ok (.aload_n 0, 1) := by decide +kernel
theorem dX6_refusesVote_1 : decode cX6_refusesVote 1 = .ok (.getfield 12, 3) := by decide +kernel
theorem dX6_refusesVote_4 : decode cX6_refusesVote 4 = .ok (.getfield 105, 3) := by decide +kernel
theorem dX6_refusesVote_7 : decode cX6_refusesVote 7 = .ok (.ifCond .ne 16, 3) := by decide +kernel
theorem dX6_refusesVote_10 : decode cX6_refusesVote 10 = .ok (.aload_n 1, 1) := by decide +kernel
theorem dX6_refusesVote_11 : decode cX6_refusesVote 11 = .ok (.iconst 3, 1) := by decide +kernel
theorem dX6_refusesVote_12 : decode cX6_refusesVote 12 = .ok (.iconst 0, 1) := by decide +kernel
theorem dX6_refusesVote_13 : decode cX6_refusesVote 13 = .ok (.invokevirtual 99, 3) := by decide +kernel
theorem dX6_refusesVote_16 : decode cX6_refusesVote 16 = .ok (.ifCond .eq 7, 3) := by decide +kernel
theorem dX6_refusesVote_19 : decode cX6_refusesVote 19 = .ok (.iconst 1, 1) := by decide +kernel
theorem dX6_refusesVote_20 : decode cX6_refusesVote 20 = .ok (.goto 4, 3) := by decide +kernel
theorem dX6_refusesVote_23 : decode cX6_refusesVote 23 = .ok (.iconst 0, 1) := by decide +kernel
theorem dX6_refusesVote_24 : decode cX6_refusesVote 24 = .ok (.ireturn, 1) := by decide +kernel
set_option maxRecDepth 20000 in
theorem ggX6_letVote_X2_lawOfMost : GoodIn wsX6_letVote wsX2_lawOfMost := goodIn_ca (goodIn_r _ [9, 10, 11, 12, 7, 13, 14, 15, 16, 17, 18, 19, 20, 21, 22, 23, 24, 71, 72, 73, 74, 75, 76, 77, 78, 79] (by decide +kernel) (by decide +kernel)) (goodIn_sub (fun _ h => List.mem_cons_of_mem _ (List.mem_append_right _ h)) (by decide +kernel))
set_option maxRecDepth 20000 in
theorem gX6_letVote_X2_lawOfMost_n158 : GoodIn wsX6_letVote (wsX2_lawOfMost) := ggX6_letVote_X2_lawOfMost
set_option maxRecDepth 20000 in
theorem ggX6_letVote_X6_turnsLeft : GoodIn wsX6_letVote wsX6_turnsLeft := goodIn_ca (goodIn_r _ [29, 1, 30, 31, 32, 33, 34, 35, 36, 28, 37, 2, 38, 21, 7, 22, 23, 15, 24, 62, 63, 64, 65, 66, 67, 68, 71, 72, 73, 74, 75, 76, 77, 78, 79, 80, 81, 82, 83, 84, 85, 86, 87] (by decide +kernel) (by decide +kernel)) (goodIn_sub (fun _ h => List.mem_cons_of_mem _ (List.mem_append_right _ h)) (by decide +kernel))
set_option maxRecDepth 20000 in
theorem gX6_letVote_X6_turnsLeft : GoodIn wsX6_letVote (wsV RX6 92 RX6 yX6_turnsLeft wsX6_turnsLeft) := goodIn_app (goodIn_of _ (by decide +kernel)) ggX6_letVote_X6_turnsLeft
set_option maxRecDepth 20000 in
theorem ggX6_letVote_X4_removePlace : GoodIn wsX6_letVote wsX4_removePlace := goodIn_ca (goodIn_r _ [42, 43, 44, 45, 46, 47, 40, 48, 69, 70] (by decide +kernel) (by decide +kernel)) (goodIn_sub (fun _ h => List.mem_cons_of_mem _ (List.mem_append_right _ h)) (by decide +kernel))
set_option maxRecDepth 20000 in
theorem gX6_letVote_X4_removePlace_n125 : GoodIn wsX6_letVote (wsX4_removePlace) := ggX6_letVote_X4_removePlace
set_option maxRecDepth 20000 in
theorem ggX6_letVote_X3_note : GoodIn wsX6_letVote wsX3_note := goodIn_ca (goodIn_r _ [52, 53, 54, 55, 56, 57, 58, 59, 60, 32, 61, 88, 89, 90, 91, 92, 93] (by decide +kernel) (by decide +kernel)) (goodIn_sub (fun _ h => List.mem_cons_of_mem _ (List.mem_append_right _ h)) (by decide +kernel))
set_option maxRecDepth 20000 in
theorem gX6_letVote_X3_note_n135 : GoodIn wsX6_letVote (wsX3_note) := ggX6_letVote_X3_note
theorem dX6_letVote_0 : decode cX6_letVote 0 = .ok (.aload_n 0, 1) := by decide +kernel
theorem dX6_letVote_1 : decode cX6_letVote 1 = .ok (.aload_n 0, 1) := by decide +kernel
theorem dX6_letVote_2 : decode cX6_letVote 2 = .ok (.getfield 12, 3) := by decide +kernel
theorem dX6_letVote_5 : decode cX6_letVote 5 = .ok (.invokevirtual 158, 3) := by decide +kernel
theorem dX6_letVote_8 : decode cX6_letVote 8 = .ok (.putfield 56, 3) := by decide +kernel
theorem dX6_letVote_11 : decode cX6_letVote 11 = .ok (.aload_n 0, 1) := by decide +kernel
theorem dX6_letVote_12 : decode cX6_letVote 12 = .ok (.getfield 21, 3) := by decide +kernel
theorem dX6_letVote_15 : decode cX6_letVote 15 = .ok (.getfield 86, 3) := by decide +kernel
theorem dX6_letVote_18 : decode cX6_letVote 18 = .ok (.iconst 1, 1) := by decide +kernel
theorem dX6_letVote_19 : decode cX6_letVote 19 = .ok (.isub, 1) := by decide +kernel
theorem dX6_letVote_20 : decode cX6_letVote 20 = .ok (.istore_n 1, 1) := by decide +kernel
theorem dX6_letVote_21 : decode cX6_letVote 21 = .ok (.iload_n 1, 1) := by decide +kernel
theorem dX6_letVote_22 : decode cX6_letVote 22 = .ok (.ifCond .lt 33, 3) := by decide +kernel
theorem dX6_letVote_25 : decode cX6_letVote 25 = .ok (.aload_n 0, 1) := by decide +kernel
theorem dX6_letVote_26 : decode cX6_letVote 26 = .ok (.aload_n 0, 1) := by decide +kernel
theorem dX6_letVote_27 : decode cX6_letVote 27 = .ok (.getfield 21, 3) := by decide +kernel
theorem dX6_letVote_30 : decode cX6_letVote 30 = .ok (.getfield 89, 3) := by decide +kernel
theorem dX6_letVote_33 : decode cX6_letVote 33 = .ok (.iload_n 1, 1) := by decide +kernel
theorem dX6_letVote_34 : decode cX6_letVote 34 = .ok (.iaload, 1) := by decide +kernel
theorem dX6_letVote_35 : decode cX6_letVote 35 = .ok (.invokevirtual 92, 3) := by decide +kernel
theorem dX6_letVote_38 : decode cX6_letVote 38 = .ok (.ifCond .ne 11, 3) := by decide +kernel
theorem dX6_letVote_41 : decode cX6_letVote 41 = .ok (.aload_n 0, 1) := by decide +kernel
theorem dX6_letVote_42 : decode cX6_letVote 42 = .ok (.getfield 21, 3) := by decide +kernel
theorem dX6_letVote_45 : decode cX6_letVote 45 = .ok (.iload_n 1, 1) := by decide +kernel
theorem dX6_letVote_46 : decode cX6_letVote 46 = .ok (.invokevirtual 125, 3) := by decide +kernel
theorem dX6_letVote_49 : decode cX6_letVote 49 = .ok (.iinc 1 (-1), 3) := by decide +kernel
theorem dX6_letVote_52 : decode cX6_letVote 52 = .ok (.goto (-31), 3) := by decide +kernel
theorem dX6_letVote_55 : decode cX6_letVote 55 = .ok (.aload_n 0, 1) := by decide +kernel
theorem dX6_letVote_56 : decode cX6_letVote 56 = .ok (.getfield 35, 3) := by decide +kernel
theorem dX6_letVote_59 : decode cX6_letVote 59 = .ok (.iconst 2, 1) := by decide +kernel
theorem dX6_letVote_60 : decode cX6_letVote 60 = .ok (.aload_n 0, 1) := by decide +kernel
theorem dX6_letVote_61 : decode cX6_letVote 61 = .ok (.getfield 52, 3) := by decide +kernel
theorem dX6_letVote_64 : decode cX6_letVote 64 = .ok (.aload_n 0, 1) := by decide +kernel
theorem dX6_letVote_65 : decode cX6_letVote 65 = .ok (.getfield 56, 3) := by decide +kernel
theorem dX6_letVote_68 : decode cX6_letVote 68 = .ok (.iconst 0, 1) := by decide +kernel
theorem dX6_letVote_69 : decode cX6_letVote 69 = .ok (.invokevirtual 135, 3) := by decide +kernel
theorem dX6_letVote_72 : decode cX6_letVote 72 = .ok (.aload_n 0, 1) := by decide +kernel
theorem dX6_letVote_73 : decode cX6_letVote 73 = .ok (.getfield 56, 3) := by decide +kernel
theorem dX6_letVote_76 : decode cX6_letVote 76 = .ok (.ireturn, 1) := by decide +kernel
set_option maxRecDepth 20000 in
theorem ggX6_refusesRain_X8_isWithin : GoodIn wsX6_refusesRain wsX8_isWithin := goodIn_r _ [3] (by decide +kernel) (by decide +kernel)
set_option maxRecDepth 20000 in
theorem gX6_refusesRain_X8_isWithin_n95 : GoodIn wsX6_refusesRain (wsX8_isWithin) := ggX6_refusesRain_X8_isWithin
set_option maxRecDepth 20000 in
theorem ggX6_refusesRain_X5_because : GoodIn wsX6_refusesRain wsX5_because := goodIn_r _ [7, 8, 9, 10, 11, 12, 13, 14, 15] (by decide +kernel) (by decide +kernel)
set_option maxRecDepth 20000 in
theorem gX6_refusesRain_X5_because_n99 : GoodIn wsX6_refusesRain (wsX5_because) := ggX6_refusesRain_X5_because
theorem dX6_refusesRain_0 : decode cX6_refusesRain 0 = .ok (.iload_n 1, 1) := by decide +kernel
theorem dX6_refusesRain_1 : decode cX6_refusesRain 1 = .ok (.iconst 0, 1) := by decide +kernel
theorem dX6_refusesRain_2 : decode cX6_refusesRain 2 = .ok (.bipush 9, 2) := by decide +kernel
theorem dX6_refusesRain_4 : decode cX6_refusesRain 4 = .ok (.invokestatic 95, 3) := by decide +kernel
theorem dX6_refusesRain_7 : decode cX6_refusesRain 7 = .ok (.ifCond .ne 16, 3) := by decide +kernel
theorem dX6_refusesRain_10 : decode cX6_refusesRain 10 = .ok (.aload_n 2, 1) := by decide +kernel
theorem dX6_refusesRain_11 : decode cX6_refusesRain 11 = .ok (.iconst 1, 1) := by decide +kernel
theorem dX6_refusesRain_12 : decode cX6_refusesRain 12 = .ok (.iconst 0, 1) := by decide +kernel
theorem dX6_refusesRain_13 : decode cX6_refusesRain 13 = .ok (.invokevirtual 99, 3) := by decide +kernel
theorem dX6_refusesRain_16 : decode cX6_refusesRain 16 = .ok (.ifCond .eq 7, 3) := by decide +kernel
theorem dX6_refusesRain_19 : decode cX6_refusesRain 19 = .ok (.iconst 1, 1) := by decide +kernel
theorem dX6_refusesRain_20 : decode cX6_refusesRain 20 = .ok (.goto 4, 3) := by decide +kernel
theorem dX6_refusesRain_23 : decode cX6_refusesRain 23 = .ok (.iconst 0, 1) := by decide +kernel
theorem dX6_refusesRain_24 : decode cX6_refusesRain 24 = .ok (.ireturn, 1) := by decide +kernel
set_option maxRecDepth 20000 in
theorem ggX6_refusesNights_X8_isWithin : GoodIn wsX6_refusesNights wsX8_isWithin := goodIn_r _ [3] (by decide +kernel) (by decide +kernel)
set_option maxRecDepth 20000 in
theorem gX6_refusesNights_X8_isWithin_n95 : GoodIn wsX6_refusesNights (wsX8_isWithin) := ggX6_refusesNights_X8_isWithin
set_option maxRecDepth 20000 in
theorem ggX6_refusesNights_X5_because : GoodIn wsX6_refusesNights wsX5_because := goodIn_r _ [7, 8, 9, 10, 11, 12, 13, 14, 15] (by decide +kernel) (by decide +kernel)
set_option maxRecDepth 20000 in
theorem gX6_refusesNights_X5_because_n99 : GoodIn wsX6_refusesNights (wsX5_because) := ggX6_refusesNights_X5_because
theorem dX6_refusesNights_0 : decode cX6_refusesNights 0 = .ok (.iload_n 1, 1) := by decide +kernel
theorem dX6_refusesNights_1 : decode cX6_refusesNights 1 = .ok (.iconst 1, 1) := by decide +kernel
theorem dX6_refusesNights_2 : decode cX6_refusesNights 2 = .ok (.bipush 50, 2) := by decide +kernel
theorem dX6_refusesNights_4 : decode cX6_refusesNights 4 = .ok (.invokestatic 95, 3) := by decide +kernel
theorem dX6_refusesNights_7 : decode cX6_refusesNights 7 = .ok (.ifCond .ne 16, 3) := by decide +kernel
theorem dX6_refusesNights_10 : decode cX6_refusesNights 10 = .ok (.aload_n 2, 1) := by decide +kernel
theorem dX6_refusesNights_11 : decode cX6_refusesNights 11 = .ok (.iconst 1, 1) := by decide +kernel
theorem dX6_refusesNights_12 : decode cX6_refusesNights 12 = .ok (.iconst 0, 1) := by decide +kernel
theorem dX6_refusesNights_13 : decode cX6_refusesNights 13 = .ok (.invokevirtual 99, 3) := by decide +kernel
theorem dX6_refusesNights_16 : decode cX6_refusesNights 16 = .ok (.ifCond .eq 7, 3) := by decide +kernel
theorem dX6_refusesNights_19 : decode cX6_refusesNights 19 = .ok (.iconst 1, 1) := by decide +kernel
theorem dX6_refusesNights_20 : decode cX6_refusesNights 20 = .ok (.goto 4, 3) := by decide +kernel
theorem dX6_refusesNights_23 : decode cX6_refusesNights 23 = .ok (.iconst 0, 1) := by decide +kernel
theorem dX6_refusesNights_24 : decode cX6_refusesNights 24 = .ok (.ireturn, 1) := by decide +kernel
set_option maxRecDepth 20000 in
theorem ggX6_letNightsPass_X2_forgetDay : GoodIn wsX6_letNightsPass wsX2_forgetDay := goodIn_ca (goodIn_r _ [8, 9, 10, 11, 38, 39, 40, 41, 42, 43, 44, 45, 46] (by decide +kernel) (by decide +kernel)) (goodIn_sub (fun _ h => List.mem_cons_of_mem _ (List.mem_append_right _ h)) (by decide +kernel))
set_option maxRecDepth 20000 in
theorem gX6_letNightsPass_X2_forgetDay_n161 : GoodIn wsX6_letNightsPass (wsX2_forgetDay) := ggX6_letNightsPass_X2_forgetDay
set_option maxRecDepth 20000 in
theorem ggX6_letNightsPass_X7_passNight : GoodIn wsX6_letNightsPass wsX7_passNight := goodIn_r _ [15, 16, 17, 18, 19, 20, 30, 31, 32, 33, 34, 35, 36, 37] (by decide +kernel) (by decide +kernel)
set_option maxRecDepth 20000 in
theorem gX6_letNightsPass_X7_passNight_n164 : GoodIn wsX6_letNightsPass (wsX7_passNight) := ggX6_letNightsPass_X7_passNight
theorem dX6_letNightsPass_0 : decode cX6_letNightsPass 0 = .ok (.aload_n 0, 1) := by decide +kernel
theorem dX6_letNightsPass_1 : decode cX6_letNightsPass 1 = .ok (.getfield 21, 3) := by decide +kernel
theorem dX6_letNightsPass_4 : decode cX6_letNightsPass 4 = .ok (.iconst 0, 1) := by decide +kernel
theorem dX6_letNightsPass_5 : decode cX6_letNightsPass 5 = .ok (.putfield 86, 3) := by decide +kernel
theorem dX6_letNightsPass_8 : decode cX6_letNightsPass 8 = .ok (.aload_n 0, 1) := by decide +kernel
theorem dX6_letNightsPass_9 : decode cX6_letNightsPass 9 = .ok (.getfield 12, 3) := by decide +kernel
theorem dX6_letNightsPass_12 : decode cX6_letNightsPass 12 = .ok (.invokevirtual 161, 3) := by decide +kernel
theorem dX6_letNightsPass_15 : decode cX6_letNightsPass 15 = .ok (.iconst 0, 1) := by decide +kernel
theorem dX6_letNightsPass_16 : decode cX6_letNightsPass 16 = .ok (.istore_n 2, 1) := by decide +kernel
theorem dX6_letNightsPass_17 : decode cX6_letNightsPass 17 = .ok (.iload_n 2, 1) := by decide +kernel
theorem dX6_letNightsPass_18 : decode cX6_letNightsPass 18 = .ok (.iload_n 1, 1) := by decide +kernel
theorem dX6_letNightsPass_19 : decode cX6_letNightsPass 19 = .ok (.if_icmp .ge 16, 3) := by decide +kernel
theorem dX6_letNightsPass_22 : decode cX6_letNightsPass 22 = .ok (.aload_n 0, 1) := by decide +kernel
theorem dX6_letNightsPass_23 : decode cX6_letNightsPass 23 = .ok (.getfield 28, 3) := by decide +kernel
theorem dX6_letNightsPass_26 : decode cX6_letNightsPass 26 = .ok (.invokevirtual 164, 3) := by decide +kernel
theorem dX6_letNightsPass_29 : decode cX6_letNightsPass 29 = .ok (.iinc 2 1, 3) := by decide +kernel
theorem dX6_letNightsPass_32 : decode cX6_letNightsPass 32 = .ok (.goto (-15), 3) := by decide +kernel
theorem dX6_letNightsPass_35 : decode cX6_letNightsPass 35 = .ok (.aload_n 0, 1) := by decide +kernel
theorem dX6_letNightsPass_36 : decode cX6_letNightsPass 36 = .ok (.dup, 1) := by decide +kernel
theorem dX6_letNightsPass_37 : decode cX6_letNightsPass 37 = .ok (.getfield 52, 3) := by decide +kernel
theorem dX6_letNightsPass_40 : decode cX6_letNightsPass 40 = .ok (.iload_n 1, 1) := by decide +kernel
theorem dX6_letNightsPass_41 : decode cX6_letNightsPass 41 = .ok (.iadd, 1) := by decide +kernel
theorem dX6_letNightsPass_42 : decode cX6_letNightsPass 42 = .ok (.putfield 52, 3) := by decide +kernel
theorem dX6_letNightsPass_45 : decode cX6_letNightsPass 45 = .ok (.aload_n 0, 1) := by decide +kernel
theorem dX6_letNightsPass_46 : decode cX6_letNightsPass 46 = .ok (.getfield 28, 3) := by decide +kernel
theorem dX6_letNightsPass_49 : decode cX6_letNightsPass 49 = .ok (.getfield 146, 3) := by decide +kernel
theorem dX6_letNightsPass_52 : decode cX6_letNightsPass 52 = .ok (.ireturn, 1) := by decide +kernel
set_option maxRecDepth 20000 in
theorem ggX6_refusesCoins_X8_isWithin : GoodIn wsX6_refusesCoins wsX8_isWithin := goodIn_r _ [4] (by decide +kernel) (by decide +kernel)
set_option maxRecDepth 20000 in
theorem gX6_refusesCoins_X8_isWithin_n95 : GoodIn wsX6_refusesCoins (wsX8_isWithin) := ggX6_refusesCoins_X8_isWithin
set_option maxRecDepth 20000 in
theorem ggX6_refusesCoins_X5_because : GoodIn wsX6_refusesCoins wsX5_because := goodIn_r _ [8, 9, 10, 11, 12, 20, 21, 22, 23] (by decide +kernel) (by decide +kernel)
set_option maxRecDepth 20000 in
theorem gX6_refusesCoins_X5_because_n99 : GoodIn wsX6_refusesCoins (wsX5_because) := ggX6_refusesCoins_X5_because
theorem dX6_refusesCoins_0 : decode cX6_refusesCoins 0 = .ok (.iload_n 1, 1) := by decide +kernel
theorem dX6_refusesCoins_1 : decode cX6_refusesCoins 1 = .ok (.iconst 1, 1) := by decide +kernel
theorem dX6_refusesCoins_2 : decode cX6_refusesCoins 2 = .ok (.bipush 100, 2) := by decide +kernel
theorem dX6_refusesCoins_4 : decode cX6_refusesCoins 4 = .ok (.invokestatic 95, 3) := by decide +kernel
theorem dX6_refusesCoins_7 : decode cX6_refusesCoins 7 = .ok (.ifCond .ne 10, 3) := by decide +kernel
theorem dX6_refusesCoins_10 : decode cX6_refusesCoins 10 = .ok (.aload_n 2, 1) := by decide +kernel
theorem dX6_refusesCoins_11 : decode cX6_refusesCoins 11 = .ok (.iconst 1, 1) := by decide +kernel
theorem dX6_refusesCoins_12 : decode cX6_refusesCoins 12 = .ok (.iconst 0, 1) := by decide +kernel
theorem dX6_refusesCoins_13 : decode cX6_refusesCoins 13 = .ok (.invokevirtual 99, 3) := by decide +kernel
theorem dX6_refusesCoins_16 : decode cX6_refusesCoins 16 = .ok (.ireturn, 1) := by decide +kernel
theorem dX6_refusesCoins_17 : decode cX6_refusesCoins 17 = .ok (.aload_n 0, 1) := by decide +kernel
theorem dX6_refusesCoins_18 : decode cX6_refusesCoins 18 = .ok (.getfield 59, 3) := by decide +kernel
theorem dX6_refusesCoins_21 : decode cX6_refusesCoins 21 = .ok (.iload_n 1, 1) := by decide +kernel
theorem dX6_refusesCoins_22 : decode cX6_refusesCoins 22 = .ok (.iadd, 1) := by decide +kernel
theorem dX6_refusesCoins_23 : decode cX6_refusesCoins 23 = .ok (.sipush 500, 3) := by decide +kernel
theorem dX6_refusesCoins_26 : decode cX6_refusesCoins 26 = .ok (.if_icmp .le 18, 3) := by decide +kernel
theorem dX6_refusesCoins_29 : decode cX6_refusesCoins 29 = .ok (.aload_n 2, 1) := by decide +kernel
theorem dX6_refusesCoins_30 : decode cX6_refusesCoins 30 = .ok (.iconst 2, 1) := by decide +kernel
theorem dX6_refusesCoins_31 : decode cX6_refusesCoins 31 = .ok (.sipush 500, 3) := by decide +kernel
theorem dX6_refusesCoins_34 : decode cX6_refusesCoins 34 = .ok (.invokevirtual 99, 3) := by decide +kernel
theorem dX6_refusesCoins_37 : decode cX6_refusesCoins 37 = .ok (.ifCond .eq 7, 3) := by decide +kernel
theorem dX6_refusesCoins_40 : decode cX6_refusesCoins 40 = .ok (.iconst 1, 1) := by decide +kernel
theorem dX6_refusesCoins_41 : decode cX6_refusesCoins 41 = .ok (.goto 4, 3) := by decide +kernel
theorem dX6_refusesCoins_44 : decode cX6_refusesCoins 44 = .ok (.iconst 0, 1) := by decide +kernel
theorem dX6_refusesCoins_45 : decode cX6_refusesCoins 45 = .ok (.ireturn, 1) := by decide +kernel
set_option maxRecDepth 20000 in
theorem ggX6_refusesLeather_X5_because : GoodIn wsX6_refusesLeather wsX5_because := goodIn_r _ [5, 6, 7, 8, 9, 17, 18, 19, 20] (by decide +kernel) (by decide +kernel)
set_option maxRecDepth 20000 in
theorem gX6_refusesLeather_X5_because_n99 : GoodIn wsX6_refusesLeather (wsX5_because) := ggX6_refusesLeather_X5_because
theorem dX6_refusesLeather_0 : decode cX6_refusesLeather 0 = .ok (.aload_n 0, 1) := by decide +kernel
theorem dX6_refusesLeather_1 : decode cX6_refusesLeather 1 = .ok (.getfield 59, 3) := by decide +kernel
theorem dX6_refusesLeather_4 : decode cX6_refusesLeather 4 = .ok (.bipush 20, 2) := by decide +kernel
theorem dX6_refusesLeather_6 : decode cX6_refusesLeather 6 = .ok (.if_icmp .ge 23, 3) := by decide +kernel
theorem dX6_refusesLeather_9 : decode cX6_refusesLeather 9 = .ok (.aload_n 1, 1) := by decide +kernel
theorem dX6_refusesLeather_10 : decode cX6_refusesLeather 10 = .ok (.bipush 9, 2) := by decide +kernel
theorem dX6_refusesLeather_12 : decode cX6_refusesLeather 12 = .ok (.bipush 20, 2) := by decide +kernel
theorem dX6_refusesLeather_14 : decode cX6_refusesLeather 14 = .ok (.aload_n 0, 1) := by decide +kernel
theorem dX6_refusesLeather_15 : decode cX6_refusesLeather 15 = .ok (.getfield 59, 3) := by decide +kernel
theorem dX6_refusesLeather_18 : decode cX6_refusesLeather 18 = .ok (.isub, 1) := by decide +kernel
theorem dX6_refusesLeather_19 : decode cX6_refusesLeather 19 = .ok (.invokevirtual 99, 3) := by decide +kernel
theorem dX6_refusesLeather_22 : decode cX6_refusesLeather 22 = .ok (.ifCond .eq 7, 3) := by decide +kernel
theorem dX6_refusesLeather_25 : decode cX6_refusesLeather 25 = .ok (.iconst 1, 1) := by decide +kernel
theorem dX6_refusesLeather_26 : decode cX6_refusesLeather 26 = .ok (.goto 4, 3) := by decide +kernel
theorem dX6_refusesLeather_29 : decode cX6_refusesLeather 29 = .ok (.iconst 0, 1) := by decide +kernel
theorem dX6_refusesLeather_30 : decode cX6_refusesLeather 30 = .ok (.ireturn, 1) := by decide +kernel
set_option maxRecDepth 20000 in
theorem ggX6_changeLeather_X3_note : GoodIn wsX6_changeLeather wsX3_note := goodIn_ca (goodIn_r _ [8, 9, 10, 11, 12, 13, 14, 15, 16, 17, 18, 31, 32, 33, 34, 35, 36] (by decide +kernel) (by decide +kernel)) (goodIn_sub (fun _ h => List.mem_cons_of_mem _ (List.mem_append_right _ h)) (by decide +kernel))
set_option maxRecDepth 20000 in
theorem gX6_changeLeather_X3_note_n135 : GoodIn wsX6_changeLeather (wsX3_note) := ggX6_changeLeather_X3_note
set_option maxRecDepth 20000 in
theorem ggX6_changeLeather_X7_renewLeather : GoodIn wsX6_changeLeather wsX7_renewLeather := goodIn_r _ [22, 23, 37, 38, 39, 40, 41, 42, 43, 44] (by decide +kernel) (by decide +kernel)
set_option maxRecDepth 20000 in
theorem gX6_changeLeather_X7_renewLeather_n167 : GoodIn wsX6_changeLeather (wsX7_renewLeather) := ggX6_changeLeather_X7_renewLeather
theorem dX6_changeLeather_0 : decode cX6_changeLeather 0 = .ok (.aload_n 0, 1) := by decide +kernel
theorem dX6_changeLeather_1 : decode cX6_changeLeather 1 = .ok (.dup, 1) := by decide +kernel
theorem dX6_changeLeather_2 : decode cX6_changeLeather 2 = .ok (.getfield 59, 3) := by decide +kernel
theorem dX6_changeLeather_5 : decode cX6_changeLeather 5 = .ok (.bipush 20, 2) := by decide +kernel
theorem dX6_changeLeather_7 : decode cX6_changeLeather 7 = .ok (.isub, 1) := by decide +kernel
theorem dX6_changeLeather_8 : decode cX6_changeLeather 8 = .ok (.putfield 59, 3) := by decide +kernel
theorem dX6_changeLeather_11 : decode cX6_changeLeather 11 = .ok (.aload_n 0, 1) := by decide +kernel
theorem dX6_changeLeather_12 : decode cX6_changeLeather 12 = .ok (.getfield 35, 3) := by decide +kernel
theorem dX6_changeLeather_15 : decode cX6_changeLeather 15 = .ok (.iconst 3, 1) := by decide +kernel
theorem dX6_changeLeather_16 : decode cX6_changeLeather 16 = .ok (.aload_n 0, 1) := by decide +kernel
theorem dX6_changeLeather_17 : decode cX6_changeLeather 17 = .ok (.getfield 52, 3) := by decide +kernel
theorem dX6_changeLeather_20 : decode cX6_changeLeather 20 = .ok (.iconst 0, 1) := by decide +kernel
theorem dX6_changeLeather_21 : decode cX6_changeLeather 21 = .ok (.iconst 0, 1) := by decide +kernel
theorem dX6_changeLeather_22 : decode cX6_changeLeather 22 = .ok (.invokevirtual 135, 3) := by decide +kernel
theorem dX6_changeLeather_25 : decode cX6_changeLeather 25 = .ok (.aload_n 0, 1) := by decide +kernel
theorem dX6_changeLeather_26 : decode cX6_changeLeather 26 = .ok (.getfield 28, 3) := by decide +kernel
theorem dX6_changeLeather_29 : decode cX6_changeLeather 29 = .ok (.invokevirtual 167, 3) := by decide +kernel
theorem dX6_changeLeather_32 : decode cX6_changeLeather 32 = .ok (.ireturn, 1) := by decide +kernel
theorem dX7_init_0 : decode cX7_init 0 = .ok (.aload_n 0, 1) := by decide +kernel
theorem dX7_init_1 : decode cX7_init 1 = .ok (.invokespecial 3, 3) := by decide +kernel
theorem dX7_init_4 : decode cX7_init 4 = .ok (.aload_n 0, 1) := by decide +kernel
theorem dX7_init_5 : decode cX7_init 5 = .ok (.sipush 500, 3) := by decide +kernel
theorem dX7_init_8 : decode cX7_init 8 = .ok (.putfield 9, 3) := by decide +kernel
theorem dX7_init_11 : decode cX7_init 11 = .ok (.aload_n 0, 1) := by decide +kernel
theorem dX7_init_12 : decode cX7_init 12 = .ok (.iconst 2, 1) := by decide +kernel
theorem dX7_init_13 : decode cX7_init 13 = .ok (.putfield 15, 3) := by decide +kernel
theorem dX7_init_16 : decode cX7_init 16 = .ok (.return_, 1) := by decide +kernel
theorem dX7_copyFrom_0 : decode cX7_copyFrom 0 = .ok (.aload_n 0, 1) := by decide +kernel
theorem dX7_copyFrom_1 : decode cX7_copyFrom 1 = .ok (.aload_n 1, 1) := by decide +kernel
theorem dX7_copyFrom_2 : decode cX7_copyFrom 2 = .ok (.getfield 9, 3) := by decide +kernel
theorem dX7_copyFrom_5 : decode cX7_copyFrom 5 = .ok (.putfield 9, 3) := by decide +kernel
theorem dX7_copyFrom_8 : decode cX7_copyFrom 8 = .ok (.aload_n 0, 1) := by decide +kernel
theorem dX7_copyFrom_9 : decode cX7_copyFrom 9 = .ok (.aload_n 1, 1) := by decide +kernel
theorem dX7_copyFrom_10 : decode cX7_copyFrom 10 = .ok (.getfield 18, 3) := by decide +kernel
theorem dX7_copyFrom_13 : decode cX7_copyFrom 13 = .ok (.putfield 18, 3) := by decide +kernel
theorem dX7_copyFrom_16 : decode cX7_copyFrom 16 = .ok (.aload_n 0, 1) := by decide +kernel
theorem dX7_copyFrom_17 : decode cX7_copyFrom 17 = .ok (.aload_n 1, 1) := by decide +kernel
theorem dX7_copyFrom_18 : decode cX7_copyFrom 18 = .ok (.getfield 21, 3) := by decide +kernel
theorem dX7_copyFrom_21 : decode cX7_copyFrom 21 = .ok (.putfield 21, 3) := by decide +kernel
theorem dX7_copyFrom_24 : decode cX7_copyFrom 24 = .ok (.aload_n 0, 1) := by decide +kernel
theorem dX7_copyFrom_25 : decode cX7_copyFrom 25 = .ok (.aload_n 1, 1) := by decide +kernel
theorem dX7_copyFrom_26 : decode cX7_copyFrom 26 = .ok (.getfield 24, 3) := by decide +kernel
theorem dX7_copyFrom_29 : decode cX7_copyFrom 29 = .ok (.putfield 24, 3) := by decide +kernel
theorem dX7_copyFrom_32 : decode cX7_copyFrom 32 = .ok (.aload_n 0, 1) := by decide +kernel
theorem dX7_copyFrom_33 : decode cX7_copyFrom 33 = .ok (.aload_n 1, 1) := by decide +kernel
theorem dX7_copyFrom_34 : decode cX7_copyFrom 34 = .ok (.getfield 15, 3) := by decide +kernel
theorem dX7_copyFrom_37 : decode cX7_copyFrom 37 = .ok (.putfield 15, 3) := by decide +kernel
theorem dX7_copyFrom_40 : decode cX7_copyFrom 40 = .ok (.aload_n 0, 1) := by decide +kernel
theorem dX7_copyFrom_41 : decode cX7_copyFrom 41 = .ok (.aload_n 1, 1) := by decide +kernel
theorem dX7_copyFrom_42 : decode cX7_copyFrom 42 = .ok (.getfield 27, 3) := by decide +kernel
theorem dX7_copyFrom_45 : decode cX7_copyFrom 45 = .ok (.putfield 27, 3) := by decide +kernel
theorem dX7_copyFrom_48 : decode cX7_copyFrom 48 = .ok (.aload_n 0, 1) := by decide +kernel
theorem dX7_copyFrom_49 : decode cX7_copyFrom 49 = .ok (.aload_n 1, 1) := by decide +kernel
theorem dX7_copyFrom_50 : decode cX7_copyFrom 50 = .ok (.getfield 30, 3) := by decide +kernel
theorem dX7_copyFrom_53 : decode cX7_copyFrom 53 = .ok (.putfield 30, 3) := by decide +kernel
theorem dX7_copyFrom_56 : decode cX7_copyFrom 56 = .ok (.aload_n 0, 1) := by decide +kernel
theorem dX7_copyFrom_57 : decode cX7_copyFrom 57 = .ok (.aload_n 1, 1) := by decide +kernel
theorem dX7_copyFrom_58 : decode cX7_copyFrom 58 = .ok (.getfield 33, 3) := by decide +kernel
theorem dX7_copyFrom_61 : decode cX7_copyFrom 61 = .ok (.putfield 33, 3) := by decide +kernel
theorem dX7_copyFrom_64 : decode cX7_copyFrom 64 = .ok (.return_, 1) := by decide +kernel
theorem dX7_waterAtWear_0 : decode cX7_waterAtWear 0 = .ok (.bipush 10, 2) := by decide +kernel
theorem dX7_waterAtWear_2 : decode cX7_waterAtWear 2 = .ok (.iload_n 0, 1) := by decide +kernel
theorem dX7_waterAtWear_3 : decode cX7_waterAtWear 3 = .ok (.bipush 10, 2) := by decide +kernel
theorem dX7_waterAtWear_5 : decode cX7_waterAtWear 5 = .ok (.idiv, 1) := by decide +kernel
theorem dX7_waterAtWear_6 : decode cX7_waterAtWear 6 = .ok (.isub, 1) := by decide +kernel
theorem dX7_waterAtWear_7 : decode cX7_waterAtWear 7 = .ok (.ireturn, 1) := by decide +kernel
set_option maxRecDepth 20000 in
theorem ggX7_waterOf_X7_waterAtWear : GoodIn wsX7_waterOf wsX7_waterAtWear := goodIn_r _ [9] (by decide +kernel) (by decide +kernel)
set_option maxRecDepth 20000 in
theorem gX7_waterOf_X7_waterAtWear : GoodIn wsX7_waterOf (va_wsS RX7 43 yX7_waterAtWear wsX7_waterAtWear) := goodIn_app (goodIn_of _ (by decide +kernel)) ggX7_waterOf_X7_waterAtWear
theorem dX7_waterOf_0 : decode cX7_waterOf 0 = .ok (.iconst 0, 1) := by decide +kernel
theorem dX7_waterOf_1 : decode cX7_waterOf 1 = .ok (.istore_n 2, 1) := by decide +kernel
theorem dX7_waterOf_2 : decode cX7_waterOf 2 = .ok (.iconst 0, 1) := by decide +kernel
theorem dX7_waterOf_3 : decode cX7_waterOf 3 = .ok (.istore_n 3, 1) := by decide +kernel
theorem dX7_waterOf_4 : decode cX7_waterOf 4 = .ok (.iload_n 3, 1) := by decide +kernel
theorem dX7_waterOf_5 : decode cX7_waterOf 5 = .ok (.iload_n 1, 1) := by decide +kernel
theorem dX7_waterOf_6 : decode cX7_waterOf 6 = .ok (.if_icmp .ge 26, 3) := by decide +kernel
theorem dX7_waterOf_9 : decode cX7_waterOf 9 = .ok (.iload_n 2, 1) := by decide +kernel
theorem dX7_waterOf_10 : decode cX7_waterOf 10 = .ok (.bipush 50, 2) := by decide +kernel
theorem dX7_waterOf_12 : decode cX7_waterOf 12 = .ok (.aload_n 0, 1) := by decide +kernel
theorem dX7_waterOf_13 : decode cX7_waterOf 13 = .ok (.getfield 27, 3) := by decide +kernel
theorem dX7_waterOf_16 : decode cX7_waterOf 16 = .ok (.iload_n 3, 1) := by decide +kernel
theorem dX7_waterOf_17 : decode cX7_waterOf 17 = .ok (.iadd, 1) := by decide +kernel
theorem dX7_waterOf_18 : decode cX7_waterOf 18 = .ok (.invokestatic 37, 3) := by decide +kernel
theorem dX7_waterOf_21 : decode cX7_waterOf 21 = .ok (.invokestatic 43, 3) := by decide +kernel
theorem dX7_waterOf_24 : decode cX7_waterOf 24 = .ok (.iadd, 1) := by decide +kernel
theorem dX7_waterOf_25 : decode cX7_waterOf 25 = .ok (.istore_n 2, 1) := by decide +kernel
theorem dX7_waterOf_26 : decode cX7_waterOf 26 = .ok (.iinc 3 1, 3) := by decide +kernel
theorem dX7_waterOf_29 : decode cX7_waterOf 29 = .ok (.goto (-25), 3) := by decide +kernel
theorem dX7_waterOf_32 : decode cX7_waterOf 32 = .ok (.iload_n 2, 1) := by decide +kernel
theorem dX7_waterOf_33 : decode cX7_waterOf 33 = .ok (.ireturn, 1) := by decide +kernel
set_option maxRecDepth 20000 in
theorem ggX7_drawOnce_X7_waterAtWear : GoodIn wsX7_drawOnce wsX7_waterAtWear := goodIn_r _ [12] (by decide +kernel) (by decide +kernel)
set_option maxRecDepth 20000 in
theorem gX7_drawOnce_X7_waterAtWear : GoodIn wsX7_drawOnce (va_wsS RX7 43 yX7_waterAtWear wsX7_waterAtWear) := goodIn_app (goodIn_of _ (by decide +kernel)) ggX7_drawOnce_X7_waterAtWear
theorem dX7_drawOnce_0 : decode cX7_drawOnce 0 = .ok (.aload_n 0, 1) := by decide +kernel
theorem dX7_drawOnce_1 : decode cX7_drawOnce 1 = .ok (.getfield 27, 3) := by decide +kernel
theorem dX7_drawOnce_4 : decode cX7_drawOnce 4 = .ok (.invokestatic 43, 3) := by decide +kernel
theorem dX7_drawOnce_7 : decode cX7_drawOnce 7 = .ok (.istore_n 1, 1) := by decide +kernel
theorem dX7_drawOnce_8 : decode cX7_drawOnce 8 = .ok (.aload_n 0, 1) := by decide +kernel
theorem dX7_drawOnce_9 : decode cX7_drawOnce 9 = .ok (.dup, 1) := by decide +kernel
theorem dX7_drawOnce_10 : decode cX7_drawOnce 10 = .ok (.getfield 9, 3) := by decide +kernel
theorem dX7_drawOnce_13 : decode cX7_drawOnce 13 = .ok (.iload_n 1, 1) := by decide +kernel
theorem dX7_drawOnce_14 : decode cX7_drawOnce 14 = .ok (.isub, 1) := by decide +kernel
theorem dX7_drawOnce_15 : decode cX7_drawOnce 15 = .ok (.putfield 9, 3) := by decide +kernel
theorem dX7_drawOnce_18 : decode cX7_drawOnce 18 = .ok (.aload_n 0, 1) := by decide +kernel
theorem dX7_drawOnce_19 : decode cX7_drawOnce 19 = .ok (.dup, 1) := by decide +kernel
theorem dX7_drawOnce_20 : decode cX7_drawOnce 20 = .ok (.getfield 18, 3) := by decide +kernel
theorem dX7_drawOnce_23 : decode cX7_drawOnce 23 = .ok (.iload_n 1, 1) := by decide +kernel
theorem dX7_drawOnce_24 : decode cX7_drawOnce 24 = .ok (.iadd, 1) := by decide +kernel
theorem dX7_drawOnce_25 : decode cX7_drawOnce 25 = .ok (.putfield 18, 3) := by decide +kernel
theorem dX7_drawOnce_28 : decode cX7_drawOnce 28 = .ok (.aload_n 0, 1) := by decide +kernel
theorem dX7_drawOnce_29 : decode cX7_drawOnce 29 = .ok (.dup, 1) := by decide +kernel
theorem dX7_drawOnce_30 : decode cX7_drawOnce 30 = .ok (.getfield 30, 3) := by decide +kernel
theorem dX7_drawOnce_33 : decode cX7_drawOnce 33 = .ok (.iconst 1, 1) := by decide +kernel
theorem dX7_drawOnce_34 : decode cX7_drawOnce 34 = .ok (.iadd, 1) := by decide +kernel
theorem dX7_drawOnce_35 : decode cX7_drawOnce 35 = .ok (.putfield 30, 3) := by decide +kernel
theorem dX7_drawOnce_38 : decode cX7_drawOnce 38 = .ok (.aload_n 0, 1) := by decide +kernel
theorem dX7_drawOnce_39 : decode cX7_drawOnce 39 = .ok (.bipush 50, 2) := by decide +kernel
theorem dX7_drawOnce_41 : decode cX7_drawOnce 41 = .ok (.aload_n 0, 1) := by decide +kernel
theorem dX7_drawOnce_42 : decode cX7_drawOnce 42 = .ok (.getfield 27, 3) := by decide +kernel
theorem dX7_drawOnce_45 : decode cX7_drawOnce 45 = .ok (.iconst 1, 1) := by decide +kernel
theorem dX7_drawOnce_46 : decode cX7_drawOnce 46 = .ok (.iadd, 1) := by decide +kernel
theorem dX7_drawOnce_47 : decode cX7_drawOnce 47 = .ok (.invokestatic 37, 3) := by decide +kernel
theorem dX7_drawOnce_50 : decode cX7_drawOnce 50 = .ok (.putfield 27, 3) := by decide +kernel
theorem dX7_drawOnce_53 : decode cX7_drawOnce 53 = .ok (.iload_n 1, 1) := by decide +kernel
theorem dX7_drawOnce_54 : decode cX7_drawOnce 54 = .ok (.ireturn, 1) := by decide +kernel
theorem dX7_renewLeather_0 : decode cX7_renewLeather 0 = .ok (.aload_n 0, 1) := by decide +kernel
theorem dX7_renewLeather_1 : decode cX7_renewLeather 1 = .ok (.getfield 27, 3) := by decide +kernel
theorem dX7_renewLeather_4 : decode cX7_renewLeather 4 = .ok (.istore_n 1, 1) := by decide +kernel
theorem dX7_renewLeather_5 : decode cX7_renewLeather 5 = .ok (.aload_n 0, 1) := by decide +kernel
theorem dX7_renewLeather_6 : decode cX7_renewLeather 6 = .ok (.iconst 0, 1) := by decide +kernel
theorem dX7_renewLeather_7 : decode cX7_renewLeather 7 = .ok (.putfield 27, 3) := by decide +kernel
theorem dX7_renewLeather_10 : decode cX7_renewLeather 10 = .ok (.iload_n 1, 1) := by decide +kernel
theorem dX7_renewLeather_11 : decode cX7_renewLeather 11 = .ok (.ireturn, 1) := by decide +kernel
theorem dX7_changeRain_0 : decode cX7_changeRain 0 = .ok (.aload_n 0, 1) := by decide +kernel
theorem dX7_changeRain_1 : decode cX7_changeRain 1 = .ok (.getfield 15, 3) := by decide +kernel
theorem dX7_changeRain_4 : decode cX7_changeRain 4 = .ok (.istore_n 2, 1) := by decide +kernel
theorem dX7_changeRain_5 : decode cX7_changeRain 5 = .ok (.aload_n 0, 1) := by decide +kernel
theorem dX7_changeRain_6 : decode cX7_changeRain 6 = .ok (.iload_n 1, 1) := by decide +kernel
theorem dX7_changeRain_7 : decode cX7_changeRain 7 = .ok (.putfield 15, 3) := by decide +kernel
theorem dX7_changeRain_10 : decode cX7_changeRain 10 = .ok (.iload_n 2, 1) := by decide +kernel
theorem dX7_changeRain_11 : decode cX7_changeRain 11 = .ok (.ireturn, 1) := by decide +kernel
theorem dX7_passNight_0 : decode cX7_passNight 0 = .ok (.bipush 10, 2) := by decide +kernel
theorem dX7_passNight_2 : decode cX7_passNight 2 = .ok (.aload_n 0, 1) := by decide +kernel
theorem dX7_passNight_3 : decode cX7_passNight 3 = .ok (.getfield 15, 3) := by decide +kernel
theorem dX7_passNight_6 : decode cX7_passNight 6 = .ok (.imul, 1) := by decide +kernel
theorem dX7_passNight_7 : decode cX7_passNight 7 = .ok (.istore_n 1, 1) := by decide +kernel
theorem dX7_passNight_8 : decode cX7_passNight 8 = .ok (.aload_n 0, 1) := by decide +kernel
theorem dX7_passNight_9 : decode cX7_passNight 9 = .ok (.dup, 1) := by decide +kernel
theorem dX7_passNight_10 : decode cX7_passNight 10 = .ok (.getfield 24, 3) := by decide +kernel
theorem dX7_passNight_13 : decode cX7_passNight 13 = .ok (.iload_n 1, 1) := by decide +kernel
theorem dX7_passNight_14 : decode cX7_passNight 14 = .ok (.iadd, 1) := by decide +kernel
theorem dX7_passNight_15 : decode cX7_passNight 15 = .ok (.putfield 24, 3) := by decide +kernel
theorem dX7_passNight_18 : decode cX7_passNight 18 = .ok (.aload_n 0, 1) := by decide +kernel
theorem dX7_passNight_19 : decode cX7_passNight 19 = .ok (.dup, 1) := by decide +kernel
theorem dX7_passNight_20 : decode cX7_passNight 20 = .ok (.getfield 9, 3) := by decide +kernel
theorem dX7_passNight_23 : decode cX7_passNight 23 = .ok (.iload_n 1, 1) := by decide +kernel
theorem dX7_passNight_24 : decode cX7_passNight 24 = .ok (.iadd, 1) := by decide +kernel
theorem dX7_passNight_25 : decode cX7_passNight 25 = .ok (.putfield 9, 3) := by decide +kernel
theorem dX7_passNight_28 : decode cX7_passNight 28 = .ok (.aload_n 0, 1) := by decide +kernel
theorem dX7_passNight_29 : decode cX7_passNight 29 = .ok (.getfield 9, 3) := by decide +kernel
theorem dX7_passNight_32 : decode cX7_passNight 32 = .ok (.sipush 999, 3) := by decide +kernel
theorem dX7_passNight_35 : decode cX7_passNight 35 = .ok (.if_icmp .le 27, 3) := by decide +kernel
theorem dX7_passNight_38 : decode cX7_passNight 38 = .ok (.aload_n 0, 1) := by decide +kernel
theorem dX7_passNight_39 : decode cX7_passNight 39 = .ok (.dup, 1) := by decide +kernel
theorem dX7_passNight_40 : decode cX7_passNight 40 = .ok (.getfield 21, 3) := by decide +kernel
theorem dX7_passNight_43 : decode cX7_passNight 43 = .ok (.aload_n 0, 1) := by decide +kernel
theorem dX7_passNight_44 : decode cX7_passNight 44 = .ok (.getfield 9, 3) := by decide +kernel
theorem dX7_passNight_47 : decode cX7_passNight 47 = .ok (.sipush 999, 3) := by decide +kernel
theorem dX7_passNight_50 : decode cX7_passNight 50 = .ok (.isub, 1) := by decide +kernel
theorem dX7_passNight_51 : decode cX7_passNight 51 = .ok (.iadd, 1) := by decide +kernel
theorem dX7_passNight_52 : decode cX7_passNight 52 = .ok (.putfield 21, 3) := by decide +kernel
theorem dX7_passNight_55 : decode cX7_passNight 55 = .ok (.aload_n 0, 1) := by decide +kernel
theorem dX7_passNight_56 : decode cX7_passNight 56 = .ok (.sipush 999, 3) := by decide +kernel
theorem dX7_passNight_59 : decode cX7_passNight 59 = .ok (.putfield 9, 3) := by decide +kernel
theorem dX7_passNight_62 : decode cX7_passNight 62 = .ok (.aload_n 0, 1) := by decide +kernel
theorem dX7_passNight_63 : decode cX7_passNight 63 = .ok (.aload_n 0, 1) := by decide +kernel
theorem dX7_passNight_64 : decode cX7_passNight 64 = .ok (.getfield 9, 3) := by decide +kernel
theorem dX7_passNight_67 : decode cX7_passNight 67 = .ok (.bipush 100, 2) := by decide +kernel
theorem dX7_passNight_69 : decode cX7_passNight 69 = .ok (.if_icmp .ge 7, 3) := by decide +kernel
theorem dX7_passNight_72 : decode cX7_passNight 72 = .ok (.iconst 1, 1) := by decide +kernel
theorem dX7_passNight_73 : decode cX7_passNight 73 = .ok (.goto 4, 3) := by decide +kernel
theorem dX7_passNight_76 : decode cX7_passNight 76 = .ok (.iconst 0, 1) := by decide +kernel
theorem dX7_passNight_77 : decode cX7_passNight 77 = .ok (.putfield 33, 3) := by decide +kernel
theorem dX7_passNight_80 : decode cX7_passNight 80 = .ok (.return_, 1) := by decide +kernel
theorem dX7_levelAfterNight_0 : decode cX7_levelAfterNight 0 = .ok (.iconst 0, 1) := by decide +kernel
theorem dX7_levelAfterNight_1 : decode cX7_levelAfterNight 1 = .ok (.iload_n 1, 1) := by decide +kernel
theorem dX7_levelAfterNight_2 : decode cX7_levelAfterNight 2 = .ok (.iload_n 2, 1) := by decide +kernel
theorem dX7_levelAfterNight_3 : decode cX7_levelAfterNight 3 = .ok (.isub, 1) := by decide +kernel
theorem dX7_levelAfterNight_4 : decode cX7_levelAfterNight 4 = .ok (.invokestatic 47, 3) := by decide +kernel
theorem dX7_levelAfterNight_7 : decode cX7_levelAfterNight 7 = .ok (.istore_n 3, 1) := by decide +kernel
theorem dX7_levelAfterNight_8 : decode cX7_levelAfterNight 8 = .ok (.sipush 999, 3) := by decide +kernel
theorem dX7_levelAfterNight_11 : decode cX7_levelAfterNight 11 = .ok (.iload_n 3, 1) := by decide +kernel
theorem dX7_levelAfterNight_12 : decode cX7_levelAfterNight 12 = .ok (.bipush 10, 2) := by decide +kernel
theorem dX7_levelAfterNight_14 : decode cX7_levelAfterNight 14 = .ok (.aload_n 0, 1) := by decide +kernel
theorem dX7_levelAfterNight_15 : decode cX7_levelAfterNight 15 = .ok (.getfield 15, 3) := by decide +kernel
theorem dX7_levelAfterNight_18 : decode cX7_levelAfterNight 18 = .ok (.imul, 1) := by decide +kernel
theorem dX7_levelAfterNight_19 : decode cX7_levelAfterNight 19 = .ok (.iadd, 1) := by decide +kernel
theorem dX7_levelAfterNight_20 : decode cX7_levelAfterNight 20 = .ok (.invokestatic 37, 3) := by decide +kernel
theorem dX7_levelAfterNight_23 : decode cX7_levelAfterNight 23 = .ok (.ireturn, 1) := by decide +kernel
set_option maxRecDepth 20000 in
theorem ggX7_levelAfter_X7_levelAfterNight : GoodIn wsX7_levelAfter wsX7_levelAfterNight := goodIn_r _ [6, 7, 8, 9, 10, 11, 12, 13, 14, 15, 16, 17, 18, 19, 20, 21, 22] (by decide +kernel) (by decide +kernel)
set_option maxRecDepth 20000 in
theorem gX7_levelAfter_X7_levelAfterNight : GoodIn wsX7_levelAfter (wsV RX7 50 RX7 yX7_levelAfterNight wsX7_levelAfterNight) := goodIn_app (goodIn_of _ (by decide +kernel)) ggX7_levelAfter_X7_levelAfterNight
theorem dX7_levelAfter_0 : decode cX7_levelAfter 0 = .ok (.aload_n 0, 1) := by decide +kernel
theorem dX7_levelAfter_1 : decode cX7_levelAfter 1 = .ok (.getfield 9, 3) := by decide +kernel
theorem dX7_levelAfter_4 : decode cX7_levelAfter 4 = .ok (.istore_n 3, 1) := by decide +kernel
theorem dX7_levelAfter_5 : decode cX7_levelAfter 5 = .ok (.iconst 0, 1) := by decide +kernel
theorem dX7_levelAfter_6 : decode cX7_levelAfter 6 = .ok (.istore 4, 2) := by decide +kernel
theorem dX7_levelAfter_8 : decode cX7_levelAfter 8 = .ok (.iload 4, 2) := by decide +kernel
theorem dX7_levelAfter_10 : decode cX7_levelAfter 10 = .ok (.iload_n 1, 1) := by decide +kernel
theorem dX7_levelAfter_11 : decode cX7_levelAfter 11 = .ok (.if_icmp .ge 16, 3) := by decide +kernel
theorem dX7_levelAfter_14 : decode cX7_levelAfter 14 = .ok (.aload_n 0, 1) := by decide +kernel
theorem dX7_levelAfter_15 : decode cX7_levelAfter 15 = .ok (.iload_n 3, 1) := by decide +kernel
theorem dX7_levelAfter_16 : decode cX7_levelAfter 16 = .ok (.iload_n 2, 1) := by decide +kernel
theorem dX7_levelAfter_17 : decode cX7_levelAfter 17 = .ok (.invokevirtual 50, 3) := by decide +kernel
theorem dX7_levelAfter_20 : decode cX7_levelAfter 20 = .ok (.istore_n 3, 1) := by decide +kernel
theorem dX7_levelAfter_21 : decode cX7_levelAfter 21 = .ok (.iinc 4 1, 3) := by decide +kernel
theorem dX7_levelAfter_24 : decode cX7_levelAfter 24 = .ok (.goto (-16), 3) := by decide +kernel
theorem dX7_levelAfter_27 : decode cX7_levelAfter 27 = .ok (.iload_n 3, 1) := by decide +kernel
theorem dX7_levelAfter_28 : decode cX7_levelAfter 28 = .ok (.ireturn, 1) := by decide +kernel
set_option maxRecDepth 20000 in
theorem ggX7_nightsToDrought_X7_levelAfterNight : GoodIn wsX7_nightsToDrought wsX7_levelAfterNight := goodIn_r _ [7, 8, 9, 10, 11, 12, 13, 14, 15, 16, 17, 18, 19, 20, 21, 22, 23] (by decide +kernel) (by decide +kernel)
set_option maxRecDepth 20000 in
theorem gX7_nightsToDrought_X7_levelAfterNight : GoodIn wsX7_nightsToDrought (wsV RX7 50 RX7 yX7_levelAfterNight wsX7_levelAfterNight) := goodIn_app (goodIn_of _ (by decide +kernel)) ggX7_nightsToDrought_X7_levelAfterNight
theorem dX7_nightsToDrought_0 : decode cX7_nightsToDrought 0 = .ok (.aload_n 0, 1) := by decide +kernel
theorem dX7_nightsToDrought_1 : decode cX7_nightsToDrought 1 = .ok (.getfield 33, 3) := by decide +kernel
theorem dX7_nightsToDrought_4 : decode cX7_nightsToDrought 4 = .ok (.ifCond .eq 5, 3) := by decide +kernel
theorem dX7_nightsToDrought_7 : decode cX7_nightsToDrought 7 = .ok (.iconst 0, 1) := by decide +kernel
theorem dX7_nightsToDrought_8 : decode cX7_nightsToDrought 8 = .ok (.ireturn, 1) := by decide +kernel
theorem dX7_nightsToDrought_9 : decode cX7_nightsToDrought 9 = .ok (.aload_n 0, 1) := by decide +kernel
theorem dX7_nightsToDrought_10 : decode cX7_nightsToDrought 10 = .ok (.getfield 9, 3) := by decide +kernel
theorem dX7_nightsToDrought_13 : decode cX7_nightsToDrought 13 = .ok (.istore_n 2, 1) := by decide +kernel
theorem dX7_nightsToDrought_14 : decode cX7_nightsToDrought 14 = .ok (.iconst 1, 1) := by decide +kernel
theorem dX7_nightsToDrought_15 : decode cX7_nightsToDrought 15 = .ok (.istore_n 3, 1) := by decide +kernel
theorem dX7_nightsToDrought_16 : decode cX7_nightsToDrought 16 = .ok (.iload_n 3, 1) := by decide +kernel
theorem dX7_nightsToDrought_17 : decode cX7_nightsToDrought 17 = .ok (.bipush 100, 2) := by decide +kernel
theorem dX7_nightsToDrought_19 : decode cX7_nightsToDrought 19 = .ok (.if_icmp .gt 24, 3) := by decide +kernel
theorem dX7_nightsToDrought_22 : decode cX7_nightsToDrought 22 = .ok (.aload_n 0, 1) := by decide +kernel
theorem dX7_nightsToDrought_23 : decode cX7_nightsToDrought 23 = .ok (.iload_n 2, 1) := by decide +kernel
theorem dX7_nightsToDrought_24 : decode cX7_nightsToDrought 24 = .ok (.iload_n 1, 1) := by decide +kernel
theorem dX7_nightsToDrought_25 : decode cX7_nightsToDrought 25 = .ok (.invokevirtual 50, 3) := by decide +kernel
theorem dX7_nightsToDrought_28 : decode cX7_nightsToDrought 28 = .ok (.istore_n 2, 1) := by decide +kernel
theorem dX7_nightsToDrought_29 : decode cX7_nightsToDrought 29 = .ok (.iload_n 2, 1) := by decide +kernel
theorem dX7_nightsToDrought_30 : decode cX7_nightsToDrought 30 = .ok (.bipush 100, 2) := by decide +kernel
theorem dX7_nightsToDrought_32 : decode cX7_nightsToDrought 32 = .ok (.if_icmp .ge 5, 3) := by decide +kernel
theorem dX7_nightsToDrought_35 : decode cX7_nightsToDrought 35 = .ok (.iload_n 3, 1) := by decide +kernel
theorem dX7_nightsToDrought_36 : decode cX7_nightsToDrought 36 = .ok (.ireturn, 1) := by decide +kernel
theorem dX7_nightsToDrought_37 : decode cX7_nightsToDrought 37 = .ok (.iinc 3 1, 3) := by decide +kernel
theorem dX7_nightsToDrought_40 : decode cX7_nightsToDrought 40 = .ok (.goto (-24), 3) := by decide +kernel
theorem dX7_nightsToDrought_43 : decode cX7_nightsToDrought 43 = .ok (.iconst (-1), 1) := by decide +kernel
theorem dX7_nightsToDrought_44 : decode cX7_nightsToDrought 44 = .ok (.ireturn, 1) := by decide +kernel
set_option maxRecDepth 20000 in
theorem ggX8_init_X6_init : GoodIn wsX8_init wsX6_init := goodIn_r _ [28, 29, 2, 3, 30, 31, 32, 33, 34, 35, 36, 37, 38, 39, 40, 41, 42, 43, 44, 45, 46, 47, 48, 49, 50, 51, 52, 53, 54, 55, 56, 57, 58, 59, 60, 61, 62, 63, 64, 65, 66, 67, 68, 69, 70, 71, 72, 73, 141, 142, 143, 144, 145, 146, 147, 148, 149, 109, 110, 111, 112, 113, 114, 115, 150, 151, 152, 153, 154, 155, 156, 157, 158, 159, 160, 161, 162, 163, 164, 165] (by decide +kernel) (by decide +kernel)
set_option maxRecDepth 20000 in
theorem gX8_init_X6_init_n9 : GoodIn wsX8_init (wsX6_init) := ggX8_init_X6_init
set_option maxRecDepth 20000 in
theorem ggX8_init_X1_init : GoodIn wsX8_init wsX1_init := goodIn_r _ [75, 76, 2, 3, 77, 78, 5, 6, 27, 28, 29, 30, 31, 32, 33, 34, 35, 36, 37, 38, 39, 40, 41, 42, 43, 44, 45, 46, 47, 48, 49, 50, 51, 52, 53, 54, 55, 56, 57, 58, 59, 60, 61, 62, 63, 64, 65, 66, 67, 68, 69, 70, 71, 72, 73, 125, 126, 127, 109, 110, 111, 112, 113, 114, 115, 141, 142, 143, 144, 145, 146, 147, 148, 149, 150, 151, 152, 153, 154, 155, 156, 157, 158, 159, 160, 161, 162, 163, 164, 165] (by decide +kernel) (by decide +kernel)
set_option maxRecDepth 20000 in
theorem gX8_init_X1_init_n24 : GoodIn wsX8_init (wsX1_init) := ggX8_init_X1_init
set_option maxRecDepth 20000 in
theorem ggX8_init_X5_init : GoodIn wsX8_init wsX5_init := goodIn_r _ [80, 81, 2, 3] (by decide +kernel) (by decide +kernel)
set_option maxRecDepth 20000 in
theorem gX8_init_X5_init_n31 : GoodIn wsX8_init (wsX5_init) := ggX8_init_X5_init
set_option maxRecDepth 20000 in
theorem ggX8_init_X0_init : GoodIn wsX8_init wsX0_init := goodIn_r _ [83, 84, 2, 3, 85, 86, 87, 49, 88, 132, 133, 134, 135, 136] (by decide +kernel) (by decide +kernel)
set_option maxRecDepth 20000 in
theorem gX8_init_X0_init_n38 : GoodIn wsX8_init (wsX0_init) := ggX8_init_X0_init
set_option maxRecDepth 20000 in
theorem ggX8_init_J4_init_da8c8 : GoodIn wsX8_init wsJ4_init_da8c8 := goodIn_r _ [91, 92, 93, 94, 95, 96, 2, 3, 97, 98, 99, 100, 101, 102, 103, 104, 105, 106, 107, 108, 137, 138, 139, 140] (by decide +kernel) (by decide +kernel)
set_option maxRecDepth 20000 in
theorem gX8_init_J4_init_da8c8 : GoodIn wsX8_init (wsJ4_init_da8c8) := ggX8_init_J4_init_da8c8
theorem dX8_init_0 : decode cX8_init 0 = .ok (.aload_n 0, 1) := by decide +kernel
theorem dX8_init_1 : decode cX8_init 1 = .ok (.invokespecial 1, 3) := by decide +kernel
theorem dX8_init_4 : decode cX8_init 4 = .ok (.aload_n 0, 1) := by decide +kernel
theorem dX8_init_5 : decode cX8_init 5 = .ok (.new 7, 3) := by decide +kernel
theorem dX8_init_8 : decode cX8_init 8 = .ok (.dup, 1) := by decide +kernel
theorem dX8_init_9 : decode cX8_init 9 = .ok (.invokespecial 9, 3) := by decide +kernel
theorem dX8_init_12 : decode cX8_init 12 = .ok (.putfield 10, 3) := by decide +kernel
theorem dX8_init_15 : decode cX8_init 15 = .ok (.aload_n 0, 1) := by decide +kernel
theorem dX8_init_16 : decode cX8_init 16 = .ok (.new 7, 3) := by decide +kernel
theorem dX8_init_19 : decode cX8_init 19 = .ok (.dup, 1) := by decide +kernel
theorem dX8_init_20 : decode cX8_init 20 = .ok (.invokespecial 9, 3) := by decide +kernel
theorem dX8_init_23 : decode cX8_init 23 = .ok (.putfield 16, 3) := by decide +kernel
theorem dX8_init_26 : decode cX8_init 26 = .ok (.aload_n 0, 1) := by decide +kernel
theorem dX8_init_27 : decode cX8_init 27 = .ok (.new 7, 3) := by decide +kernel
theorem dX8_init_30 : decode cX8_init 30 = .ok (.dup, 1) := by decide +kernel
theorem dX8_init_31 : decode cX8_init 31 = .ok (.invokespecial 9, 3) := by decide +kernel
theorem dX8_init_34 : decode cX8_init 34 = .ok (.putfield 19, 3) := by decide +kernel
theorem dX8_init_37 : decode cX8_init 37 = .ok (.aload_n 0, 1) := by decide +kernel
theorem dX8_init_38 : decode cX8_init 38 = .ok (.new 22, 3) := by decide +kernel
theorem dX8_init_41 : decode cX8_init 41 = .ok (.dup, 1) := by decide +kernel
theorem dX8_init_42 : decode cX8_init 42 = .ok (.invokespecial 24, 3) := by decide +kernel
theorem dX8_init_45 : decode cX8_init 45 = .ok (.putfield 25, 3) := by decide +kernel
theorem dX8_init_48 : decode cX8_init 48 = .ok (.aload_n 0, 1) := by decide +kernel
theorem dX8_init_49 : decode cX8_init 49 = .ok (.new 29, 3) := by decide +kernel
theorem dX8_init_52 : decode cX8_init 52 = .ok (.dup, 1) := by decide +kernel
theorem dX8_init_53 : decode cX8_init 53 = .ok (.invokespecial 31, 3) := by decide +kernel
theorem dX8_init_56 : decode cX8_init 56 = .ok (.putfield 32, 3) := by decide +kernel
theorem dX8_init_59 : decode cX8_init 59 = .ok (.aload_n 0, 1) := by decide +kernel
theorem dX8_init_60 : decode cX8_init 60 = .ok (.new 36, 3) := by decide +kernel
theorem dX8_init_63 : decode cX8_init 63 = .ok (.dup, 1) := by decide +kernel
theorem dX8_init_64 : decode cX8_init 64 = .ok (.invokespecial 38, 3) := by decide +kernel
theorem dX8_init_67 : decode cX8_init 67 = .ok (.putfield 39, 3) := by decide +kernel
theorem dX8_init_70 : decode cX8_init 70 = .ok (.aload_n 0, 1) := by decide +kernel
theorem dX8_init_71 : decode cX8_init 71 = .ok (.iconst (-1), 1) := by decide +kernel
theorem dX8_init_72 : decode cX8_init 72 = .ok (.putfield 43, 3) := by decide +kernel
theorem dX8_init_75 : decode cX8_init 75 = .ok (.aload_n 0, 1) := by decide +kernel
theorem dX8_init_76 : decode cX8_init 76 = .ok (.new 47, 3) := by decide +kernel
theorem dX8_init_79 : decode cX8_init 79 = .ok (.dup, 1) := by decide +kernel
theorem dX8_init_80 : decode cX8_init 80 = .ok (.invokespecial 49, 3) := by decide +kernel
theorem dX8_init_83 : decode cX8_init 83 = .ok (.putfield 50, 3) := by decide +kernel
theorem dX8_init_86 : decode cX8_init 86 = .ok (.return_, 1) := by decide +kernel
set_option maxRecDepth 20000 in
theorem ggX8_household_X6_refusesHousehold : GoodIn wsX8_household wsX6_refusesHousehold := goodIn_r _ [9, 10, 11, 12, 13, 14, 15, 16, 17, 18, 19, 20, 21, 101, 102, 103, 104, 105, 106, 107, 108, 109, 110, 111, 112, 113, 114, 115, 116, 117, 118, 119, 120] (by decide +kernel) (by decide +kernel)
set_option maxRecDepth 20000 in
theorem gX8_household_X6_refusesHousehold_n54 : GoodIn wsX8_household (wsX6_refusesHousehold) := ggX8_household_X6_refusesHousehold
set_option maxRecDepth 20000 in
theorem ggX8_household_X1_keep : GoodIn wsX8_household wsX1_keep := goodIn_ca (goodIn_r _ [25, 26, 27, 28, 29, 30, 31, 32, 33, 7, 34, 35, 10, 36, 37, 38, 39, 40, 41, 42, 43, 44, 45, 46, 47, 48, 49, 50, 51, 52, 53, 54, 55, 56, 57, 58, 59, 60, 61, 62, 63, 64, 65, 66, 67, 68, 69, 70, 71, 72, 73, 74, 75, 76, 77, 78, 79, 80, 81, 82, 83, 84, 85, 86, 87, 88, 121, 122, 123, 101, 102, 103, 104, 105, 106, 107, 108, 109, 110, 111, 112, 113, 114, 115, 116, 124, 125, 126, 127, 128, 129, 130, 131, 132, 133, 134, 135, 136, 137, 138, 139] (by decide +kernel) (by decide +kernel)) (goodIn_sub (fun _ h => List.mem_cons_of_mem _ (List.mem_append_right _ h)) (by decide +kernel))
set_option maxRecDepth 20000 in
theorem gX8_household_X1_keep_n65 : GoodIn wsX8_household (wsX1_keep) := ggX8_household_X1_keep
set_option maxRecDepth 20000 in
theorem ggX8_household_X2_settle : GoodIn wsX8_household wsX2_settle := goodIn_ca (goodIn_r _ [91, 46, 48, 49, 50, 108, 109, 110, 111, 112, 113, 114, 115, 116] (by decide +kernel) (by decide +kernel)) (goodIn_sub (fun _ h => List.mem_cons_of_mem _ (List.mem_append_right _ h)) (by decide +kernel))
set_option maxRecDepth 20000 in
theorem gX8_household_X2_settle_n73 : GoodIn wsX8_household (wsX2_settle) := ggX8_household_X2_settle
theorem dX8_household_0 : decode cX8_household 0 = .ok (.aload_n 0, 1) := by decide +kernel
theorem dX8_household_1 : decode cX8_household 1 = .ok (.getfield 10, 3) := by decide +kernel
theorem dX8_household_4 : decode cX8_household 4 = .ok (.iload_n 1, 1) := by decide +kernel
theorem dX8_household_5 : decode cX8_household 5 = .ok (.iload_n 2, 1) := by decide +kernel
theorem dX8_household_6 : decode cX8_household 6 = .ok (.iload_n 3, 1) := by decide +kernel
theorem dX8_household_7 : decode cX8_household 7 = .ok (.aload_n 0, 1) := by decide +kernel
theorem dX8_household_8 : decode cX8_household 8 = .ok (.getfield 32, 3) := by decide +kernel
theorem dX8_household_11 : decode cX8_household 11 = .ok (.invokevirtual 54, 3) := by decide +kernel
theorem dX8_household_14 : decode cX8_household 14 = .ok (.ifCond .eq 13, 3) := by decide +kernel
theorem dX8_household_17 : decode cX8_household 17 = .ok (.new 58, 3) := by decide +kernel
theorem dX8_household_20 : decode cX8_household 20 = .ok (.dup, 1) := by decide +kernel
theorem dX8_household_21 : decode cX8_household 21 = .ok (.ldc 60, 2) := by decide +kernel
theorem dX8_household_23 : decode cX8_household 23 = .ok (.invokespecial 62, 3) := by decide +kernel
theorem dX8_household_26 : decode cX8_household 26 = .ok (.athrow, 1) := by decide +kernel
theorem dX8_household_27 : decode cX8_household 27 = .ok (.aload_n 0, 1) := by decide +kernel
theorem dX8_household_28 : decode cX8_household 28 = .ok (.getfield 25, 3) := by decide +kernel
theorem dX8_household_31 : decode cX8_household 31 = .ok (.aload_n 0, 1) := by decide +kernel
theorem dX8_household_32 : decode cX8_household 32 = .ok (.getfield 10, 3) := by decide +kernel
theorem dX8_household_35 : decode cX8_household 35 = .ok (.invokevirtual 65, 3) := by decide +kernel
theorem dX8_household_38 : decode cX8_household 38 = .ok (.aload_n 0, 1) := by decide +kernel
theorem dX8_household_39 : decode cX8_household 39 = .ok (.getfield 10, 3) := by decide +kernel
theorem dX8_household_42 : decode cX8_household 42 = .ok (.getfield 69, 3) := by decide +kernel
theorem dX8_household_45 : decode cX8_household 45 = .ok (.iload_n 1, 1) := by decide +kernel
theorem dX8_household_46 : decode cX8_household 46 = .ok (.iload_n 2, 1) := by decide +kernel
theorem dX8_household_47 : decode cX8_household 47 = .ok (.iload_n 3, 1) := by decide +kernel
theorem dX8_household_48 : decode cX8_household 48 = .ok (.invokevirtual 73, 3) := by decide +kernel
theorem dX8_household_51 : decode cX8_household 51 = .ok (.ireturn, 1) := by decide +kernel
set_option maxRecDepth 20000 in
theorem ggX8_join_X6_refusesJoin : GoodIn wsX8_join wsX6_refusesJoin := goodIn_ca (goodIn_r _ [9, 10, 11, 12, 13, 14, 15, 16, 17, 18, 19, 20, 21, 22, 23, 24, 25, 26, 27, 28, 29, 30, 31, 32, 33, 7, 34, 35, 36, 37, 38, 39, 40, 41, 42, 43, 44, 45, 46, 47, 48, 49, 154, 155, 156, 157, 158, 159, 160, 161, 162, 163, 164, 165, 166, 167, 168, 169, 170, 171, 172, 173, 174, 175, 176, 177, 178, 179, 180, 181, 182, 183] (by decide +kernel) (by decide +kernel)) (goodIn_sub (fun _ h => List.mem_cons_of_mem _ (List.mem_append_right _ h)) (by decide +kernel))
set_option maxRecDepth 20000 in
theorem gX8_join_X6_refusesJoin_n79 : GoodIn wsX8_join (wsX6_refusesJoin) := ggX8_join_X6_refusesJoin
set_option maxRecDepth 20000 in
theorem ggX8_join_X1_keep : GoodIn wsX8_join wsX1_keep := goodIn_ca (goodIn_r _ [53, 54, 55, 56, 57, 58, 37, 59, 60, 7, 61, 62, 10, 11, 44, 63, 64, 43, 65, 66, 13, 67, 68, 16, 69, 48, 70, 49, 71, 72, 73, 74, 75, 76, 77, 78, 79, 26, 80, 81, 29, 30, 82, 83, 84, 85, 86, 87, 88, 89, 90, 91, 92, 93, 94, 95, 96, 97, 98, 99, 100, 101, 102, 103, 104, 105, 184, 185, 186, 154, 155, 156, 157, 158, 159, 160, 161, 162, 163, 164, 165, 166, 167, 168, 169, 174, 175, 176, 177, 178, 179, 180, 181, 182, 183, 187, 188, 189, 190, 191, 192] (by decide +kernel) (by decide +kernel)) (goodIn_sub (fun _ h => List.mem_cons_of_mem _ (List.mem_append_right _ h)) (by decide +kernel))
set_option maxRecDepth 20000 in
theorem gX8_join_X1_keep_n65 : GoodIn wsX8_join (wsX1_keep) := ggX8_join_X1_keep
set_option maxRecDepth 20000 in
theorem ggX8_join_X6_letJoin : GoodIn wsX8_join wsX6_letJoin := goodIn_ca (goodIn_r _ [108, 11, 10, 109, 13, 110, 111, 49, 112, 113, 114, 115, 70, 116, 117, 37, 118, 119, 120, 121, 16, 122, 123, 124, 7, 125, 63, 64, 126, 127, 128, 72, 129, 58, 59, 130, 36, 38, 74, 69, 131, 96, 132, 133, 101, 100, 103, 104, 105, 99, 134, 135, 26, 136, 137, 29, 30, 138, 139, 140, 141, 142, 143, 144, 154, 155, 156, 157, 158, 159, 160, 174, 175, 161, 162, 163, 164, 165, 166, 167, 168, 169, 187, 188, 189, 190, 191, 192] (by decide +kernel) (by decide +kernel)) (goodIn_sub (fun _ h => List.mem_cons_of_mem _ (List.mem_append_right _ h)) (by decide +kernel))
set_option maxRecDepth 20000 in
theorem gX8_join_X6_letJoin_n85 : GoodIn wsX8_join (wsX6_letJoin) := ggX8_join_X6_letJoin
theorem dX8_join_0 : decode cX8_join 0 = .ok (.aload_n 0, 1) := by decide +kernel
theorem dX8_join_1 : decode cX8_join 1 = .ok (.getfield 10, 3) := by decide +kernel
theorem dX8_join_4 : decode cX8_join 4 = .ok (.iload_n 1, 1) := by decide +kernel
theorem dX8_join_5 : decode cX8_join 5 = .ok (.aload_n 0, 1) := by decide +kernel
theorem dX8_join_6 : decode cX8_join 6 = .ok (.getfield 32, 3) := by decide +kernel
theorem dX8_join_9 : decode cX8_join 9 = .ok (.invokevirtual 79, 3) := by decide +kernel
theorem dX8_join_12 : decode cX8_join 12 = .ok (.ifCond .eq 13, 3) := by decide +kernel
theorem dX8_join_15 : decode cX8_join 15 = .ok (.new 58, 3) := by decide +kernel
theorem dX8_join_18 : decode cX8_join 18 = .ok (.dup, 1) := by decide +kernel
theorem dX8_join_19 : decode cX8_join 19 = .ok (.ldc 83, 2) := by decide +kernel
theorem dX8_join_21 : decode cX8_join 21 = .ok (.invokespecial 62, 3) := by decide +kernel
theorem dX8_join_24 : decode cX8_join 24 = .ok (.athrow, 1) := by decide +kernel
theorem dX8_join_25 : decode cX8_join 25 = .ok (.aload_n 0, 1) := by decide +kernel
theorem dX8_join_26 : decode cX8_join 26 = .ok (.getfield 25, 3) := by decide +kernel
theorem dX8_join_29 : decode cX8_join 29 = .ok (.aload_n 0, 1) := by decide +kernel
theorem dX8_join_30 : decode cX8_join 30 = .ok (.getfield 10, 3) := by decide +kernel
theorem dX8_join_33 : decode cX8_join 33 = .ok (.invokevirtual 65, 3) := by decide +kernel
theorem dX8_join_36 : decode cX8_join 36 = .ok (.aload_n 0, 1) := by decide +kernel
theorem dX8_join_37 : decode cX8_join 37 = .ok (.getfield 10, 3) := by decide +kernel
theorem dX8_join_40 : decode cX8_join 40 = .ok (.iload_n 1, 1) := by decide +kernel
theorem dX8_join_41 : decode cX8_join 41 = .ok (.invokevirtual 85, 3) := by decide +kernel
theorem dX8_join_44 : decode cX8_join 44 = .ok (.ireturn, 1) := by decide +kernel
set_option maxRecDepth 20000 in
theorem ggX8_leave_X6_refusesLeave : GoodIn wsX8_leave wsX6_refusesLeave := goodIn_ca (goodIn_r _ [9, 10, 11, 12, 13, 14, 15, 16, 17, 18, 19, 20, 21, 22, 23, 24, 25, 26, 27, 28, 29, 30, 111, 112, 113, 114, 115, 116, 117, 118, 119, 120, 121, 122, 123, 124, 125, 126, 127, 128, 129, 130, 131, 132] (by decide +kernel) (by decide +kernel)) (goodIn_sub (fun _ h => List.mem_cons_of_mem _ (List.mem_append_right _ h)) (by decide +kernel))
set_option maxRecDepth 20000 in
theorem gX8_leave_X6_refusesLeave_n89 : GoodIn wsX8_leave (wsX6_refusesLeave) := ggX8_leave_X6_refusesLeave
set_option maxRecDepth 20000 in
theorem ggX8_leave_X1_keep : GoodIn wsX8_leave wsX1_keep := goodIn_ca (goodIn_r _ [34, 35, 36, 37, 38, 39, 40, 41, 42, 7, 43, 44, 10, 11, 45, 46, 47, 48, 49, 50, 13, 51, 52, 16, 53, 54, 55, 56, 57, 58, 59, 60, 61, 62, 63, 64, 65, 26, 66, 67, 29, 30, 68, 69, 70, 71, 72, 73, 74, 75, 76, 77, 78, 79, 80, 81, 82, 83, 84, 85, 86, 87, 88, 89, 90, 91, 133, 134, 135, 111, 112, 113, 114, 115, 116, 117, 118, 119, 120, 121, 122, 123, 124, 125, 126, 131, 132, 136, 137, 138, 139, 140, 141, 142, 143, 144, 145, 146, 147, 148, 149] (by decide +kernel) (by decide +kernel)) (goodIn_sub (fun _ h => List.mem_cons_of_mem _ (List.mem_append_right _ h)) (by decide +kernel))
set_option maxRecDepth 20000 in
theorem gX8_leave_X1_keep_n65 : GoodIn wsX8_leave (wsX1_keep) := ggX8_leave_X1_keep
set_option maxRecDepth 20000 in
theorem ggX8_leave_X6_letLeave : GoodIn wsX8_leave wsX6_letLeave := goodIn_ca (goodIn_r _ [94, 11, 25, 26, 27, 28, 29, 30, 95, 96, 97, 98, 99, 100, 101, 111, 112, 113, 114, 115, 116, 117, 131, 132] (by decide +kernel) (by decide +kernel)) (goodIn_sub (fun _ h => List.mem_cons_of_mem _ (List.mem_append_right _ h)) (by decide +kernel))
set_option maxRecDepth 20000 in
theorem gX8_leave_X6_letLeave_n94 : GoodIn wsX8_leave (wsX6_letLeave) := ggX8_leave_X6_letLeave
theorem dX8_leave_0 : decode cX8_leave 0 = .ok (.aload_n 0, 1) := by decide +kernel
theorem dX8_leave_1 : decode cX8_leave 1 = .ok (.getfield 10, 3) := by decide +kernel
theorem dX8_leave_4 : decode cX8_leave 4 = .ok (.iload_n 1, 1) := by decide +kernel
theorem dX8_leave_5 : decode cX8_leave 5 = .ok (.aload_n 0, 1) := by decide +kernel
theorem dX8_leave_6 : decode cX8_leave 6 = .ok (.getfield 32, 3) := by decide +kernel
theorem dX8_leave_9 : decode cX8_leave 9 = .ok (.invokevirtual 89, 3) := by decide +kernel
theorem dX8_leave_12 : decode cX8_leave 12 = .ok (.ifCond .eq 13, 3) := by decide +kernel
theorem dX8_leave_15 : decode cX8_leave 15 = .ok (.new 58, 3) := by decide +kernel
theorem dX8_leave_18 : decode cX8_leave 18 = .ok (.dup, 1) := by decide +kernel
theorem dX8_leave_19 : decode cX8_leave 19 = .ok (.ldc 92, 2) := by decide +kernel
theorem dX8_leave_21 : decode cX8_leave 21 = .ok (.invokespecial 62, 3) := by decide +kernel
theorem dX8_leave_24 : decode cX8_leave 24 = .ok (.athrow, 1) := by decide +kernel
theorem dX8_leave_25 : decode cX8_leave 25 = .ok (.aload_n 0, 1) := by decide +kernel
theorem dX8_leave_26 : decode cX8_leave 26 = .ok (.getfield 25, 3) := by decide +kernel
theorem dX8_leave_29 : decode cX8_leave 29 = .ok (.aload_n 0, 1) := by decide +kernel
theorem dX8_leave_30 : decode cX8_leave 30 = .ok (.getfield 10, 3) := by decide +kernel
theorem dX8_leave_33 : decode cX8_leave 33 = .ok (.invokevirtual 65, 3) := by decide +kernel
theorem dX8_leave_36 : decode cX8_leave 36 = .ok (.aload_n 0, 1) := by decide +kernel
theorem dX8_leave_37 : decode cX8_leave 37 = .ok (.getfield 10, 3) := by decide +kernel
theorem dX8_leave_40 : decode cX8_leave 40 = .ok (.iload_n 1, 1) := by decide +kernel
theorem dX8_leave_41 : decode cX8_leave 41 = .ok (.invokevirtual 94, 3) := by decide +kernel
theorem dX8_leave_44 : decode cX8_leave 44 = .ok (.ireturn, 1) := by decide +kernel
set_option maxRecDepth 20000 in
theorem ggX8_draw_X6_refusesDraws : GoodIn wsX8_draw wsX6_refusesDraws := goodIn_ca (goodIn_r _ [9, 10, 11, 12, 13, 14, 15, 16, 17, 18, 19, 20, 21, 22, 23, 24, 7, 25, 26, 27, 28, 29, 30, 31, 32, 33, 34, 35, 36, 37, 38, 39, 40, 41, 42, 43, 44, 45, 46, 47, 48, 49, 50, 51, 52, 53, 54, 55, 56, 57, 147, 148, 149, 150, 151, 152, 153, 154, 155, 156, 157, 158, 159, 160, 161, 162, 163, 164, 165, 166, 167, 168, 169, 170, 171, 172, 173, 174, 175, 176] (by decide +kernel) (by decide +kernel)) (goodIn_sub (fun _ h => List.mem_cons_of_mem _ (List.mem_append_right _ h)) (by decide +kernel))
set_option maxRecDepth 20000 in
theorem gX8_draw_X6_refusesDraws_n97 : GoodIn wsX8_draw (wsX6_refusesDraws) := ggX8_draw_X6_refusesDraws
set_option maxRecDepth 20000 in
theorem ggX8_draw_X1_keep : GoodIn wsX8_draw wsX1_keep := goodIn_ca (goodIn_r _ [61, 62, 63, 64, 65, 53, 34, 54, 66, 7, 67, 68, 31, 26, 10, 69, 70, 40, 71, 72, 42, 73, 74, 75, 76, 45, 77, 46, 78, 79, 80, 81, 82, 83, 84, 85, 86, 87, 88, 89, 90, 91, 92, 93, 48, 94, 95, 96, 97, 98, 99, 100, 51, 101, 102, 103, 104, 105, 106, 107, 108, 109, 110, 111, 112, 113, 177, 178, 179, 147, 148, 149, 150, 151, 152, 153, 168, 169, 170, 171, 172, 173, 174, 175, 176, 166, 167, 154, 155, 156, 157, 158, 159, 160, 161, 180, 181, 182, 183, 184, 185] (by decide +kernel) (by decide +kernel)) (goodIn_sub (fun _ h => List.mem_cons_of_mem _ (List.mem_append_right _ h)) (by decide +kernel))
set_option maxRecDepth 20000 in
theorem gX8_draw_X1_keep_n65 : GoodIn wsX8_draw (wsX1_keep) := ggX8_draw_X1_keep
set_option maxRecDepth 20000 in
theorem ggX8_draw_X6_letDraw : GoodIn wsX8_draw wsX6_letDraw := goodIn_ca (goodIn_r _ [116, 26, 117, 118, 119, 7, 120, 10, 31, 69, 70, 121, 48, 122, 123, 51, 96, 97, 101, 52, 53, 34, 54, 55, 56, 57, 124, 104, 125, 126, 109, 108, 111, 112, 113, 107, 127, 128, 87, 129, 130, 90, 91, 131, 132, 133, 134, 27, 28, 29, 30, 32, 33, 35, 36, 37, 38, 39, 40, 41, 42, 43, 44, 45, 46, 135, 136, 137, 147, 148, 149, 150, 151, 152, 153, 166, 167, 168, 169, 170, 171, 172, 173, 174, 175, 176, 154, 155, 156, 157, 158, 159, 160, 161, 180, 181, 182, 183, 184, 185] (by decide +kernel) (by decide +kernel)) (goodIn_sub (fun _ h => List.mem_cons_of_mem _ (List.mem_append_right _ h)) (by decide +kernel))
set_option maxRecDepth 20000 in
theorem gX8_draw_X6_letDraw_n102 : GoodIn wsX8_draw (wsX6_letDraw) := ggX8_draw_X6_letDraw
theorem dX8_draw_0 : decode cX8_draw 0 = .ok (.aload_n 0, 1) := by decide +kernel
theorem dX8_draw_1 : decode cX8_draw 1 = .ok (.getfield 10, 3) := by decide +kernel
theorem dX8_draw_4 : decode cX8_draw 4 = .ok (.iload_n 1, 1) := by decide +kernel
theorem dX8_draw_5 : decode cX8_draw 5 = .ok (.aload_n 0, 1) := by decide +kernel
theorem dX8_draw_6 : decode cX8_draw 6 = .ok (.getfield 32, 3) := by decide +kernel
theorem dX8_draw_9 : decode cX8_draw 9 = .ok (.invokevirtual 97, 3) := by decide +kernel
theorem dX8_draw_12 : decode cX8_draw 12 = .ok (.ifCond .eq 13, 3) := by decide +kernel
theorem dX8_draw_15 : decode cX8_draw 15 = .ok (.new 58, 3) := by decide +kernel
theorem dX8_draw_18 : decode cX8_draw 18 = .ok (.dup, 1) := by decide +kernel
theorem dX8_draw_19 : decode cX8_draw 19 = .ok (.ldc 100, 2) := by decide +kernel
theorem dX8_draw_21 : decode cX8_draw 21 = .ok (.invokespecial 62, 3) := by decide +kernel
theorem dX8_draw_24 : decode cX8_draw 24 = .ok (.athrow, 1) := by decide +kernel
theorem dX8_draw_25 : decode cX8_draw 25 = .ok (.aload_n 0, 1) := by decide +kernel
theorem dX8_draw_26 : decode cX8_draw 26 = .ok (.getfield 25, 3) := by decide +kernel
theorem dX8_draw_29 : decode cX8_draw 29 = .ok (.aload_n 0, 1) := by decide +kernel
theorem dX8_draw_30 : decode cX8_draw 30 = .ok (.getfield 10, 3) := by decide +kernel
theorem dX8_draw_33 : decode cX8_draw 33 = .ok (.invokevirtual 65, 3) := by decide +kernel
theorem dX8_draw_36 : decode cX8_draw 36 = .ok (.aload_n 0, 1) := by decide +kernel
theorem dX8_draw_37 : decode cX8_draw 37 = .ok (.getfield 10, 3) := by decide +kernel
theorem dX8_draw_40 : decode cX8_draw 40 = .ok (.iload_n 1, 1) := by decide +kernel
theorem dX8_draw_41 : decode cX8_draw 41 = .ok (.invokevirtual 102, 3) := by decide +kernel
theorem dX8_draw_44 : decode cX8_draw 44 = .ok (.ireturn, 1) := by decide +kernel
set_option maxRecDepth 20000 in
theorem ggX8_vote_X6_refusesVote : GoodIn wsX8_vote wsX6_refusesVote := goodIn_r _ [9, 10, 11, 12, 13, 14, 15, 16, 17, 18, 135, 136, 137, 138, 139, 140, 141, 142, 143, 144, 145, 146, 147, 148, 149, 150, 151, 152, 153, 154] (by decide +kernel) (by decide +kernel)
set_option maxRecDepth 20000 in
theorem gX8_vote_X6_refusesVote_n105 : GoodIn wsX8_vote (wsX6_refusesVote) := ggX8_vote_X6_refusesVote
set_option maxRecDepth 20000 in
theorem ggX8_vote_X1_keep : GoodIn wsX8_vote wsX1_keep := goodIn_ca (goodIn_r _ [22, 23, 24, 25, 26, 27, 28, 29, 30, 7, 31, 32, 10, 33, 34, 35, 36, 37, 38, 39, 40, 41, 42, 43, 44, 45, 46, 47, 48, 49, 50, 51, 52, 53, 54, 55, 56, 57, 58, 59, 60, 61, 62, 63, 64, 65, 66, 67, 68, 69, 70, 71, 72, 73, 74, 75, 76, 77, 78, 79, 80, 81, 82, 83, 84, 85, 155, 156, 157, 135, 136, 137, 138, 139, 140, 141, 142, 143, 144, 145, 146, 147, 148, 149, 150, 158, 159, 160, 161, 162, 163, 164, 165, 166, 167, 168, 169, 170, 171, 172, 173] (by decide +kernel) (by decide +kernel)) (goodIn_sub (fun _ h => List.mem_cons_of_mem _ (List.mem_append_right _ h)) (by decide +kernel))
set_option maxRecDepth 20000 in
theorem gX8_vote_X1_keep_n65 : GoodIn wsX8_vote (wsX1_keep) := ggX8_vote_X1_keep
