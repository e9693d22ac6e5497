theorem dX7_init_0 : decode cX7_init 0 = .ok (.aload_n 0, 1) := by decide +kernel
theorem dX7_init_1 : decode cX7_init 1 = .ok (.invokespecial 3, 3) := by decide +kernel
theorem dX7_init_4 : decode cX7_init 4 = .ok (.aload_n 0, 1) := by decide +kernel
theorem dX7_init_5 : decode cX7_init 5 = .ok (.sipush 500, 3) := by decide +kernel
theorem dX7_init_8 : decode cX7_init 8 = .ok (.putfield 9, 3) := by decide +kernel
theorem dX7_init_11 : decode cX7_init 11 = .ok (.aload_n 0, 1) := by decide +kernel
theorem dX7_init_12 : decode cX7_init 12 = .ok (.iconst 2, 1) := by decide +kernel
theorem dX7_init_13 : decode cX7_init 13 = .ok (.putfield 15, 3) := by decide +kernel
theorem dX7_init_16 : decode cX7_init 16 = .ok (.return_, 1) := by decide +kernel
theorem dX7_copyFrom_0 : decode cX7_copyFrom 0 = .ok (.aload_n 0, 1) := by decide +kernel
theorem dX7_copyFrom_1 : decode cX7_copyFrom 1 = .ok (.aload_n 1, 1) := by decide +kernel
theorem dX7_copyFrom_2 : decode cX7_copyFrom 2 = .ok (.getfield 9, 3) := by decide +kernel
theorem dX7_copyFrom_5 : decode cX7_copyFrom 5 = .ok (.putfield 9, 3) := by decide +kernel
theorem dX7_copyFrom_8 : decode cX7_copyFrom 8 = .ok (.aload_n 0, 1) := by decide +kernel
theorem dX7_copyFrom_9 : decode cX7_copyFrom 9 = .ok (.aload_n 1, 1) := by decide +kernel
theorem dX7_copyFrom_10 : decode cX7_copyFrom 10 = .ok (.getfield 18, 3) := by decide +kernel
theorem dX7_copyFrom_13 : decode cX7_copyFrom 13 = .ok (.putfield 18, 3) := by decide +kernel
theorem dX7_copyFrom_16 : decode cX7_copyFrom 16 = .ok (.aload_n 0, 1) := by decide +kernel
theorem dX7_copyFrom_17 : decode cX7_copyFrom 17 = .ok (.aload_n 1, 1) := by decide +kernel
theorem dX7_copyFrom_18 : decode cX7_copyFrom 18 = .ok (.getfield 21, 3) := by decide +kernel
theorem dX7_copyFrom_21 : decode cX7_copyFrom 21 = .ok (.putfield 21, 3) := by decide +kernel
theorem dX7_copyFrom_24 : decode cX7_copyFrom 24 = .ok (.aload_n 0, 1) := by decide +kernel
theorem dX7_copyFrom_25 : decode cX7_copyFrom 25 = .ok (.aload_n 1, 1) := by decide +kernel
theorem dX7_copyFrom_26 : decode cX7_copyFrom 26 = .ok (.getfield 24, 3) := by decide +kernel
theorem dX7_copyFrom_29 : decode cX7_copyFrom 29 = .ok (.putfield 24, 3) := by decide +kernel
theorem dX7_copyFrom_32 : decode cX7_copyFrom 32 = .ok (.aload_n 0, 1) := by decide +kernel
theorem dX7_copyFrom_33 : decode cX7_copyFrom 33 = .ok (.aload_n 1, 1) := by decide +kernel
theorem dX7_copyFrom_34 : decode cX7_copyFrom 34 = .ok (.getfield 15, 3) := by decide +kernel
theorem dX7_copyFrom_37 : decode cX7_copyFrom 37 = .ok (.putfield 15, 3) := by decide +kernel
theorem dX7_copyFrom_40 : decode cX7_copyFrom 40 = .ok (.aload_n 0, 1) := by decide +kernel
theorem dX7_copyFrom_41 : decode cX7_copyFrom 41 = .ok (.aload_n 1, 1) := by decide +kernel
theorem dX7_copyFrom_42 : decode cX7_copyFrom 42 = .ok (.getfield 27, 3) := by decide +kernel
theorem dX7_copyFrom_45 : decode cX7_copyFrom 45 = .ok (.putfield 27, 3) := by decide +kernel
theorem dX7_copyFrom_48 : decode cX7_copyFrom 48 = .ok (.aload_n 0, 1) := by decide +kernel
theorem dX7_copyFrom_49 : decode cX7_copyFrom 49 = .ok (.aload_n 1, 1) := by decide +kernel
theorem dX7_copyFrom_50 : decode cX7_copyFrom 50 = .ok (.getfield 30, 3) := by decide +kernel
theorem dX7_copyFrom_53 : decode cX7_copyFrom 53 = .ok (.putfield 30, 3) := by decide +kernel
theorem dX7_copyFrom_56 : decode cX7_copyFrom 56 = .ok (.aload_n 0, 1) := by decide +kernel
theorem dX7_copyFrom_57 : decode cX7_copyFrom 57 = .ok (.aload_n 1, 1) := by decide +kernel
theorem dX7_copyFrom_58 : decode cX7_copyFrom 58 = .ok (.getfield 33, 3) := by decide +kernel
theorem dX7_copyFrom_61 : decode cX7_copyFrom 61 = .ok (.putfield 33, 3) := by decide +kernel
theorem dX7_copyFrom_64 : decode cX7_copyFrom 64 = .ok (.return_, 1) := by decide +kernel
theorem dX7_waterAtWear_0 : decode cX7_waterAtWear 0 = .ok (.bipush 10, 2) := by decide +kernel
theorem dX7_waterAtWear_2 : decode cX7_waterAtWear 2 = .ok (.iload_n 0, 1) := by decide +kernel
theorem dX7_waterAtWear_3 : decode cX7_waterAtWear 3 = .ok (.bipush 10, 2) := by decide +kernel
theorem dX7_waterAtWear_5 : decode cX7_waterAtWear 5 = .ok (.idiv, 1) := by decide +kernel
theorem dX7_waterAtWear_6 : decode cX7_waterAtWear 6 = .ok (.isub, 1) := by decide +kernel
theorem dX7_waterAtWear_7 : decode cX7_waterAtWear 7 = .ok (.ireturn, 1) := by decide +kernel
set_option maxRecDepth 20000 in
theorem ggX7_waterOf_X7_waterAtWear : GoodIn wsX7_waterOf wsX7_waterAtWear := goodIn_r _ [9] (by decide +kernel) (by decide +kernel)
set_option maxRecDepth 20000 in
theorem gX7_waterOf_X7_waterAtWear : GoodIn wsX7_waterOf (va_wsS RX7 43 yX7_waterAtWear wsX7_waterAtWear) := goodIn_app (goodIn_of _ (by decide +kernel)) ggX7_waterOf_X7_waterAtWear
theorem dX7_waterOf_0 : decode cX7_waterOf 0 = .ok (.iconst 0, 1) := by decide +kernel
theorem dX7_waterOf_1 : decode cX7_waterOf 1 = .ok (.istore_n 2, 1) := by decide +kernel
theorem dX7_waterOf_2 : decode cX7_waterOf 2 = .ok (.iconst 0, 1) := by decide +kernel
theorem dX7_waterOf_3 : decode cX7_waterOf 3 = .ok (.istore_n 3, 1) := by decide +kernel
theorem dX7_waterOf_4 : decode cX7_waterOf 4 = .ok (.iload_n 3, 1) := by decide +kernel
theorem dX7_waterOf_5 : decode cX7_waterOf 5 = .ok (.iload_n 1, 1) := by decide +kernel
theorem dX7_waterOf_6 : decode cX7_waterOf 6 = .ok (.if_icmp .ge 26, 3) := by decide +kernel
theorem dX7_waterOf_9 : decode cX7_waterOf 9 = .ok (.iload_n 2, 1) := by decide +kernel
theorem dX7_waterOf_10 : decode cX7_waterOf 10 = .ok (.bipush 50, 2) := by decide +kernel
theorem dX7_waterOf_12 : decode cX7_waterOf 12 = .ok (.aload_n 0, 1) := by decide +kernel
theorem dX7_waterOf_13 : decode cX7_waterOf 13 = .ok (.getfield 27, 3) := by decide +kernel
theorem dX7_waterOf_16 : decode cX7_waterOf 16 = .ok (.iload_n 3, 1) := by decide +kernel
theorem dX7_waterOf_17 : decode cX7_waterOf 17 = .ok (.iadd, 1) := by decide +kernel
theorem dX7_waterOf_18 : decode cX7_waterOf 18 = .ok (.invokestatic 37, 3) := by decide +kernel
theorem dX7_waterOf_21 : decode cX7_waterOf 21 = .ok (.invokestatic 43, 3) := by decide +kernel
theorem dX7_waterOf_24 : decode cX7_waterOf 24 = .ok (.iadd, 1) := by decide +kernel
theorem dX7_waterOf_25 : decode cX7_waterOf 25 = .ok (.istore_n 2, 1) := by decide +kernel
theorem dX7_waterOf_26 : decode cX7_waterOf 26 = .ok (.iinc 3 1, 3) := by decide +kernel
theorem dX7_waterOf_29 : decode cX7_waterOf 29 = .ok (.goto (-25), 3) := by decide +kernel
theorem dX7_waterOf_32 : decode cX7_waterOf 32 = .ok (.iload_n 2, 1) := by decide +kernel
theorem dX7_waterOf_33 : decode cX7_waterOf 33 = .ok (.ireturn, 1) := by decide +kernel
set_option maxRecDepth 20000 in
theorem ggX7_drawOnce_X7_waterAtWear : GoodIn wsX7_drawOnce wsX7_waterAtWear := goodIn_r _ [12] (by decide +kernel) (by decide +kernel)
set_option maxRecDepth 20000 in
theorem gX7_drawOnce_X7_waterAtWear : GoodIn wsX7_drawOnce (va_wsS RX7 43 yX7_waterAtWear wsX7_waterAtWear) := goodIn_app (goodIn_of _ (by decide +kernel)) ggX7_drawOnce_X7_waterAtWear
theorem dX7_drawOnce_0 : decode cX7_drawOnce 0 = .ok (.aload_n 0, 1) := by decide +kernel
theorem dX7_drawOnce_1 : decode cX7_drawOnce 1 = .ok (.getfield 27, 3) := by decide +kernel
theorem dX7_drawOnce_4 : decode cX7_drawOnce 4 = .ok (.invokestatic 43, 3) := by decide +kernel
theorem dX7_drawOnce_7 : decode cX7_drawOnce 7 = .ok (.istore_n 1, 1) := by decide +kernel
theorem dX7_drawOnce_8 : decode cX7_drawOnce 8 = .ok (.aload_n 0, 1) := by decide +kernel
theorem dX7_drawOnce_9 : decode cX7_drawOnce 9 = .ok (.dup, 1) := by decide +kernel
theorem dX7_drawOnce_10 : decode cX7_drawOnce 10 = .ok (.getfield 9, 3) := by decide +kernel
theorem dX7_drawOnce_13 : decode cX7_drawOnce 13 = .ok (.iload_n 1, 1) := by decide +kernel
theorem dX7_drawOnce_14 : decode cX7_drawOnce 14 = .ok (.isub, 1) := by decide +kernel
theorem dX7_drawOnce_15 : decode cX7_drawOnce 15 = .ok (.putfield 9, 3) := by decide +kernel
theorem dX7_drawOnce_18 : decode cX7_drawOnce 18 = .ok (.aload_n 0, 1) := by decide +kernel
theorem dX7_drawOnce_19 : decode cX7_drawOnce 19 = .ok (.dup, 1) := by decide +kernel
theorem dX7_drawOnce_20 : decode cX7_drawOnce 20 = .ok (.getfield 18, 3) := by decide +kernel
theorem dX7_drawOnce_23 : decode cX7_drawOnce 23 = .ok (.iload_n 1, 1) := by decide +kernel
theorem dX7_drawOnce_24 : decode cX7_drawOnce 24 = .ok (.iadd, 1) := by decide +kernel
theorem dX7_drawOnce_25 : decode cX7_drawOnce 25 = .ok (.putfield 18, 3) := by decide +kernel
theorem dX7_drawOnce_28 : decode cX7_drawOnce 28 = .ok (.aload_n 0, 1) := by decide +kernel
theorem dX7_drawOnce_29 : decode cX7_drawOnce 29 = .ok (.dup, 1) := by decide +kernel
theorem dX7_drawOnce_30 : decode cX7_drawOnce 30 = .ok (.getfield 30, 3) := by decide +kernel
theorem dX7_drawOnce_33 : decode cX7_drawOnce 33 = .ok (.iconst 1, 1) := by decide +kernel
theorem dX7_drawOnce_34 : decode cX7_drawOnce 34 = .ok (.iadd, 1) := by decide +kernel
theorem dX7_drawOnce_35 : decode cX7_drawOnce 35 = .ok (.putfield 30, 3) := by decide +kernel
theorem dX7_drawOnce_38 : decode cX7_drawOnce 38 = .ok (.aload_n 0, 1) := by decide +kernel
theorem dX7_drawOnce_39 : decode cX7_drawOnce 39 = .ok (.bipush 50, 2) := by decide +kernel
theorem dX7_drawOnce_41 : decode cX7_drawOnce 41 = .ok (.aload_n 0, 1) := by decide +kernel
theorem dX7_drawOnce_42 : decode cX7_drawOnce 42 = .ok (.getfield 27, 3) := by decide +kernel
theorem dX7_drawOnce_45 : decode cX7_drawOnce 45 = .ok (.iconst 1, 1) := by decide +kernel
theorem dX7_drawOnce_46 : decode cX7_drawOnce 46 = .ok (.iadd, 1) := by decide +kernel
theorem dX7_drawOnce_47 : decode cX7_drawOnce 47 = .ok (.invokestatic 37, 3) := by decide +kernel
theorem dX7_drawOnce_50 : decode cX7_drawOnce 50 = .ok (.putfield 27, 3) := by decide +kernel
theorem dX7_drawOnce_53 : decode cX7_drawOnce 53 = .ok (.iload_n 1, 1) := by decide +kernel
theorem dX7_drawOnce_54 : decode cX7_drawOnce 54 = .ok (.ireturn, 1) := by decide +kernel
theorem dX7_renewLeather_0 : decode cX7_renewLeather 0 = .ok (.aload_n 0, 1) := by decide +kernel
theorem dX7_renewLeather_1 : decode cX7_renewLeather 1 = .ok (.getfield 27, 3) := by decide +kernel
theorem dX7_renewLeather_4 : decode cX7_renewLeather 4 = .ok (.istore_n 1, 1) := by decide +kernel
theorem dX7_renewLeather_5 : decode cX7_renewLeather 5 = .ok (.aload_n 0, 1) := by decide +kernel
theorem dX7_renewLeather_6 : decode cX7_renewLeather 6 = .ok (.iconst 0, 1) := by decide +kernel
theorem dX7_renewLeather_7 : decode cX7_renewLeather 7 = .ok (.putfield 27, 3) := by decide +kernel
theorem dX7_renewLeather_10 : decode cX7_renewLeather 10 = .ok (.iload_n 1, 1) := by decide +kernel
theorem dX7_renewLeather_11 : decode cX7_renewLeather 11 = .ok (.ireturn, 1) := by decide +kernel
theorem dX7_changeRain_0 : decode cX7_changeRain 0 = .ok (.aload_n 0, 1) := by decide +kernel
theorem dX7_changeRain_1 : decode cX7_changeRain 1 = .ok (.getfield 15, 3) := by decide +kernel
theorem dX7_changeRain_4 : decode cX7_changeRain 4 = .ok (.istore_n 2, 1) := by decide +kernel
theorem dX7_changeRain_5 : decode cX7_changeRain 5 = .ok (.aload_n 0, 1) := by decide +kernel
theorem dX7_changeRain_6 : decode cX7_changeRain 6 = .ok (.iload_n 1, 1) := by decide +kernel
theorem dX7_changeRain_7 : decode cX7_changeRain 7 = .ok (.putfield 15, 3) := by decide +kernel
theorem dX7_changeRain_10 : decode cX7_changeRain 10 = .ok (.iload_n 2, 1) := by decide +kernel
theorem dX7_changeRain_11 : decode cX7_changeRain 11 = .ok (.ireturn, 1) := by decide +kernel
theorem dX7_passNight_0 : decode cX7_passNight 0 = .ok (.bipush 10, 2) := by decide +kernel
theorem dX7_passNight_2 : decode cX7_passNight 2 = .ok (.aload_n 0, 1) := by decide +kernel
theorem dX7_passNight_3 : decode cX7_passNight 3 = .ok (.getfield 15, 3) := by decide +kernel
theorem dX7_passNight_6 : decode cX7_passNight 6 = .ok (.imul, 1) := by decide +kernel
theorem dX7_passNight_7 : decode cX7_passNight 7 = .ok (.istore_n 1, 1) := by decide +kernel
theorem dX7_passNight_8 : decode cX7_passNight 8 = .ok (.aload_n 0, 1) := by decide +kernel
theorem dX7_passNight_9 : decode cX7_passNight 9 = .ok (.dup, 1) := by decide +kernel
theorem dX7_passNight_10 : decode cX7_passNight 10 = .ok (.getfield 24, 3) := by decide +kernel
theorem dX7_passNight_13 : decode cX7_passNight 13 = .ok (.iload_n 1, 1) := by decide +kernel
theorem dX7_passNight_14 : decode cX7_passNight 14 = .ok (.iadd, 1) := by decide +kernel
theorem dX7_passNight_15 : decode cX7_passNight 15 = .ok (.putfield 24, 3) := by decide +kernel
theorem dX7_passNight_18 : decode cX7_passNight 18 = .ok (.aload_n 0, 1) := by decide +kernel
theorem dX7_passNight_19 : decode cX7_passNight 19 = .ok (.dup, 1) := by decide +kernel
theorem dX7_passNight_20 : decode cX7_passNight 20 = .ok (.getfield 9, 3) := by decide +kernel
theorem dX7_passNight_23 : decode cX7_passNight 23 = .ok (.iload_n 1, 1) := by decide +kernel
theorem dX7_passNight_24 : decode cX7_passNight 24 = .ok (.iadd, 1) := by decide +kernel
theorem dX7_passNight_25 : decode cX7_passNight 25 = .ok (.putfield 9, 3) := by decide +kernel
theorem dX7_passNight_28 : decode cX7_passNight 28 = .ok (.aload_n 0, 1) := by decide +kernel
theorem dX7_passNight_29 : decode cX7_passNight 29 = .ok (.getfield 9, 3) := by decide +kernel
theorem dX7_passNight_32 : decode cX7_passNight 32 = .ok (.sipush 999, 3) := by decide +kernel
theorem dX7_passNight_35 : decode cX7_passNight 35 = .ok (.if_icmp .le 27, 3) := by decide +kernel
theorem dX7_passNight_38 : decode cX7_passNight 38 = .ok (.aload_n 0, 1) := by decide +kernel
theorem dX7_passNight_39 : decode cX7_passNight 39 = .ok (.dup, 1) := by decide +kernel
theorem dX7_passNight_40 : decode cX7_passNight 40 = .ok (.getfield 21, 3) := by decide +kernel
theorem dX7_passNight_43 : decode cX7_passNight 43 = .ok (.aload_n 0, 1) := by decide +kernel
theorem dX7_passNight_44 : decode cX7_passNight 44 = .ok (.getfield 9, 3) := by decide +kernel
theorem dX7_passNight_47 : decode cX7_passNight 47 = .ok (.sipush 999, 3) := by decide +kernel
theorem dX7_passNight_50 : decode cX7_passNight 50 = .ok (.isub, 1) := by decide +kernel
theorem dX7_passNight_51 : decode cX7_passNight 51 = .ok (.iadd, 1) := by decide +kernel
theorem dX7_passNight_52 : decode cX7_passNight 52 = .ok (.putfield 21, 3) := by decide +kernel
theorem dX7_passNight_55 : decode cX7_passNight 55 = .ok (.aload_n 0, 1) := by decide +kernel
theorem dX7_passNight_56 : decode cX7_passNight 56 = .ok (.sipush 999, 3) := by decide +kernel
theorem dX7_passNight_59 : decode cX7_passNight 59 = .ok (.putfield 9, 3) := by decide +kernel
theorem dX7_passNight_62 : decode cX7_passNight 62 = .ok (.aload_n 0, 1) := by decide +kernel
theorem dX7_passNight_63 : decode cX7_passNight 63 = .ok (.aload_n 0, 1) := by decide +kernel
theorem dX7_passNight_64 : decode cX7_passNight 64 = .ok (.getfield 9, 3) := by decide +kernel
theorem dX7_passNight_67 : decode cX7_passNight 67 = .ok (.bipush 100, 2) := by decide +kernel
theorem dX7_passNight_69 : decode cX7_passNight 69 = .ok (.if_icmp .ge 7, 3) := by decide +kernel
theorem dX7_passNight_72 : decode cX7_passNight 72 = .ok (.iconst 1, 1) := by decide +kernel
theorem dX7_passNight_73 : decode cX7_passNight 73 = .ok (.goto 4, 3) := by decide +kernel
theorem dX7_passNight_76 : decode cX7_passNight 76 = .ok (.iconst 0, 1) := by decide +kernel
theorem dX7_passNight_77 : decode cX7_passNight 77 = .ok (.putfield 33, 3) := by decide +kernel
theorem dX7_passNight_80 : decode cX7_passNight 80 = .ok (.return_, 1) := by decide +kernel
set_option maxRecDepth 20000 in
theorem ggX8_init_X6_init : GoodIn wsX8_init wsX6_init := goodIn_r _ [28, 29, 2, 3, 30, 31, 32, 33, 34, 35, 36, 37, 38, 39, 40, 41, 42, 43, 44, 45, 46, 47, 48, 49, 50, 51, 52, 53, 54, 55, 56, 57, 58, 59, 60, 61, 62, 63, 64, 65, 66, 67, 68, 69, 70, 71, 72, 73, 141, 142, 143, 144, 145, 146, 147, 148, 149, 109, 110, 111, 112, 113, 114, 115, 150, 151, 152, 153, 154, 155, 156, 157, 158, 159, 160, 161, 162, 163, 164, 165] (by decide +kernel) (by decide +kernel)
set_option maxRecDepth 20000 in
theorem gX8_init_X6_init_n9 : GoodIn wsX8_init (wsX6_init) := ggX8_init_X6_init
set_option maxRecDepth 20000 in
theorem ggX8_init_X1_init : GoodIn wsX8_init wsX1_init := goodIn_r _ [75, 76, 2, 3, 77, 78, 5, 6, 27, 28, 29, 30, 31, 32, 33, 34, 35, 36, 37, 38, 39, 40, 41, 42, 43, 44, 45, 46, 47, 48, 49, 50, 51, 52, 53, 54, 55, 56, 57, 58, 59, 60, 61, 62, 63, 64, 65, 66, 67, 68, 69, 70, 71, 72, 73, 125, 126, 127, 109, 110, 111, 112, 113, 114, 115, 141, 142, 143, 144, 145, 146, 147, 148, 149, 150, 151, 152, 153, 154, 155, 156, 157, 158, 159, 160, 161, 162, 163, 164, 165] (by decide +kernel) (by decide +kernel)
set_option maxRecDepth 20000 in
theorem gX8_init_X1_init_n24 : GoodIn wsX8_init (wsX1_init) := ggX8_init_X1_init
set_option maxRecDepth 20000 in
theorem ggX8_init_X5_init : GoodIn wsX8_init wsX5_init := goodIn_r _ [80, 81, 2, 3] (by decide +kernel) (by decide +kernel)
set_option maxRecDepth 20000 in
theorem gX8_init_X5_init_n31 : GoodIn wsX8_init (wsX5_init) := ggX8_init_X5_init
set_option maxRecDepth 20000 in
theorem ggX8_init_X0_init : GoodIn wsX8_init wsX0_init := goodIn_r _ [83, 84, 2, 3, 85, 86, 87, 49, 88, 132, 133, 134, 135, 136] (by decide +kernel) (by decide +kernel)
set_option maxRecDepth 20000 in
theorem gX8_init_X0_init_n38 : GoodIn wsX8_init (wsX0_init) := ggX8_init_X0_init
set_option maxRecDepth 20000 in
theorem ggX8_init_J4_init_da8c8 : GoodIn wsX8_init wsJ4_init_da8c8 := goodIn_r _ [91, 92, 93, 94, 95, 96, 2, 3, 97, 98, 99, 100, 101, 102, 103, 104, 105, 106, 107, 108, 137, 138, 139, 140] (by decide +kernel) (by decide +kernel)
set_option maxRecDepth 20000 in
theorem gX8_init_J4_init_da8c8 : GoodIn wsX8_init (wsJ4_init_da8c8) := ggX8_init_J4_init_da8c8
theorem dX8_init_0 : decode cX8_init 0 = .ok (.aload_n 0, 1) := by decide +kernel
theorem dX8_init_1 : decode cX8_init 1 = .ok (.invokespecial 1, 3) := by decide +kernel
theorem dX8_init_4 : decode cX8_init 4 = .ok (.aload_n 0, 1) := by decide +kernel
theorem dX8_init_5 : decode cX8_init 5 = .ok (.new 7, 3) := by decide +kernel
theorem dX8_init_8 : decode cX8_init 8 = .ok (.dup, 1) := by decide +kernel
theorem dX8_init_9 : decode cX8_init 9 = .ok (.invokespecial 9, 3) := by decide +kernel
theorem dX8_init_12 : decode cX8_init 12 = .ok (.putfield 10, 3) := by decide +kernel
theorem dX8_init_15 : decode cX8_init 15 = .ok (.aload_n 0, 1) := by decide +kernel
theorem dX8_init_16 : decode cX8_init 16 = .ok (.new 7, 3) := by decide +kernel
theorem dX8_init_19 : decode cX8_init 19 = .ok (.dup, 1) := by decide +kernel
theorem dX8_init_20 : decode cX8_init 20 = .ok (.invokespecial 9, 3) := by decide +kernel
theorem dX8_init_23 : decode cX8_init 23 = .ok (.putfield 16, 3) := by decide +kernel
theorem dX8_init_26 : decode cX8_init 26 = .ok (.aload_n 0, 1) := by decide +kernel
theorem dX8_init_27 : decode cX8_init 27 = .ok (.new 7, 3) := by decide +kernel
theorem dX8_init_30 : decode cX8_init 30 = .ok (.dup, 1) := by decide +kernel
theorem dX8_init_31 : decode cX8_init 31 = .ok (.invokespecial 9, 3) := by decide +kernel
theorem dX8_init_34 : decode cX8_init 34 = .ok (.putfield 19, 3) := by decide +kernel
theorem dX8_init_37 : decode cX8_init 37 = .ok (.aload_n 0, 1) := by decide +kernel
theorem dX8_init_38 : decode cX8_init 38 = .ok (.new 22, 3) := by decide +kernel
theorem dX8_init_41 : decode cX8_init 41 = .ok (.dup, 1) := by decide +kernel
theorem dX8_init_42 : decode cX8_init 42 = .ok (.invokespecial 24, 3) := by decide +kernel
theorem dX8_init_45 : decode cX8_init 45 = .ok (.putfield 25, 3) := by decide +kernel
theorem dX8_init_48 : decode cX8_init 48 = .ok (.aload_n 0, 1) := by decide +kernel
theorem dX8_init_49 : decode cX8_init 49 = .ok (.new 29, 3) := by decide +kernel
theorem dX8_init_52 : decode cX8_init 52 = .ok (.dup, 1) := by decide +kernel
theorem dX8_init_53 : decode cX8_init 53 = .ok (.invokespecial 31, 3) := by decide +kernel
theorem dX8_init_56 : decode cX8_init 56 = .ok (.putfield 32, 3) := by decide +kernel
theorem dX8_init_59 : decode cX8_init 59 = .ok (.aload_n 0, 1) := by decide +kernel
theorem dX8_init_60 : decode cX8_init 60 = .ok (.new 36, 3) := by decide +kernel
theorem dX8_init_63 : decode cX8_init 63 = .ok (.dup, 1) := by decide +kernel
theorem dX8_init_64 : decode cX8_init 64 = .ok (.invokespecial 38, 3) := by decide +kernel
theorem dX8_init_67 : decode cX8_init 67 = .ok (.putfield 39, 3) := by decide +kernel
theorem dX8_init_70 : decode cX8_init 70 = .ok (.aload_n 0, 1) := by decide +kernel
theorem dX8_init_71 : decode cX8_init 71 = .ok (.iconst (-1), 1) := by decide +kernel
theorem dX8_init_72 : decode cX8_init 72 = .ok (.putfield 43, 3) := by decide +kernel
theorem dX8_init_75 : decode cX8_init 75 = .ok (.aload_n 0, 1) := by decide +kernel
theorem dX8_init_76 : decode cX8_init 76 = .ok (.new 47, 3) := by decide +kernel
theorem dX8_init_79 : decode cX8_init 79 = .ok (.dup, 1) := by decide +kernel
theorem dX8_init_80 : decode cX8_init 80 = .ok (.invokespecial 49, 3) := by decide +kernel
theorem dX8_init_83 : decode cX8_init 83 = .ok (.putfield 50, 3) := by decide +kernel
theorem dX8_init_86 : decode cX8_init 86 = .ok (.return_, 1) := by decide +kernel
set_option maxRecDepth 20000 in
theorem ggX8_household_X6_refusesHousehold : GoodIn wsX8_household wsX6_refusesHousehold := goodIn_r _ [9, 10, 11, 12, 13, 14, 15, 16, 17, 18, 19, 20, 21, 101, 102, 103, 104, 105, 106, 107, 108, 109, 110, 111, 112, 113, 114, 115, 116, 117, 118, 119, 120] (by decide +kernel) (by decide +kernel)
set_option maxRecDepth 20000 in
theorem gX8_household_X6_refusesHousehold_n54 : GoodIn wsX8_household (wsX6_refusesHousehold) := ggX8_household_X6_refusesHousehold
set_option maxRecDepth 20000 in
theorem ggX8_household_X1_keep : GoodIn wsX8_household wsX1_keep := goodIn_r _ [25, 26, 27, 28, 29, 30, 31, 32, 33, 7, 34, 35, 10, 36, 37, 38, 39, 40, 41, 42, 43, 44, 45, 46, 47, 48, 49, 50, 51, 52, 53, 54, 55, 56, 57, 58, 59, 60, 61, 62, 63, 64, 65, 66, 67, 68, 69, 70, 71, 72, 73, 74, 75, 76, 77, 78, 79, 80, 81, 82, 83, 84, 85, 86, 87, 88, 121, 122, 123, 101, 102, 103, 104, 105, 106, 107, 108, 109, 110, 111, 112, 113, 114, 115, 116, 124, 125, 126, 127, 128, 129, 130, 131, 132, 133, 134, 135, 136, 137, 138, 139] (by decide +kernel) (by decide +kernel)
set_option maxRecDepth 20000 in
theorem gX8_household_X1_keep_n65 : GoodIn wsX8_household (wsX1_keep) := ggX8_household_X1_keep
set_option maxRecDepth 20000 in
theorem ggX8_household_X2_settle : GoodIn wsX8_household wsX2_settle := goodIn_r _ [91, 46, 48, 49, 50, 108, 109, 110, 111, 112, 113, 114, 115, 116] (by decide +kernel) (by decide +kernel)
set_option maxRecDepth 20000 in
theorem gX8_household_X2_settle_n73 : GoodIn wsX8_household (wsX2_settle) := ggX8_household_X2_settle
theorem dX8_household_0 : decode cX8_household 0 = .ok (.aload_n 0, 1) := by decide +kernel
theorem dX8_household_1 : decode cX8_household 1 = .ok (.getfield 10, 3) := by decide +kernel
theorem dX8_household_4 : decode cX8_household 4 = .ok (.iload_n 1, 1) := by decide +kernel
theorem dX8_household_5 : decode cX8_household 5 = .ok (.iload_n 2, 1) := by decide +kernel
theorem dX8_household_6 : decode cX8_household 6 = .ok (.iload_n 3, 1) := by decide +kernel
theorem dX8_household_7 : decode cX8_household 7 = .ok (.aload_n 0, 1) := by decide +kernel
theorem dX8_household_8 : decode cX8_household 8 = .ok (.getfield 32, 3) := by decide +kernel
theorem dX8_household_11 : decode cX8_household 11 = .ok (.invokevirtual 54, 3) := by decide +kernel
theorem dX8_household_14 : decode cX8_household 14 = .ok (.ifCond .eq 13, 3) := by decide +kernel
theorem dX8_household_17 : decode cX8_household 17 = .ok (.new 58, 3) := by decide +kernel
theorem dX8_household_20 : decode cX8_household 20 = .ok (.dup, 1) := by decide +kernel
theorem dX8_household_21 : decode cX8_household 21 = .ok (.ldc 60, 2) := by decide +kernel
theorem dX8_household_23 : decode cX8_household 23 = .ok (.invokespecial 62, 3) := by decide +kernel
theorem dX8_household_26 : decode cX8_household 26 = .ok (.athrow, 1) := by decide +kernel
theorem dX8_household_27 : decode cX8_household 27 = .ok (.aload_n 0, 1) := by decide +kernel
theorem dX8_household_28 : decode cX8_household 28 = .ok (.getfield 25, 3) := by decide +kernel
theorem dX8_household_31 : decode cX8_household 31 = .ok (.aload_n 0, 1) := by decide +kernel
theorem dX8_household_32 : decode cX8_household 32 = .ok (.getfield 10, 3) := by decide +kernel
theorem dX8_household_35 : decode cX8_household 35 = .ok (.invokevirtual 65, 3) := by decide +kernel
theorem dX8_household_38 : decode cX8_household 38 = .ok (.aload_n 0, 1) := by decide +kernel
theorem dX8_household_39 : decode cX8_household 39 = .ok (.getfield 10, 3) := by decide +kernel
theorem dX8_household_42 : decode cX8_household 42 = .ok (.getfield 69, 3) := by decide +kernel
theorem dX8_household_45 : decode cX8_household 45 = .ok (.iload_n 1, 1) := by decide +kernel
theorem dX8_household_46 : decode cX8_household 46 = .ok (.iload_n 2, 1) := by decide +kernel
theorem dX8_household_47 : decode cX8_household 47 = .ok (.iload_n 3, 1) := by decide +kernel
theorem dX8_household_48 : decode cX8_household 48 = .ok (.invokevirtual 73, 3) := by decide +kernel
theorem dX8_household_51 : decode cX8_household 51 = .ok (.ireturn, 1) := by decide +kernel
set_option maxRecDepth 20000 in
theorem ggX8_join_X6_refusesJoin : GoodIn wsX8_join wsX6_refusesJoin := goodIn_r _ [9, 10, 11, 12, 13, 14, 15, 16, 17, 18, 19, 20, 21, 22, 23, 24, 25, 26, 27, 28, 29, 30, 31, 32, 33, 7, 34, 35, 36, 37, 38, 39, 40, 41, 42, 43, 44, 45, 46, 47, 48, 49, 154, 155, 156, 157, 158, 159, 160, 161, 162, 163, 164, 165, 166, 167, 168, 169, 170, 171, 172, 173, 174, 175, 176, 177, 178, 179, 180, 181, 182, 183] (by decide +kernel) (by decide +kernel)
set_option maxRecDepth 20000 in
theorem gX8_join_X6_refusesJoin_n79 : GoodIn wsX8_join (wsX6_refusesJoin) := ggX8_join_X6_refusesJoin
set_option maxRecDepth 20000 in
theorem ggX8_join_X1_keep : GoodIn wsX8_join wsX1_keep := goodIn_r _ [53, 54, 55, 56, 57, 58, 37, 59, 60, 7, 61, 62, 10, 11, 44, 63, 64, 43, 65, 66, 13, 67, 68, 16, 69, 48, 70, 49, 71, 72, 73, 74, 75, 76, 77, 78, 79, 26, 80, 81, 29, 30, 82, 83, 84, 85, 86, 87, 88, 89, 90, 91, 92, 93, 94, 95, 96, 97, 98, 99, 100, 101, 102, 103, 104, 105, 184, 185, 186, 154, 155, 156, 157, 158, 159, 160, 161, 162, 163, 164, 165, 166, 167, 168, 169, 174, 175, 176, 177, 178, 179, 180, 181, 182, 183, 187, 188, 189, 190, 191, 192] (by decide +kernel) (by decide +kernel)
set_option maxRecDepth 20000 in
theorem gX8_join_X1_keep_n65 : GoodIn wsX8_join (wsX1_keep) := ggX8_join_X1_keep
set_option maxRecDepth 20000 in
theorem ggX8_join_X6_letJoin : GoodIn wsX8_join wsX6_letJoin := goodIn_r _ [108, 11, 10, 109, 13, 110, 111, 49, 112, 113, 114, 115, 70, 116, 117, 37, 118, 119, 120, 121, 16, 122, 123, 124, 7, 125, 63, 64, 126, 127, 128, 72, 129, 58, 59, 130, 36, 38, 74, 69, 131, 96, 132, 133, 101, 100, 103, 104, 105, 99, 134, 135, 26, 136, 137, 29, 30, 138, 139, 140, 141, 142, 143, 144, 154, 155, 156, 157, 158, 159, 160, 174, 175, 161, 162, 163, 164, 165, 166, 167, 168, 169, 187, 188, 189, 190, 191, 192] (by decide +kernel) (by decide +kernel)
set_option maxRecDepth 20000 in
theorem gX8_join_X6_letJoin_n85 : GoodIn wsX8_join (wsX6_letJoin) := ggX8_join_X6_letJoin
theorem dX8_join_0 : decode cX8_join 0 = .ok (.aload_n 0, 1) := by decide +kernel
theorem dX8_join_1 : decode cX8_join 1 = .ok (.getfield 10, 3) := by decide +kernel
theorem dX8_join_4 : decode cX8_join 4 = .ok (.iload_n 1, 1) := by decide +kernel
theorem dX8_join_5 : decode cX8_join 5 = .ok (.aload_n 0, 1) := by decide +kernel
theorem dX8_join_6 : decode cX8_join 6 = .ok (.getfield 32, 3) := by decide +kernel
theorem dX8_join_9 : decode cX8_join 9 = .ok (.invokevirtual 79, 3) := by decide +kernel
theorem dX8_join_12 : decode cX8_join 12 = .ok (.ifCond .eq 13, 3) := by decide +kernel
theorem dX8_join_15 : decode cX8_join 15 = .ok (.new 58, 3) := by decide +kernel
theorem dX8_join_18 : decode cX8_join 18 = .ok (.dup, 1) := by decide +kernel
theorem dX8_join_19 : decode cX8_join 19 = .ok (.ldc 83, 2) := by decide +kernel
theorem dX8_join_21 : decode cX8_join 21 = .ok (.invokespecial 62, 3) := by decide +kernel
theorem dX8_join_24 : decode cX8_join 24 = .ok (.athrow, 1) := by decide +kernel
theorem dX8_join_25 : decode cX8_join 25 = .ok (.aload_n 0, 1) := by decide +kernel
theorem dX8_join_26 : decode cX8_join 26 = .ok (.getfield 25, 3) := by decide +kernel
theorem dX8_join_29 : decode cX8_join 29 = .ok (.aload_n 0, 1) := by decide +kernel
theorem dX8_join_30 : decode cX8_join 30 = .ok (.getfield 10, 3) := by decide +kernel
theorem dX8_join_33 : decode cX8_join 33 = .ok (.invokevirtual 65, 3) := by decide +kernel
theorem dX8_join_36 : decode cX8_join 36 = .ok (.aload_n 0, 1) := by decide +kernel
theorem dX8_join_37 : decode cX8_join 37 = .ok (.getfield 10, 3) := by decide +kernel
theorem dX8_join_40 : decode cX8_join 40 = .ok (.iload_n 1, 1) := by decide +kernel
theorem dX8_join_41 : decode cX8_join 41 = .ok (.invokevirtual 85, 3) := by decide +kernel
theorem dX8_join_44 : decode cX8_join 44 = .ok (.ireturn, 1) := by decide +kernel
set_option maxRecDepth 20000 in
theorem ggX8_leave_X6_refusesLeave : GoodIn wsX8_leave wsX6_refusesLeave := goodIn_r _ [9, 10, 11, 12, 13, 14, 15, 16, 17, 18, 19, 20, 21, 22, 23, 24, 25, 26, 27, 28, 29, 30, 111, 112, 113, 114, 115, 116, 117, 118, 119, 120, 121, 122, 123, 124, 125, 126, 127, 128, 129, 130, 131, 132] (by decide +kernel) (by decide +kernel)
set_option maxRecDepth 20000 in
theorem gX8_leave_X6_refusesLeave_n89 : GoodIn wsX8_leave (wsX6_refusesLeave) := ggX8_leave_X6_refusesLeave
set_option maxRecDepth 20000 in
theorem ggX8_leave_X1_keep : GoodIn wsX8_leave wsX1_keep := goodIn_r _ [34, 35, 36, 37, 38, 39, 40, 41, 42, 7, 43, 44, 10, 11, 45, 46, 47, 48, 49, 50, 13, 51, 52, 16, 53, 54, 55, 56, 57, 58, 59, 60, 61, 62, 63, 64, 65, 26, 66, 67, 29, 30, 68, 69, 70, 71, 72, 73, 74, 75, 76, 77, 78, 79, 80, 81, 82, 83, 84, 85, 86, 87, 88, 89, 90, 91, 133, 134, 135, 111, 112, 113, 114, 115, 116, 117, 118, 119, 120, 121, 122, 123, 124, 125, 126, 131, 132, 136, 137, 138, 139, 140, 141, 142, 143, 144, 145, 146, 147, 148, 149] (by decide +kernel) (by decide +kernel)
set_option maxRecDepth 20000 in
theorem gX8_leave_X1_keep_n65 : GoodIn wsX8_leave (wsX1_keep) := ggX8_leave_X1_keep
set_option maxRecDepth 20000 in
theorem ggX8_leave_X6_letLeave : GoodIn wsX8_leave wsX6_letLeave := goodIn_r _ [94, 11, 25, 26, 27, 28, 29, 30, 95, 96, 97, 98, 99, 100, 101, 111, 112, 113, 114, 115, 116, 117, 131, 132] (by decide +kernel) (by decide +kernel)
set_option maxRecDepth 20000 in
theorem gX8_leave_X6_letLeave_n94 : GoodIn wsX8_leave (wsX6_letLeave) := ggX8_leave_X6_letLeave
theorem dX8_leave_0 : decode cX8_leave 0 = .ok (.aload_n 0, 1) := by decide +kernel
theorem dX8_leave_1 : decode cX8_leave 1 = .ok (.getfield 10, 3) := by decide +kernel
theorem dX8_leave_4 : decode cX8_leave 4 = .ok (.iload_n 1, 1) := by decide +kernel
theorem dX8_leave_5 : decode cX8_leave 5 = .ok (.aload_n 0, 1) := by decide +kernel
theorem dX8_leave_6 : decode cX8_leave 6 = .ok (.getfield 32, 3) := by decide +kernel
theorem dX8_leave_9 : decode cX8_leave 9 = .ok (.invokevirtual 89, 3) := by decide +kernel
theorem dX8_leave_12 : decode cX8_leave 12 = .ok (.ifCond .eq 13, 3) := by decide +kernel
theorem dX8_leave_15 : decode cX8_leave 15 = .ok (.new 58, 3) := by decide +kernel
theorem dX8_leave_18 : decode cX8_leave 18 = .ok (.dup, 1) := by decide +kernel
theorem dX8_leave_19 : decode cX8_leave 19 = .ok (.ldc 92, 2) := by decide +kernel
theorem dX8_leave_21 : decode cX8_leave 21 = .ok (.invokespecial 62, 3) := by decide +kernel
theorem dX8_leave_24 : decode cX8_leave 24 = .ok (.athrow, 1) := by decide +kernel
theorem dX8_leave_25 : decode cX8_leave 25 = .ok (.aload_n 0, 1) := by decide +kernel
theorem dX8_leave_26 : decode cX8_leave 26 = .ok (.getfield 25, 3) := by decide +kernel
theorem dX8_leave_29 : decode cX8_leave 29 = .ok (.aload_n 0, 1) := by decide +kernel
theorem dX8_leave_30 : decode cX8_leave 30 = .ok (.getfield 10, 3) := by decide +kernel
theorem dX8_leave_33 : decode cX8_leave 33 = .ok (.invokevirtual 65, 3) := by decide +kernel
theorem dX8_leave_36 : decode cX8_leave 36 = .ok (.aload_n 0, 1) := by decide +kernel
theorem dX8_leave_37 : decode cX8_leave 37 = .ok (.getfield 10, 3) := by decide +kernel
theorem dX8_leave_40 : decode cX8_leave 40 = .ok (.iload_n 1, 1) := by decide +kernel
theorem dX8_leave_41 : decode cX8_leave 41 = .ok (.invokevirtual 94, 3) := by decide +kernel
theorem dX8_leave_44 : decode cX8_leave 44 = .ok (.ireturn, 1) := by decide +kernel
set_option maxRecDepth 20000 in
theorem ggX8_draw_X6_refusesDraws : GoodIn wsX8_draw wsX6_refusesDraws := goodIn_r _ [9, 10, 11, 12, 13, 14, 15, 16, 17, 18, 19, 20, 21, 22, 23, 24, 7, 25, 26, 27, 28, 29, 30, 31, 32, 33, 34, 35, 36, 37, 38, 39, 40, 41, 42, 43, 44, 45, 46, 47, 48, 49, 50, 51, 52, 53, 54, 55, 56, 57, 147, 148, 149, 150, 151, 152, 153, 154, 155, 156, 157, 158, 159, 160, 161, 162, 163, 164, 165, 166, 167, 168, 169, 170, 171, 172, 173, 174, 175, 176] (by decide +kernel) (by decide +kernel)
set_option maxRecDepth 20000 in
theorem gX8_draw_X6_refusesDraws_n97 : GoodIn wsX8_draw (wsX6_refusesDraws) := ggX8_draw_X6_refusesDraws
set_option maxRecDepth 20000 in
theorem ggX8_draw_X1_keep : GoodIn wsX8_draw wsX1_keep := goodIn_r _ [61, 62, 63, 64, 65, 53, 34, 54, 66, 7, 67, 68, 31, 26, 10, 69, 70, 40, 71, 72, 42, 73, 74, 75, 76, 45, 77, 46, 78, 79, 80, 81, 82, 83, 84, 85, 86, 87, 88, 89, 90, 91, 92, 93, 48, 94, 95, 96, 97, 98, 99, 100, 51, 101, 102, 103, 104, 105, 106, 107, 108, 109, 110, 111, 112, 113, 177, 178, 179, 147, 148, 149, 150, 151, 152, 153, 168, 169, 170, 171, 172, 173, 174, 175, 176, 166, 167, 154, 155, 156, 157, 158, 159, 160, 161, 180, 181, 182, 183, 184, 185] (by decide +kernel) (by decide +kernel)
set_option maxRecDepth 20000 in
theorem gX8_draw_X1_keep_n65 : GoodIn wsX8_draw (wsX1_keep) := ggX8_draw_X1_keep
set_option maxRecDepth 20000 in
theorem ggX8_draw_X6_letDraw : GoodIn wsX8_draw wsX6_letDraw := goodIn_r _ [116, 26, 117, 118, 119, 7, 120, 10, 31, 69, 70, 121, 48, 122, 123, 51, 96, 97, 101, 52, 53, 34, 54, 55, 56, 57, 124, 104, 125, 126, 109, 108, 111, 112, 113, 107, 127, 128, 87, 129, 130, 90, 91, 131, 132, 133, 134, 27, 28, 29, 30, 32, 33, 35, 36, 37, 38, 39, 40, 41, 42, 43, 44, 45, 46, 135, 136, 137, 147, 148, 149, 150, 151, 152, 153, 166, 167, 168, 169, 170, 171, 172, 173, 174, 175, 176, 154, 155, 156, 157, 158, 159, 160, 161, 180, 181, 182, 183, 184, 185] (by decide +kernel) (by decide +kernel)
set_option maxRecDepth 20000 in
theorem gX8_draw_X6_letDraw_n102 : GoodIn wsX8_draw (wsX6_letDraw) := ggX8_draw_X6_letDraw
theorem dX8_draw_0 : decode cX8_draw 0 = .ok (.aload_n 0, 1) := by decide +kernel
theorem dX8_draw_1 : decode cX8_draw 1 = .ok (.getfield 10, 3) := by decide +kernel
theorem dX8_draw_4 : decode cX8_draw 4 = .ok (.iload_n 1, 1) := by decide +kernel
theorem dX8_draw_5 : decode cX8_draw 5 = .ok (.aload_n 0, 1) := by decide +kernel
theorem dX8_draw_6 : decode cX8_draw 6 = .ok (.getfield 32, 3) := by decide +kernel
theorem dX8_draw_9 : decode cX8_draw 9 = .ok (.invokevirtual 97, 3) := by decide +kernel
theorem dX8_draw_12 : decode cX8_draw 12 = .ok (.ifCond .eq 13, 3) := by decide +kernel
theorem dX8_draw_15 : decode cX8_draw 15 = .ok (.new 58, 3) := by decide +kernel
theorem dX8_draw_18 : decode cX8_draw 18 = .ok (.dup, 1) := by decide +kernel
theorem dX8_draw_19 : decode cX8_draw 19 = .ok (.ldc 100, 2) := by decide +kernel
theorem dX8_draw_21 : decode cX8_draw 21 = .ok (.invokespecial 62, 3) := by decide +kernel
theorem dX8_draw_24 : decode cX8_draw 24 = .ok (.athrow, 1) := by decide +kernel
theorem dX8_draw_25 : decode cX8_draw 25 = .ok (.aload_n 0, 1) := by decide +kernel
theorem dX8_draw_26 : decode cX8_draw 26 = .ok (.getfield 25, 3) := by decide +kernel
theorem dX8_draw_29 : decode cX8_draw 29 = .ok (.aload_n 0, 1) := by decide +kernel
theorem dX8_draw_30 : decode cX8_draw 30 = .ok (.getfield 10, 3) := by decide +kernel
theorem dX8_draw_33 : decode cX8_draw 33 = .ok (.invokevirtual 65, 3) := by decide +kernel
theorem dX8_draw_36 : decode cX8_draw 36 = .ok (.aload_n 0, 1) := by decide +kernel
theorem dX8_draw_37 : decode cX8_draw 37 = .ok (.getfield 10, 3) := by decide +kernel
theorem dX8_draw_40 : decode cX8_draw 40 = .ok (.iload_n 1, 1) := by decide +kernel
theorem dX8_draw_41 : decode cX8_draw 41 = .ok (.invokevirtual 102, 3) := by decide +kernel
theorem dX8_draw_44 : decode cX8_draw 44 = .ok (.ireturn, 1) := by decide +kernel
set_option maxRecDepth 20000 in
theorem ggX8_vote_X6_refusesVote : GoodIn wsX8_vote wsX6_refusesVote := goodIn_r _ [9, 10, 11, 12, 13, 14, 15, 16, 17, 18, 135, 136, 137, 138, 139, 140, 141, 142, 143, 144, 145, 146, 147, 148, 149, 150, 151, 152, 153, 154] (by decide +kernel) (by decide +kernel)
set_option maxRecDepth 20000 in
theorem gX8_vote_X6_refusesVote_n105 : GoodIn wsX8_vote (wsX6_refusesVote) := ggX8_vote_X6_refusesVote
set_option maxRecDepth 20000 in
theorem ggX8_vote_X1_keep : GoodIn wsX8_vote wsX1_keep := goodIn_r _ [22, 23, 24, 25, 26, 27, 28, 29, 30, 7, 31, 32, 10, 33, 34, 35, 36, 37, 38, 39, 40, 41, 42, 43, 44, 45, 46, 47, 48, 49, 50, 51, 52, 53, 54, 55, 56, 57, 58, 59, 60, 61, 62, 63, 64, 65, 66, 67, 68, 69, 70, 71, 72, 73, 74, 75, 76, 77, 78, 79, 80, 81, 82, 83, 84, 85, 155, 156, 157, 135, 136, 137, 138, 139, 140, 141, 142, 143, 144, 145, 146, 147, 148, 149, 150, 158, 159, 160, 161, 162, 163, 164, 165, 166, 167, 168, 169, 170, 171, 172, 173] (by decide +kernel) (by decide +kernel)
set_option maxRecDepth 20000 in
theorem gX8_vote_X1_keep_n65 : GoodIn wsX8_vote (wsX1_keep) := ggX8_vote_X1_keep
set_option maxRecDepth 20000 in
theorem ggX8_vote_X6_letVote : GoodIn wsX8_vote wsX6_letVote := goodIn_r _ [88, 10, 37, 33, 35, 36, 89, 40, 90, 91, 92, 93, 94, 95, 43, 45, 96, 97, 98, 99, 100, 101, 102, 103, 47, 104, 105, 106, 7, 107, 108, 109, 28, 110, 111, 112, 113, 114, 34, 115, 57, 116, 117, 60, 61, 118, 119, 120, 121, 122, 76, 123, 124, 81, 80, 83, 84, 85, 79, 125, 27, 29, 135, 136, 137, 138, 139, 140, 141, 158, 159, 142, 143, 144, 145, 146, 147, 148, 149, 150, 160, 161, 162, 163, 164, 165, 166, 167, 168, 169, 170, 171, 172, 173] (by decide +kernel) (by decide +kernel)
set_option maxRecDepth 20000 in
theorem gX8_vote_X6_letVote_n111 : GoodIn wsX8_vote (wsX6_letVote) := ggX8_vote_X6_letVote
theorem dX8_vote_0 : decode cX8_vote 0 = .ok (.aload_n 0, 1) := by decide +kernel
theorem dX8_vote_1 : decode cX8_vote 1 = .ok (.getfield 10, 3) := by decide +kernel
theorem dX8_vote_4 : decode cX8_vote 4 = .ok (.aload_n 0, 1) := by decide +kernel
theorem dX8_vote_5 : decode cX8_vote 5 = .ok (.getfield 32, 3) := by decide +kernel
theorem dX8_vote_8 : decode cX8_vote 8 = .ok (.invokevirtual 105, 3) := by decide +kernel
theorem dX8_vote_11 : decode cX8_vote 11 = .ok (.ifCond .eq 13, 3) := by decide +kernel
theorem dX8_vote_14 : decode cX8_vote 14 = .ok (.new 58, 3) := by decide +kernel
theorem dX8_vote_17 : decode cX8_vote 17 = .ok (.dup, 1) := by decide +kernel
theorem dX8_vote_18 : decode cX8_vote 18 = .ok (.ldc 109, 2) := by decide +kernel
theorem dX8_vote_20 : decode cX8_vote 20 = .ok (.invokespecial 62, 3) := by decide +kernel
theorem dX8_vote_23 : decode cX8_vote 23 = .ok (.athrow, 1) := by decide +kernel
theorem dX8_vote_24 : decode cX8_vote 24 = .ok (.aload_n 0, 1) := by decide +kernel
theorem dX8_vote_25 : decode cX8_vote 25 = .ok (.getfield 25, 3) := by decide +kernel
theorem dX8_vote_28 : decode cX8_vote 28 = .ok (.aload_n 0, 1) := by decide +kernel
theorem dX8_vote_29 : decode cX8_vote 29 = .ok (.getfield 10, 3) := by decide +kernel
theorem dX8_vote_32 : decode cX8_vote 32 = .ok (.invokevirtual 65, 3) := by decide +kernel
theorem dX8_vote_35 : decode cX8_vote 35 = .ok (.aload_n 0, 1) := by decide +kernel
theorem dX8_vote_36 : decode cX8_vote 36 = .ok (.getfield 10, 3) := by decide +kernel
theorem dX8_vote_39 : decode cX8_vote 39 = .ok (.invokevirtual 111, 3) := by decide +kernel
theorem dX8_vote_42 : decode cX8_vote 42 = .ok (.ireturn, 1) := by decide +kernel
set_option maxRecDepth 20000 in
theorem ggX8_rain_X6_refusesRain : GoodIn wsX8_rain wsX6_refusesRain := goodIn_r _ [9, 10, 11, 12, 13, 14, 15, 16, 17, 18, 19, 20, 108, 109, 110, 111] (by decide +kernel) (by decide +kernel)
set_option maxRecDepth 20000 in
theorem gX8_rain_X6_refusesRain_n115 : GoodIn wsX8_rain (wsX6_refusesRain) := ggX8_rain_X6_refusesRain
set_option maxRecDepth 20000 in
theorem ggX8_rain_X1_keep : GoodIn wsX8_rain wsX1_keep := goodIn_r _ [24, 25, 26, 27, 28, 29, 30, 31, 32, 7, 33, 34, 35, 36, 37, 38, 39, 40, 41, 42, 43, 44, 45, 46, 47, 48, 49, 50, 51, 52, 53, 54, 55, 56, 57, 58, 59, 60, 61, 62, 63, 64, 65, 66, 67, 68, 69, 70, 71, 72, 73, 74, 75, 76, 77, 78, 79, 80, 81, 82, 83, 84, 85, 86, 87, 88, 112, 113, 114, 101, 102, 103, 104, 105, 106, 107, 115, 116, 117, 118, 119, 120, 121, 122, 123, 124, 125, 126, 127, 128, 129, 130, 131, 132, 133, 134, 135, 136, 137, 138, 139] (by decide +kernel) (by decide +kernel)
set_option maxRecDepth 20000 in
theorem gX8_rain_X1_keep_n65 : GoodIn wsX8_rain (wsX1_keep) := ggX8_rain_X1_keep
set_option maxRecDepth 20000 in
theorem ggX8_rain_X7_changeRain : GoodIn wsX8_rain wsX7_changeRain := goodIn_r _ [91, 74, 126, 127, 128, 129, 130, 131, 132, 133] (by decide +kernel) (by decide +kernel)
set_option maxRecDepth 20000 in
theorem gX8_rain_X7_changeRain_n124 : GoodIn wsX8_rain (wsX7_changeRain) := ggX8_rain_X7_changeRain
theorem dX8_rain_0 : decode cX8_rain 0 = .ok (.aload_n 0, 1) := by decide +kernel
theorem dX8_rain_1 : decode cX8_rain 1 = .ok (.getfield 10, 3) := by decide +kernel
theorem dX8_rain_4 : decode cX8_rain 4 = .ok (.iload_n 1, 1) := by decide +kernel
theorem dX8_rain_5 : decode cX8_rain 5 = .ok (.aload_n 0, 1) := by decide +kernel
theorem dX8_rain_6 : decode cX8_rain 6 = .ok (.getfield 32, 3) := by decide +kernel
theorem dX8_rain_9 : decode cX8_rain 9 = .ok (.invokevirtual 115, 3) := by decide +kernel
theorem dX8_rain_12 : decode cX8_rain 12 = .ok (.ifCond .eq 13, 3) := by decide +kernel
theorem dX8_rain_15 : decode cX8_rain 15 = .ok (.new 58, 3) := by decide +kernel
theorem dX8_rain_18 : decode cX8_rain 18 = .ok (.dup, 1) := by decide +kernel
theorem dX8_rain_19 : decode cX8_rain 19 = .ok (.ldc 118, 2) := by decide +kernel
theorem dX8_rain_21 : decode cX8_rain 21 = .ok (.invokespecial 62, 3) := by decide +kernel
theorem dX8_rain_24 : decode cX8_rain 24 = .ok (.athrow, 1) := by decide +kernel
theorem dX8_rain_25 : decode cX8_rain 25 = .ok (.aload_n 0, 1) := by decide +kernel
theorem dX8_rain_26 : decode cX8_rain 26 = .ok (.getfield 25, 3) := by decide +kernel
theorem dX8_rain_29 : decode cX8_rain 29 = .ok (.aload_n 0, 1) := by decide +kernel
theorem dX8_rain_30 : decode cX8_rain 30 = .ok (.getfield 10, 3) := by decide +kernel
theorem dX8_rain_33 : decode cX8_rain 33 = .ok (.invokevirtual 65, 3) := by decide +kernel
theorem dX8_rain_36 : decode cX8_rain 36 = .ok (.aload_n 0, 1) := by decide +kernel
theorem dX8_rain_37 : decode cX8_rain 37 = .ok (.getfield 10, 3) := by decide +kernel
theorem dX8_rain_40 : decode cX8_rain 40 = .ok (.getfield 120, 3) := by decide +kernel
theorem dX8_rain_43 : decode cX8_rain 43 = .ok (.iload_n 1, 1) := by decide +kernel
theorem dX8_rain_44 : decode cX8_rain 44 = .ok (.invokevirtual 124, 3) := by decide +kernel
theorem dX8_rain_47 : decode cX8_rain 47 = .ok (.ireturn, 1) := by decide +kernel
set_option maxRecDepth 20000 in
theorem ggX8_night_X6_refusesNights : GoodIn wsX8_night wsX6_refusesNights := goodIn_r _ [9, 10, 11, 12, 13, 14, 15, 16, 17, 18, 19, 20, 107, 108, 109, 110] (by decide +kernel) (by decide +kernel)
set_option maxRecDepth 20000 in
theorem gX8_night_X6_refusesNights_n129 : GoodIn wsX8_night (wsX6_refusesNights) := ggX8_night_X6_refusesNights
set_option maxRecDepth 20000 in
theorem ggX8_night_X1_keep : GoodIn wsX8_night wsX1_keep := goodIn_r _ [24, 25, 26, 27, 28, 29, 30, 31, 32, 7, 33, 34, 35, 36, 37, 38, 39, 40, 41, 42, 43, 44, 45, 46, 47, 48, 49, 50, 51, 52, 53, 54, 55, 56, 57, 58, 59, 60, 61, 62, 63, 64, 65, 66, 67, 68, 69, 70, 71, 72, 73, 74, 75, 76, 77, 78, 79, 80, 81, 82, 83, 84, 85, 86, 87, 88, 111, 112, 113, 114, 115, 116, 117, 118, 119, 120, 121, 122, 123, 124, 125, 126, 127, 128, 129, 130, 131, 132, 133, 134, 135, 136, 137, 138, 139, 140, 141, 142, 143, 144, 145] (by decide +kernel) (by decide +kernel)
set_option maxRecDepth 20000 in
theorem gX8_night_X1_keep_n65 : GoodIn wsX8_night (wsX1_keep) := ggX8_night_X1_keep
set_option maxRecDepth 20000 in
theorem ggX8_night_X6_letNightsPass : GoodIn wsX8_night wsX6_letNightsPass := goodIn_r _ [91, 36, 35, 37, 39, 92, 43, 93, 94, 46, 51, 52, 95, 67, 96, 97, 74, 73, 70, 72, 77, 114, 115, 116, 117, 118, 119, 120, 130, 131, 132, 133, 134, 135, 136, 137, 138, 139, 121, 122, 123, 124, 125, 126, 127, 128, 129] (by decide +kernel) (by decide +kernel)
set_option maxRecDepth 20000 in
theorem gX8_night_X6_letNightsPass_n134 : GoodIn wsX8_night (wsX6_letNightsPass) := ggX8_night_X6_letNightsPass
theorem dX8_night_0 : decode cX8_night 0 = .ok (.aload_n 0, 1) := by decide +kernel
theorem dX8_night_1 : decode cX8_night 1 = .ok (.getfield 10, 3) := by decide +kernel
theorem dX8_night_4 : decode cX8_night 4 = .ok (.iload_n 1, 1) := by decide +kernel
theorem dX8_night_5 : decode cX8_night 5 = .ok (.aload_n 0, 1) := by decide +kernel
theorem dX8_night_6 : decode cX8_night 6 = .ok (.getfield 32, 3) := by decide +kernel
theorem dX8_night_9 : decode cX8_night 9 = .ok (.invokevirtual 129, 3) := by decide +kernel
theorem dX8_night_12 : decode cX8_night 12 = .ok (.ifCond .eq 13, 3) := by decide +kernel
theorem dX8_night_15 : decode cX8_night 15 = .ok (.new 58, 3) := by decide +kernel
theorem dX8_night_18 : decode cX8_night 18 = .ok (.dup, 1) := by decide +kernel
theorem dX8_night_19 : decode cX8_night 19 = .ok (.ldc 132, 2) := by decide +kernel
theorem dX8_night_21 : decode cX8_night 21 = .ok (.invokespecial 62, 3) := by decide +kernel
theorem dX8_night_24 : decode cX8_night 24 = .ok (.athrow, 1) := by decide +kernel
theorem dX8_night_25 : decode cX8_night 25 = .ok (.aload_n 0, 1) := by decide +kernel
theorem dX8_night_26 : decode cX8_night 26 = .ok (.getfield 25, 3) := by decide +kernel
theorem dX8_night_29 : decode cX8_night 29 = .ok (.aload_n 0, 1) := by decide +kernel
theorem dX8_night_30 : decode cX8_night 30 = .ok (.getfield 10, 3) := by decide +kernel
theorem dX8_night_33 : decode cX8_night 33 = .ok (.invokevirtual 65, 3) := by decide +kernel
theorem dX8_night_36 : decode cX8_night 36 = .ok (.aload_n 0, 1) := by decide +kernel
theorem dX8_night_37 : decode cX8_night 37 = .ok (.getfield 10, 3) := by decide +kernel
theorem dX8_night_40 : decode cX8_night 40 = .ok (.iload_n 1, 1) := by decide +kernel
theorem dX8_night_41 : decode cX8_night 41 = .ok (.invokevirtual 134, 3) := by decide +kernel
theorem dX8_night_44 : decode cX8_night 44 = .ok (.ireturn, 1) := by decide +kernel
set_option maxRecDepth 20000 in
theorem ggX8_collect_X6_refusesCoins : GoodIn wsX8_collect wsX6_refusesCoins := goodIn_r _ [9, 10, 11, 12, 13, 14, 15, 16, 17, 18, 19, 20, 21, 98, 99, 100, 101, 102, 103, 104, 105, 106, 107, 108] (by decide +kernel) (by decide +kernel)
set_option maxRecDepth 20000 in
theorem gX8_collect_X6_refusesCoins_n137 : GoodIn wsX8_collect (wsX6_refusesCoins) := ggX8_collect_X6_refusesCoins
set_option maxRecDepth 20000 in
theorem ggX8_collect_X1_keep : GoodIn wsX8_collect wsX1_keep := goodIn_r _ [25, 26, 27, 28, 29, 30, 31, 32, 33, 7, 34, 35, 36, 37, 38, 39, 40, 41, 10, 42, 43, 44, 45, 46, 47, 48, 49, 50, 51, 52, 53, 54, 55, 56, 57, 58, 59, 60, 61, 62, 63, 64, 65, 66, 67, 68, 69, 70, 71, 72, 73, 74, 75, 76, 77, 78, 79, 80, 81, 82, 83, 84, 85, 86, 87, 88, 109, 110, 111, 98, 99, 100, 101, 102, 103, 104, 112, 113, 114, 115, 116, 117, 118, 119, 120, 121, 122, 123, 124, 125, 126, 127, 128, 129, 130, 131, 132, 133, 134, 135, 136] (by decide +kernel) (by decide +kernel)
set_option maxRecDepth 20000 in
theorem gX8_collect_X1_keep_n65 : GoodIn wsX8_collect (wsX1_keep) := ggX8_collect_X1_keep
theorem dX8_collect_0 : decode cX8_collect 0 = .ok (.aload_n 0, 1) := by decide +kernel
theorem dX8_collect_1 : decode cX8_collect 1 = .ok (.getfield 10, 3) := by decide +kernel
theorem dX8_collect_4 : decode cX8_collect 4 = .ok (.iload_n 1, 1) := by decide +kernel
theorem dX8_collect_5 : decode cX8_collect 5 = .ok (.aload_n 0, 1) := by decide +kernel
theorem dX8_collect_6 : decode cX8_collect 6 = .ok (.getfield 32, 3) := by decide +kernel
theorem dX8_collect_9 : decode cX8_collect 9 = .ok (.invokevirtual 137, 3) := by decide +kernel
theorem dX8_collect_12 : decode cX8_collect 12 = .ok (.ifCond .eq 13, 3) := by decide +kernel
theorem dX8_collect_15 : decode cX8_collect 15 = .ok (.new 58, 3) := by decide +kernel
theorem dX8_collect_18 : decode cX8_collect 18 = .ok (.dup, 1) := by decide +kernel
theorem dX8_collect_19 : decode cX8_collect 19 = .ok (.ldc 140, 2) := by decide +kernel
theorem dX8_collect_21 : decode cX8_collect 21 = .ok (.invokespecial 62, 3) := by decide +kernel
theorem dX8_collect_24 : decode cX8_collect 24 = .ok (.athrow, 1) := by decide +kernel
theorem dX8_collect_25 : decode cX8_collect 25 = .ok (.aload_n 0, 1) := by decide +kernel
theorem dX8_collect_26 : decode cX8_collect 26 = .ok (.getfield 25, 3) := by decide +kernel
theorem dX8_collect_29 : decode cX8_collect 29 = .ok (.aload_n 0, 1) := by decide +kernel
theorem dX8_collect_30 : decode cX8_collect 30 = .ok (.getfield 10, 3) := by decide +kernel
theorem dX8_collect_33 : decode cX8_collect 33 = .ok (.invokevirtual 65, 3) := by decide +kernel
theorem dX8_collect_36 : decode cX8_collect 36 = .ok (.aload_n 0, 1) := by decide +kernel
theorem dX8_collect_37 : decode cX8_collect 37 = .ok (.getfield 10, 3) := by decide +kernel
theorem dX8_collect_40 : decode cX8_collect 40 = .ok (.dup, 1) := by decide +kernel
theorem dX8_collect_41 : decode cX8_collect 41 = .ok (.getfield 142, 3) := by decide +kernel
theorem dX8_collect_44 : decode cX8_collect 44 = .ok (.iload_n 1, 1) := by decide +kernel
theorem dX8_collect_45 : decode cX8_collect 45 = .ok (.iadd, 1) := by decide +kernel
theorem dX8_collect_46 : decode cX8_collect 46 = .ok (.putfield 142, 3) := by decide +kernel
theorem dX8_collect_49 : decode cX8_collect 49 = .ok (.aload_n 0, 1) := by decide +kernel
theorem dX8_collect_50 : decode cX8_collect 50 = .ok (.getfield 10, 3) := by decide +kernel
theorem dX8_collect_53 : decode cX8_collect 53 = .ok (.getfield 142, 3) := by decide +kernel
theorem dX8_collect_56 : decode cX8_collect 56 = .ok (.ireturn, 1) := by decide +kernel
set_option maxRecDepth 20000 in
theorem ggX8_leather_X6_refusesLeather : GoodIn wsX8_leather wsX6_refusesLeather := goodIn_r _ [9, 10, 11, 12, 13, 14, 15, 16, 17, 18, 105, 106, 107, 108, 109, 110, 111, 112, 113, 114, 115] (by decide +kernel) (by decide +kernel)
set_option maxRecDepth 20000 in
theorem gX8_leather_X6_refusesLeather_n145 : GoodIn wsX8_leather (wsX6_refusesLeather) := ggX8_leather_X6_refusesLeather
set_option maxRecDepth 20000 in
theorem ggX8_leather_X1_keep : GoodIn wsX8_leather wsX1_keep := goodIn_r _ [22, 23, 24, 25, 26, 27, 28, 29, 30, 7, 31, 32, 33, 34, 35, 36, 37, 38, 10, 39, 40, 41, 42, 43, 44, 45, 46, 47, 48, 49, 50, 51, 52, 53, 54, 55, 56, 57, 58, 59, 60, 61, 62, 63, 64, 65, 66, 67, 68, 69, 70, 71, 72, 73, 74, 75, 76, 77, 78, 79, 80, 81, 82, 83, 84, 85, 116, 117, 118, 105, 106, 107, 108, 109, 110, 111, 119, 120, 121, 122, 123, 124, 125, 126, 127, 128, 129, 130, 131, 132, 133, 134, 135, 136, 137, 138, 139, 140, 141, 142, 143] (by decide +kernel) (by decide +kernel)
set_option maxRecDepth 20000 in
theorem gX8_leather_X1_keep_n65 : GoodIn wsX8_leather (wsX1_keep) := ggX8_leather_X1_keep
set_option maxRecDepth 20000 in
theorem ggX8_leather_X6_changeLeather : GoodIn wsX8_leather wsX6_changeLeather := goodIn_r _ [88, 10, 36, 37, 35, 89, 76, 90, 91, 81, 80, 83, 84, 85, 79, 92, 27, 28, 29, 93, 64, 94, 95, 72, 105, 106, 107, 108, 109, 110, 111, 138, 139, 140, 141, 142, 143, 130, 131, 132, 133, 134, 135, 136, 137] (by decide +kernel) (by decide +kernel)
set_option maxRecDepth 20000 in
theorem gX8_leather_X6_changeLeather_n150 : GoodIn wsX8_leather (wsX6_changeLeather) := ggX8_leather_X6_changeLeather
theorem dX8_leather_0 : decode cX8_leather 0 = .ok (.aload_n 0, 1) := by decide +kernel
theorem dX8_leather_1 : decode cX8_leather 1 = .ok (.getfield 10, 3) := by decide +kernel
theorem dX8_leather_4 : decode cX8_leather 4 = .ok (.aload_n 0, 1) := by decide +kernel
theorem dX8_leather_5 : decode cX8_leather 5 = .ok (.getfield 32, 3) := by decide +kernel
theorem dX8_leather_8 : decode cX8_leather 8 = .ok (.invokevirtual 145, 3) := by decide +kernel
theorem dX8_leather_11 : decode cX8_leather 11 = .ok (.ifCond .eq 13, 3) := by decide +kernel
theorem dX8_leather_14 : decode cX8_leather 14 = .ok (.new 58, 3) := by decide +kernel
theorem dX8_leather_17 : decode cX8_leather 17 = .ok (.dup, 1) := by decide +kernel
theorem dX8_leather_18 : decode cX8_leather 18 = .ok (.ldc 148, 2) := by decide +kernel
theorem dX8_leather_20 : decode cX8_leather 20 = .ok (.invokespecial 62, 3) := by decide +kernel
theorem dX8_leather_23 : decode cX8_leather 23 = .ok (.athrow, 1) := by decide +kernel
theorem dX8_leather_24 : decode cX8_leather 24 = .ok (.aload_n 0, 1) := by decide +kernel
theorem dX8_leather_25 : decode cX8_leather 25 = .ok (.getfield 25, 3) := by decide +kernel
theorem dX8_leather_28 : decode cX8_leather 28 = .ok (.aload_n 0, 1) := by decide +kernel
theorem dX8_leather_29 : decode cX8_leather 29 = .ok (.getfield 10, 3) := by decide +kernel
theorem dX8_leather_32 : decode cX8_leather 32 = .ok (.invokevirtual 65, 3) := by decide +kernel
theorem dX8_leather_35 : decode cX8_leather 35 = .ok (.aload_n 0, 1) := by decide +kernel
theorem dX8_leather_36 : decode cX8_leather 36 = .ok (.getfield 10, 3) := by decide +kernel
theorem dX8_leather_39 : decode cX8_leather 39 = .ok (.invokevirtual 150, 3) := by decide +kernel
theorem dX8_leather_42 : decode cX8_leather 42 = .ok (.ireturn, 1) := by decide +kernel
set_option maxRecDepth 20000 in
theorem ggX8_householdOf_X2_has : GoodIn wsX8_householdOf wsX2_has := goodIn_r _ [9, 10, 53, 54, 55, 56, 57, 58, 59, 60, 61] (by decide +kernel) (by decide +kernel)
set_option maxRecDepth 20000 in
theorem gX8_householdOf_X2_has_n153 : GoodIn wsX8_householdOf (wsX2_has) := ggX8_householdOf_X2_has
set_option maxRecDepth 20000 in
theorem ggX8_householdOf_X6_turnsOf : GoodIn wsX8_householdOf wsX6_turnsOf := goodIn_r _ [14, 15, 16, 17, 18, 7, 19, 20, 21, 22, 46, 47, 48, 49, 50, 51, 52, 62, 63, 64, 65, 66, 67, 68, 69, 53, 54, 55, 56, 57, 58, 59, 60, 61] (by decide +kernel) (by decide +kernel)
set_option maxRecDepth 20000 in
theorem gX8_householdOf_X6_turnsOf_n172 : GoodIn wsX8_householdOf (wsX6_turnsOf) := ggX8_householdOf_X6_turnsOf
set_option maxRecDepth 20000 in
theorem ggX8_householdOf_X6_turnsLeft : GoodIn wsX8_householdOf wsX6_turnsLeft := goodIn_r _ [25, 15, 26, 27, 28, 29, 30, 11, 13, 12, 14, 16, 17, 18, 7, 19, 20, 21, 22, 46, 47, 48, 49, 50, 51, 52, 53, 54, 55, 56, 57, 58, 59, 60, 61, 62, 63, 64, 65, 66, 67, 68, 69] (by decide +kernel) (by decide +kernel)
set_option maxRecDepth 20000 in
theorem gX8_householdOf_X6_turnsLeft_n175 : GoodIn wsX8_householdOf (wsX6_turnsLeft) := ggX8_householdOf_X6_turnsLeft
set_option maxRecDepth 20000 in
theorem ggX8_householdOf_X4_placeOf : GoodIn wsX8_householdOf wsX4_placeOf := goodIn_r _ [34, 35, 36, 70, 71] (by decide +kernel) (by decide +kernel)
set_option maxRecDepth 20000 in
theorem gX8_householdOf_X4_placeOf_n191 : GoodIn wsX8_householdOf (wsX4_placeOf) := ggX8_householdOf_X4_placeOf
theorem dX8_householdOf_0 : decode cX8_householdOf 0 = .ok (.aload_n 0, 1) := by decide +kernel
theorem dX8_householdOf_1 : decode cX8_householdOf 1 = .ok (.getfield 10, 3) := by decide +kernel
theorem dX8_householdOf_4 : decode cX8_householdOf 4 = .ok (.getfield 69, 3) := by decide +kernel
theorem dX8_householdOf_7 : decode cX8_householdOf 7 = .ok (.iload_n 1, 1) := by decide +kernel
theorem dX8_householdOf_8 : decode cX8_householdOf 8 = .ok (.invokevirtual 153, 3) := by decide +kernel
theorem dX8_householdOf_11 : decode cX8_householdOf 11 = .ok (.ifCond .ne 13, 3) := by decide +kernel
theorem dX8_householdOf_14 : decode cX8_householdOf 14 = .ok (.new 157, 3) := by decide +kernel
theorem dX8_householdOf_17 : decode cX8_householdOf 17 = .ok (.dup, 1) := by decide +kernel
theorem dX8_householdOf_18 : decode cX8_householdOf 18 = .ok (.ldc 159, 2) := by decide +kernel
theorem dX8_householdOf_20 : decode cX8_householdOf 20 = .ok (.invokespecial 161, 3) := by decide +kernel
theorem dX8_householdOf_23 : decode cX8_householdOf 23 = .ok (.athrow, 1) := by decide +kernel
theorem dX8_householdOf_24 : decode cX8_householdOf 24 = .ok (.iload_n 2, 1) := by decide +kernel
theorem dX8_householdOf_25 : decode cX8_householdOf 25 = .ok (.tableswitch 159 0 8 #[51, 64, 77, 90, 99, 108, 121, 134, 147], 51) := by decide +kernel
theorem dX8_householdOf_76 : decode cX8_householdOf 76 = .ok (.aload_n 0, 1) := by decide +kernel
theorem dX8_householdOf_77 : decode cX8_householdOf 77 = .ok (.getfield 10, 3) := by decide +kernel
theorem dX8_householdOf_80 : decode cX8_householdOf 80 = .ok (.getfield 69, 3) := by decide +kernel
theorem dX8_householdOf_83 : decode cX8_householdOf 83 = .ok (.getfield 162, 3) := by decide +kernel
theorem dX8_householdOf_86 : decode cX8_householdOf 86 = .ok (.iload_n 1, 1) := by decide +kernel
theorem dX8_householdOf_87 : decode cX8_householdOf 87 = .ok (.iaload, 1) := by decide +kernel
theorem dX8_householdOf_88 : decode cX8_householdOf 88 = .ok (.ireturn, 1) := by decide +kernel
theorem dX8_householdOf_89 : decode cX8_householdOf 89 = .ok (.aload_n 0, 1) := by decide +kernel
theorem dX8_householdOf_90 : decode cX8_householdOf 90 = .ok (.getfield 10, 3) := by decide +kernel
theorem dX8_householdOf_93 : decode cX8_householdOf 93 = .ok (.getfield 69, 3) := by decide +kernel
theorem dX8_householdOf_96 : decode cX8_householdOf 96 = .ok (.getfield 166, 3) := by decide +kernel
theorem dX8_householdOf_99 : decode cX8_householdOf 99 = .ok (.iload_n 1, 1) := by decide +kernel
theorem dX8_householdOf_100 : decode cX8_householdOf 100 = .ok (.iaload, 1) := by decide +kernel
theorem dX8_householdOf_101 : decode cX8_householdOf 101 = .ok (.ireturn, 1) := by decide +kernel
theorem dX8_householdOf_102 : decode cX8_householdOf 102 = .ok (.aload_n 0, 1) := by decide +kernel
theorem dX8_householdOf_103 : decode cX8_householdOf 103 = .ok (.getfield 10, 3) := by decide +kernel
theorem dX8_householdOf_106 : decode cX8_householdOf 106 = .ok (.getfield 69, 3) := by decide +kernel
theorem dX8_householdOf_109 : decode cX8_householdOf 109 = .ok (.getfield 169, 3) := by decide +kernel
theorem dX8_householdOf_112 : decode cX8_householdOf 112 = .ok (.iload_n 1, 1) := by decide +kernel
theorem dX8_householdOf_113 : decode cX8_householdOf 113 = .ok (.iaload, 1) := by decide +kernel
theorem dX8_householdOf_114 : decode cX8_householdOf 114 = .ok (.ireturn, 1) := by decide +kernel
theorem dX8_householdOf_115 : decode cX8_householdOf 115 = .ok (.aload_n 0, 1) := by decide +kernel
theorem dX8_householdOf_116 : decode cX8_householdOf 116 = .ok (.getfield 10, 3) := by decide +kernel
theorem dX8_householdOf_119 : decode cX8_householdOf 119 = .ok (.iload_n 1, 1) := by decide +kernel
theorem dX8_householdOf_120 : decode cX8_householdOf 120 = .ok (.invokevirtual 172, 3) := by decide +kernel
theorem dX8_householdOf_123 : decode cX8_householdOf 123 = .ok (.ireturn, 1) := by decide +kernel
theorem dX8_householdOf_124 : decode cX8_householdOf 124 = .ok (.aload_n 0, 1) := by decide +kernel
theorem dX8_householdOf_125 : decode cX8_householdOf 125 = .ok (.getfield 10, 3) := by decide +kernel
theorem dX8_householdOf_128 : decode cX8_householdOf 128 = .ok (.iload_n 1, 1) := by decide +kernel
theorem dX8_householdOf_129 : decode cX8_householdOf 129 = .ok (.invokevirtual 175, 3) := by decide +kernel
theorem dX8_householdOf_132 : decode cX8_householdOf 132 = .ok (.ireturn, 1) := by decide +kernel
theorem dX8_householdOf_133 : decode cX8_householdOf 133 = .ok (.aload_n 0, 1) := by decide +kernel
theorem dX8_householdOf_134 : decode cX8_householdOf 134 = .ok (.getfield 10, 3) := by decide +kernel
theorem dX8_householdOf_137 : decode cX8_householdOf 137 = .ok (.getfield 69, 3) := by decide +kernel
theorem dX8_householdOf_140 : decode cX8_householdOf 140 = .ok (.getfield 178, 3) := by decide +kernel
theorem dX8_householdOf_143 : decode cX8_householdOf 143 = .ok (.iload_n 1, 1) := by decide +kernel
theorem dX8_householdOf_144 : decode cX8_householdOf 144 = .ok (.iaload, 1) := by decide +kernel
theorem dX8_householdOf_145 : decode cX8_householdOf 145 = .ok (.ireturn, 1) := by decide +kernel
theorem dX8_householdOf_146 : decode cX8_householdOf 146 = .ok (.aload_n 0, 1) := by decide +kernel
theorem dX8_householdOf_147 : decode cX8_householdOf 147 = .ok (.getfield 10, 3) := by decide +kernel
theorem dX8_householdOf_150 : decode cX8_householdOf 150 = .ok (.getfield 69, 3) := by decide +kernel
theorem dX8_householdOf_153 : decode cX8_householdOf 153 = .ok (.getfield 181, 3) := by decide +kernel
theorem dX8_householdOf_156 : decode cX8_householdOf 156 = .ok (.iload_n 1, 1) := by decide +kernel
theorem dX8_householdOf_157 : decode cX8_householdOf 157 = .ok (.iaload, 1) := by decide +kernel
theorem dX8_householdOf_158 : decode cX8_householdOf 158 = .ok (.ireturn, 1) := by decide +kernel
theorem dX8_householdOf_159 : decode cX8_householdOf 159 = .ok (.aload_n 0, 1) := by decide +kernel
theorem dX8_householdOf_160 : decode cX8_householdOf 160 = .ok (.getfield 10, 3) := by decide +kernel
theorem dX8_householdOf_163 : decode cX8_householdOf 163 = .ok (.getfield 69, 3) := by decide +kernel
theorem dX8_householdOf_166 : decode cX8_householdOf 166 = .ok (.getfield 184, 3) := by decide +kernel
theorem dX8_householdOf_169 : decode cX8_householdOf 169 = .ok (.iload_n 1, 1) := by decide +kernel
theorem dX8_householdOf_170 : decode cX8_householdOf 170 = .ok (.iaload, 1) := by decide +kernel
theorem dX8_householdOf_171 : decode cX8_householdOf 171 = .ok (.ireturn, 1) := by decide +kernel
theorem dX8_householdOf_172 : decode cX8_householdOf 172 = .ok (.aload_n 0, 1) := by decide +kernel
theorem dX8_householdOf_173 : decode cX8_householdOf 173 = .ok (.getfield 10, 3) := by decide +kernel
theorem dX8_householdOf_176 : decode cX8_householdOf 176 = .ok (.getfield 187, 3) := by decide +kernel
theorem dX8_householdOf_179 : decode cX8_householdOf 179 = .ok (.iload_n 1, 1) := by decide +kernel
theorem dX8_householdOf_180 : decode cX8_householdOf 180 = .ok (.invokevirtual 191, 3) := by decide +kernel
theorem dX8_householdOf_183 : decode cX8_householdOf 183 = .ok (.ireturn, 1) := by decide +kernel
theorem dX8_householdOf_184 : decode cX8_householdOf 184 = .ok (.new 196, 3) := by decide +kernel
theorem dX8_householdOf_187 : decode cX8_householdOf 187 = .ok (.dup, 1) := by decide +kernel
theorem dX8_householdOf_188 : decode cX8_householdOf 188 = .ok (.ldc 198, 2) := by decide +kernel
theorem dX8_householdOf_190 : decode cX8_householdOf 190 = .ok (.invokespecial 200, 3) := by decide +kernel
theorem dX8_householdOf_193 : decode cX8_householdOf 193 = .ok (.athrow, 1) := by decide +kernel
set_option maxRecDepth 20000 in
theorem ggX8_at_X4_hasPlace : GoodIn wsX8_at wsX4_hasPlace := goodIn_r _ [7, 8, 25, 26] (by decide +kernel) (by decide +kernel)
set_option maxRecDepth 20000 in
theorem gX8_at_X4_hasPlace_n201 : GoodIn wsX8_at (wsX4_hasPlace) := ggX8_at_X4_hasPlace
theorem dX8_at_0 : decode cX8_at 0 = .ok (.aload_n 0, 1) := by decide +kernel
theorem dX8_at_1 : decode cX8_at 1 = .ok (.getfield 10, 3) := by decide +kernel
theorem dX8_at_4 : decode cX8_at 4 = .ok (.getfield 187, 3) := by decide +kernel
theorem dX8_at_7 : decode cX8_at 7 = .ok (.iload_n 1, 1) := by decide +kernel
theorem dX8_at_8 : decode cX8_at 8 = .ok (.invokevirtual 201, 3) := by decide +kernel
theorem dX8_at_11 : decode cX8_at 11 = .ok (.ifCond .ne 13, 3) := by decide +kernel
theorem dX8_at_14 : decode cX8_at 14 = .ok (.new 157, 3) := by decide +kernel
theorem dX8_at_17 : decode cX8_at 17 = .ok (.dup, 1) := by decide +kernel
theorem dX8_at_18 : decode cX8_at 18 = .ok (.ldc 204, 2) := by decide +kernel
theorem dX8_at_20 : decode cX8_at 20 = .ok (.invokespecial 161, 3) := by decide +kernel
theorem dX8_at_23 : decode cX8_at 23 = .ok (.athrow, 1) := by decide +kernel
theorem dX8_at_24 : decode cX8_at 24 = .ok (.aload_n 0, 1) := by decide +kernel
theorem dX8_at_25 : decode cX8_at 25 = .ok (.getfield 10, 3) := by decide +kernel
theorem dX8_at_28 : decode cX8_at 28 = .ok (.getfield 187, 3) := by decide +kernel
theorem dX8_at_31 : decode cX8_at 31 = .ok (.getfield 206, 3) := by decide +kernel
theorem dX8_at_34 : decode cX8_at 34 = .ok (.iload_n 1, 1) := by decide +kernel
theorem dX8_at_35 : decode cX8_at 35 = .ok (.iaload, 1) := by decide +kernel
theorem dX8_at_36 : decode cX8_at 36 = .ok (.ireturn, 1) := by decide +kernel
set_option maxRecDepth 20000 in
theorem ggX8_neighbours_X2_has : GoodIn wsX8_neighbours wsX2_has := goodIn_r _ [7, 8, 37, 38, 39, 40, 41, 42, 43, 44, 45] (by decide +kernel) (by decide +kernel)
set_option maxRecDepth 20000 in
theorem gX8_neighbours_X2_has_n153 : GoodIn wsX8_neighbours (wsX2_has) := ggX8_neighbours_X2_has
set_option maxRecDepth 20000 in
theorem ggX8_neighbours_X2_neighbourSet : GoodIn wsX8_neighbours wsX2_neighbourSet := goodIn_r _ [11, 8, 12, 13, 14, 5, 15, 16, 17, 18, 19, 20, 37, 38, 39, 40, 41, 42, 43, 44, 45] (by decide +kernel) (by decide +kernel)
set_option maxRecDepth 20000 in
theorem gX8_neighbours_X2_neighbourSet_n209 : GoodIn wsX8_neighbours (wsX2_neighbourSet) := ggX8_neighbours_X2_neighbourSet
theorem dX8_neighbours_0 : decode cX8_neighbours 0 = .ok (.aload_n 0, 1) := by decide +kernel
theorem dX8_neighbours_1 : decode cX8_neighbours 1 = .ok (.getfield 10, 3) := by decide +kernel
theorem dX8_neighbours_4 : decode cX8_neighbours 4 = .ok (.getfield 69, 3) := by decide +kernel
theorem dX8_neighbours_7 : decode cX8_neighbours 7 = .ok (.iload_n 1, 1) := by decide +kernel
theorem dX8_neighbours_8 : decode cX8_neighbours 8 = .ok (.invokevirtual 153, 3) := by decide +kernel
theorem dX8_neighbours_11 : decode cX8_neighbours 11 = .ok (.ifCond .ne 13, 3) := by decide +kernel
theorem dX8_neighbours_14 : decode cX8_neighbours 14 = .ok (.new 157, 3) := by decide +kernel
theorem dX8_neighbours_17 : decode cX8_neighbours 17 = .ok (.dup, 1) := by decide +kernel
theorem dX8_neighbours_18 : decode cX8_neighbours 18 = .ok (.ldc 159, 2) := by decide +kernel
theorem dX8_neighbours_20 : decode cX8_neighbours 20 = .ok (.invokespecial 161, 3) := by decide +kernel
theorem dX8_neighbours_23 : decode cX8_neighbours 23 = .ok (.athrow, 1) := by decide +kernel
theorem dX8_neighbours_24 : decode cX8_neighbours 24 = .ok (.aload_n 0, 1) := by decide +kernel
theorem dX8_neighbours_25 : decode cX8_neighbours 25 = .ok (.getfield 10, 3) := by decide +kernel
theorem dX8_neighbours_28 : decode cX8_neighbours 28 = .ok (.getfield 69, 3) := by decide +kernel
theorem dX8_neighbours_31 : decode cX8_neighbours 31 = .ok (.iload_n 1, 1) := by decide +kernel
theorem dX8_neighbours_32 : decode cX8_neighbours 32 = .ok (.invokevirtual 209, 3) := by decide +kernel
theorem dX8_neighbours_35 : decode cX8_neighbours 35 = .ok (.ireturn, 1) := by decide +kernel
set_option maxRecDepth 20000 in
theorem ggX8_quarrels_X2_has : GoodIn wsX8_quarrels wsX2_has := goodIn_r _ [7, 8, 25, 26, 27, 28, 29, 30, 31, 32, 33] (by decide +kernel) (by decide +kernel)
set_option maxRecDepth 20000 in
theorem gX8_quarrels_X2_has_n153 : GoodIn wsX8_quarrels (wsX2_has) := ggX8_quarrels_X2_has
theorem dX8_quarrels_0 : decode cX8_quarrels 0 = .ok (.aload_n 0, 1) := by decide +kernel
theorem dX8_quarrels_1 : decode cX8_quarrels 1 = .ok (.getfield 10, 3) := by decide +kernel
theorem dX8_quarrels_4 : decode cX8_quarrels 4 = .ok (.getfield 69, 3) := by decide +kernel
theorem dX8_quarrels_7 : decode cX8_quarrels 7 = .ok (.iload_n 1, 1) := by decide +kernel
theorem dX8_quarrels_8 : decode cX8_quarrels 8 = .ok (.invokevirtual 153, 3) := by decide +kernel
theorem dX8_quarrels_11 : decode cX8_quarrels 11 = .ok (.ifCond .eq 17, 3) := by decide +kernel
theorem dX8_quarrels_14 : decode cX8_quarrels 14 = .ok (.aload_n 0, 1) := by decide +kernel
theorem dX8_quarrels_15 : decode cX8_quarrels 15 = .ok (.getfield 10, 3) := by decide +kernel
theorem dX8_quarrels_18 : decode cX8_quarrels 18 = .ok (.getfield 69, 3) := by decide +kernel
theorem dX8_quarrels_21 : decode cX8_quarrels 21 = .ok (.iload_n 2, 1) := by decide +kernel
theorem dX8_quarrels_22 : decode cX8_quarrels 22 = .ok (.invokevirtual 153, 3) := by decide +kernel
theorem dX8_quarrels_25 : decode cX8_quarrels 25 = .ok (.ifCond .ne 13, 3) := by decide +kernel
theorem dX8_quarrels_28 : decode cX8_quarrels 28 = .ok (.new 157, 3) := by decide +kernel
theorem dX8_quarrels_31 : decode cX8_quarrels 31 = .ok (.dup, 1) := by decide +kernel
theorem dX8_quarrels_32 : decode cX8_quarrels 32 = .ok (.ldc 159, 2) := by decide +kernel
theorem dX8_quarrels_34 : decode cX8_quarrels 34 = .ok (.invokespecial 161, 3) := by decide +kernel
theorem dX8_quarrels_37 : decode cX8_quarrels 37 = .ok (.athrow, 1) := by decide +kernel
theorem dX8_quarrels_38 : decode cX8_quarrels 38 = .ok (.aload_n 0, 1) := by decide +kernel
theorem dX8_quarrels_39 : decode cX8_quarrels 39 = .ok (.getfield 10, 3) := by decide +kernel
theorem dX8_quarrels_42 : decode cX8_quarrels 42 = .ok (.getfield 69, 3) := by decide +kernel
theorem dX8_quarrels_45 : decode cX8_quarrels 45 = .ok (.getfield 212, 3) := by decide +kernel
theorem dX8_quarrels_48 : decode cX8_quarrels 48 = .ok (.iload_n 1, 1) := by decide +kernel
theorem dX8_quarrels_49 : decode cX8_quarrels 49 = .ok (.aaload, 1) := by decide +kernel
theorem dX8_quarrels_50 : decode cX8_quarrels 50 = .ok (.iload_n 2, 1) := by decide +kernel
theorem dX8_quarrels_51 : decode cX8_quarrels 51 = .ok (.iaload, 1) := by decide +kernel
theorem dX8_quarrels_52 : decode cX8_quarrels 52 = .ok (.ireturn, 1) := by decide +kernel
set_option maxRecDepth 20000 in
theorem ggX8_turnsBy_X2_has : GoodIn wsX8_turnsBy wsX2_has := goodIn_r _ [9, 10, 36, 37, 38, 39, 40, 41, 42, 43, 44] (by decide +kernel) (by decide +kernel)
set_option maxRecDepth 20000 in
theorem gX8_turnsBy_X2_has_n153 : GoodIn wsX8_turnsBy (wsX2_has) := ggX8_turnsBy_X2_has
set_option maxRecDepth 20000 in
theorem ggX8_turnsBy_X8_isWithin : GoodIn wsX8_turnsBy wsX8_isWithin := goodIn_r _ [14] (by decide +kernel) (by decide +kernel)
set_option maxRecDepth 20000 in
theorem gX8_turnsBy_X8_isWithin : GoodIn wsX8_turnsBy (va_wsS RX8 222 yX8_isWithin wsX8_isWithin) := goodIn_app (goodIn_of _ (by decide +kernel)) ggX8_turnsBy_X8_isWithin
set_option maxRecDepth 20000 in
theorem ggX8_turnsBy_X2_lawfulTurns : GoodIn wsX8_turnsBy wsX2_lawfulTurns := goodIn_r _ [17, 18, 19, 36, 37, 38, 39, 40, 41, 42, 43, 44] (by decide +kernel) (by decide +kernel)
set_option maxRecDepth 20000 in
theorem gX8_turnsBy_X2_lawfulTurns_n228 : GoodIn wsX8_turnsBy (wsX2_lawfulTurns) := ggX8_turnsBy_X2_lawfulTurns
theorem dX8_turnsBy_0 : decode cX8_turnsBy 0 = .ok (.aload_n 0, 1) := by decide +kernel
theorem dX8_turnsBy_1 : decode cX8_turnsBy 1 = .ok (.getfield 10, 3) := by decide +kernel
theorem dX8_turnsBy_4 : decode cX8_turnsBy 4 = .ok (.getfield 69, 3) := by decide +kernel
theorem dX8_turnsBy_7 : decode cX8_turnsBy 7 = .ok (.iload_n 1, 1) := by decide +kernel
theorem dX8_turnsBy_8 : decode cX8_turnsBy 8 = .ok (.invokevirtual 153, 3) := by decide +kernel
theorem dX8_turnsBy_11 : decode cX8_turnsBy 11 = .ok (.ifCond .ne 13, 3) := by decide +kernel
theorem dX8_turnsBy_14 : decode cX8_turnsBy 14 = .ok (.new 157, 3) := by decide +kernel
theorem dX8_turnsBy_17 : decode cX8_turnsBy 17 = .ok (.dup, 1) := by decide +kernel
theorem dX8_turnsBy_18 : decode cX8_turnsBy 18 = .ok (.ldc 159, 2) := by decide +kernel
theorem dX8_turnsBy_20 : decode cX8_turnsBy 20 = .ok (.invokespecial 161, 3) := by decide +kernel
theorem dX8_turnsBy_23 : decode cX8_turnsBy 23 = .ok (.athrow, 1) := by decide +kernel
theorem dX8_turnsBy_24 : decode cX8_turnsBy 24 = .ok (.iload_n 2, 1) := by decide +kernel
theorem dX8_turnsBy_25 : decode cX8_turnsBy 25 = .ok (.iconst 0, 1) := by decide +kernel
theorem dX8_turnsBy_26 : decode cX8_turnsBy 26 = .ok (.iconst 3, 1) := by decide +kernel
theorem dX8_turnsBy_27 : decode cX8_turnsBy 27 = .ok (.invokestatic 222, 3) := by decide +kernel
theorem dX8_turnsBy_30 : decode cX8_turnsBy 30 = .ok (.ifCond .ne 13, 3) := by decide +kernel
theorem dX8_turnsBy_33 : decode cX8_turnsBy 33 = .ok (.new 196, 3) := by decide +kernel
theorem dX8_turnsBy_36 : decode cX8_turnsBy 36 = .ok (.dup, 1) := by decide +kernel
theorem dX8_turnsBy_37 : decode cX8_turnsBy 37 = .ok (.ldc 226, 2) := by decide +kernel
theorem dX8_turnsBy_39 : decode cX8_turnsBy 39 = .ok (.invokespecial 200, 3) := by decide +kernel
theorem dX8_turnsBy_42 : decode cX8_turnsBy 42 = .ok (.athrow, 1) := by decide +kernel
theorem dX8_turnsBy_43 : decode cX8_turnsBy 43 = .ok (.aload_n 0, 1) := by decide +kernel
theorem dX8_turnsBy_44 : decode cX8_turnsBy 44 = .ok (.getfield 10, 3) := by decide +kernel
theorem dX8_turnsBy_47 : decode cX8_turnsBy 47 = .ok (.getfield 69, 3) := by decide +kernel
theorem dX8_turnsBy_50 : decode cX8_turnsBy 50 = .ok (.iload_n 1, 1) := by decide +kernel
theorem dX8_turnsBy_51 : decode cX8_turnsBy 51 = .ok (.iload_n 2, 1) := by decide +kernel
theorem dX8_turnsBy_52 : decode cX8_turnsBy 52 = .ok (.invokevirtual 228, 3) := by decide +kernel
theorem dX8_turnsBy_55 : decode cX8_turnsBy 55 = .ok (.ireturn, 1) := by decide +kernel
set_option maxRecDepth 20000 in
theorem ggX8_isFor_X2_has : GoodIn wsX8_isFor wsX2_has := goodIn_r _ [7, 8, 34, 35, 36, 37, 38, 39, 40, 41, 42] (by decide +kernel) (by decide +kernel)
set_option maxRecDepth 20000 in
theorem gX8_isFor_X2_has_n153 : GoodIn wsX8_isFor (wsX2_has) := ggX8_isFor_X2_has
set_option maxRecDepth 20000 in
theorem ggX8_isFor_X2_favouriteLaw : GoodIn wsX8_isFor wsX2_favouriteLaw := goodIn_r _ [11, 12, 13, 14, 5, 15, 16, 17, 34, 35, 36, 37, 38, 39, 40, 41, 42] (by decide +kernel) (by decide +kernel)
set_option maxRecDepth 20000 in
theorem gX8_isFor_X2_favouriteLaw_n231 : GoodIn wsX8_isFor (wsX2_favouriteLaw) := ggX8_isFor_X2_favouriteLaw
theorem dX8_isFor_0 : decode cX8_isFor 0 = .ok (.aload_n 0, 1) := by decide +kernel
theorem dX8_isFor_1 : decode cX8_isFor 1 = .ok (.getfield 10, 3) := by decide +kernel
theorem dX8_isFor_4 : decode cX8_isFor 4 = .ok (.getfield 69, 3) := by decide +kernel
theorem dX8_isFor_7 : decode cX8_isFor 7 = .ok (.iload_n 1, 1) := by decide +kernel
theorem dX8_isFor_8 : decode cX8_isFor 8 = .ok (.invokevirtual 153, 3) := by decide +kernel
theorem dX8_isFor_11 : decode cX8_isFor 11 = .ok (.ifCond .ne 13, 3) := by decide +kernel
theorem dX8_isFor_14 : decode cX8_isFor 14 = .ok (.new 157, 3) := by decide +kernel
theorem dX8_isFor_17 : decode cX8_isFor 17 = .ok (.dup, 1) := by decide +kernel
theorem dX8_isFor_18 : decode cX8_isFor 18 = .ok (.ldc 159, 2) := by decide +kernel
theorem dX8_isFor_20 : decode cX8_isFor 20 = .ok (.invokespecial 161, 3) := by decide +kernel
theorem dX8_isFor_23 : decode cX8_isFor 23 = .ok (.athrow, 1) := by decide +kernel
theorem dX8_isFor_24 : decode cX8_isFor 24 = .ok (.aload_n 0, 1) := by decide +kernel
theorem dX8_isFor_25 : decode cX8_isFor 25 = .ok (.getfield 10, 3) := by decide +kernel
theorem dX8_isFor_28 : decode cX8_isFor 28 = .ok (.getfield 69, 3) := by decide +kernel
theorem dX8_isFor_31 : decode cX8_isFor 31 = .ok (.iload_n 1, 1) := by decide +kernel
theorem dX8_isFor_32 : decode cX8_isFor 32 = .ok (.invokevirtual 231, 3) := by decide +kernel
theorem dX8_isFor_35 : decode cX8_isFor 35 = .ok (.ireturn, 1) := by decide +kernel
set_option maxRecDepth 20000 in
theorem ggX8_membersFor_X8_isWithin : GoodIn wsX8_membersFor wsX8_isWithin := goodIn_r _ [7] (by decide +kernel) (by decide +kernel)
set_option maxRecDepth 20000 in
theorem gX8_membersFor_X8_isWithin : GoodIn wsX8_membersFor (va_wsS RX8 222 yX8_isWithin wsX8_isWithin) := goodIn_app (goodIn_of _ (by decide +kernel)) ggX8_membersFor_X8_isWithin
set_option maxRecDepth 20000 in
theorem ggX8_membersFor_X2_membersBehind : GoodIn wsX8_membersFor wsX2_membersBehind := goodIn_r _ [11, 12, 13, 14, 15, 16, 9, 17, 18, 19, 20, 21, 22, 39, 40, 41, 42, 43, 44, 45, 46, 47] (by decide +kernel) (by decide +kernel)
set_option maxRecDepth 20000 in
theorem gX8_membersFor_X2_membersBehind_n234 : GoodIn wsX8_membersFor (wsX2_membersBehind) := ggX8_membersFor_X2_membersBehind
theorem dX8_membersFor_0 : decode cX8_membersFor 0 = .ok (.iload_n 1, 1) := by decide +kernel
theorem dX8_membersFor_1 : decode cX8_membersFor 1 = .ok (.iconst 0, 1) := by decide +kernel
theorem dX8_membersFor_2 : decode cX8_membersFor 2 = .ok (.iconst 3, 1) := by decide +kernel
theorem dX8_membersFor_3 : decode cX8_membersFor 3 = .ok (.invokestatic 222, 3) := by decide +kernel
theorem dX8_membersFor_6 : decode cX8_membersFor 6 = .ok (.ifCond .ne 13, 3) := by decide +kernel
theorem dX8_membersFor_9 : decode cX8_membersFor 9 = .ok (.new 196, 3) := by decide +kernel
theorem dX8_membersFor_12 : decode cX8_membersFor 12 = .ok (.dup, 1) := by decide +kernel
theorem dX8_membersFor_13 : decode cX8_membersFor 13 = .ok (.ldc 226, 2) := by decide +kernel
theorem dX8_membersFor_15 : decode cX8_membersFor 15 = .ok (.invokespecial 200, 3) := by decide +kernel
theorem dX8_membersFor_18 : decode cX8_membersFor 18 = .ok (.athrow, 1) := by decide +kernel
theorem dX8_membersFor_19 : decode cX8_membersFor 19 = .ok (.aload_n 0, 1) := by decide +kernel
theorem dX8_membersFor_20 : decode cX8_membersFor 20 = .ok (.getfield 10, 3) := by decide +kernel
theorem dX8_membersFor_23 : decode cX8_membersFor 23 = .ok (.getfield 69, 3) := by decide +kernel
theorem dX8_membersFor_26 : decode cX8_membersFor 26 = .ok (.iload_n 1, 1) := by decide +kernel
theorem dX8_membersFor_27 : decode cX8_membersFor 27 = .ok (.invokevirtual 234, 3) := by decide +kernel
theorem dX8_membersFor_30 : decode cX8_membersFor 30 = .ok (.ireturn, 1) := by decide +kernel
set_option maxRecDepth 20000 in
theorem ggX8_turnIn_X2_has : GoodIn wsX8_turnIn wsX2_has := goodIn_r _ [9, 10, 33, 34, 35, 36, 37, 38, 39, 40, 41] (by decide +kernel) (by decide +kernel)
set_option maxRecDepth 20000 in
theorem gX8_turnIn_X2_has_n153 : GoodIn wsX8_turnIn (wsX2_has) := ggX8_turnIn_X2_has
set_option maxRecDepth 20000 in
theorem ggX8_turnIn_X4_placeOf : GoodIn wsX8_turnIn wsX4_placeOf := goodIn_r _ [14, 15, 16, 42, 43] (by decide +kernel) (by decide +kernel)
set_option maxRecDepth 20000 in
theorem gX8_turnIn_X4_placeOf_n191 : GoodIn wsX8_turnIn (wsX4_placeOf) := ggX8_turnIn_X4_placeOf
theorem dX8_turnIn_0 : decode cX8_turnIn 0 = .ok (.aload_n 0, 1) := by decide +kernel
theorem dX8_turnIn_1 : decode cX8_turnIn 1 = .ok (.getfield 10, 3) := by decide +kernel
theorem dX8_turnIn_4 : decode cX8_turnIn 4 = .ok (.getfield 69, 3) := by decide +kernel
theorem dX8_turnIn_7 : decode cX8_turnIn 7 = .ok (.iload_n 1, 1) := by decide +kernel
theorem dX8_turnIn_8 : decode cX8_turnIn 8 = .ok (.invokevirtual 153, 3) := by decide +kernel
theorem dX8_turnIn_11 : decode cX8_turnIn 11 = .ok (.ifCond .ne 13, 3) := by decide +kernel
theorem dX8_turnIn_14 : decode cX8_turnIn 14 = .ok (.new 157, 3) := by decide +kernel
theorem dX8_turnIn_17 : decode cX8_turnIn 17 = .ok (.dup, 1) := by decide +kernel
theorem dX8_turnIn_18 : decode cX8_turnIn 18 = .ok (.ldc 159, 2) := by decide +kernel
theorem dX8_turnIn_20 : decode cX8_turnIn 20 = .ok (.invokespecial 161, 3) := by decide +kernel
theorem dX8_turnIn_23 : decode cX8_turnIn 23 = .ok (.athrow, 1) := by decide +kernel
theorem dX8_turnIn_24 : decode cX8_turnIn 24 = .ok (.aload_n 0, 1) := by decide +kernel
theorem dX8_turnIn_25 : decode cX8_turnIn 25 = .ok (.getfield 10, 3) := by decide +kernel
theorem dX8_turnIn_28 : decode cX8_turnIn 28 = .ok (.getfield 187, 3) := by decide +kernel
theorem dX8_turnIn_31 : decode cX8_turnIn 31 = .ok (.iload_n 1, 1) := by decide +kernel
theorem dX8_turnIn_32 : decode cX8_turnIn 32 = .ok (.invokevirtual 191, 3) := by decide +kernel
theorem dX8_turnIn_35 : decode cX8_turnIn 35 = .ok (.istore_n 2, 1) := by decide +kernel
theorem dX8_turnIn_36 : decode cX8_turnIn 36 = .ok (.iload_n 2, 1) := by decide +kernel
theorem dX8_turnIn_37 : decode cX8_turnIn 37 = .ok (.iconst (-1), 1) := by decide +kernel
theorem dX8_turnIn_38 : decode cX8_turnIn 38 = .ok (.if_icmp .ne 13, 3) := by decide +kernel
theorem dX8_turnIn_41 : decode cX8_turnIn 41 = .ok (.new 237, 3) := by decide +kernel
theorem dX8_turnIn_44 : decode cX8_turnIn 44 = .ok (.dup, 1) := by decide +kernel
theorem dX8_turnIn_45 : decode cX8_turnIn 45 = .ok (.ldc 239, 2) := by decide +kernel
theorem dX8_turnIn_47 : decode cX8_turnIn 47 = .ok (.invokespecial 241, 3) := by decide +kernel
theorem dX8_turnIn_50 : decode cX8_turnIn 50 = .ok (.athrow, 1) := by decide +kernel
theorem dX8_turnIn_51 : decode cX8_turnIn 51 = .ok (.iload_n 2, 1) := by decide +kernel
theorem dX8_turnIn_52 : decode cX8_turnIn 52 = .ok (.iconst 1, 1) := by decide +kernel
theorem dX8_turnIn_53 : decode cX8_turnIn 53 = .ok (.iadd, 1) := by decide +kernel
theorem dX8_turnIn_54 : decode cX8_turnIn 54 = .ok (.ireturn, 1) := by decide +kernel
set_option maxRecDepth 20000 in
theorem ggX8_possible_X6_drawsInQueue : GoodIn wsX8_possible wsX6_drawsInQueue := goodIn_r _ [5, 6, 7, 8, 9, 3, 10, 11, 12, 13, 14, 15, 16, 17, 18, 19, 20, 21, 22, 23, 24, 25, 26, 27, 37, 38, 39, 40, 41, 42, 43, 44, 45, 46, 47, 48, 49, 50, 51, 52, 53, 54, 55, 56, 57, 58, 59, 60, 61, 62] (by decide +kernel) (by decide +kernel)
set_option maxRecDepth 20000 in
theorem gX8_possible_X6_drawsInQueue_n242 : GoodIn wsX8_possible (wsX6_drawsInQueue) := ggX8_possible_X6_drawsInQueue
theorem dX8_possible_0 : decode cX8_possible 0 = .ok (.aload_n 0, 1) := by decide +kernel
theorem dX8_possible_1 : decode cX8_possible 1 = .ok (.getfield 10, 3) := by decide +kernel
theorem dX8_possible_4 : decode cX8_possible 4 = .ok (.invokevirtual 242, 3) := by decide +kernel
theorem dX8_possible_7 : decode cX8_possible 7 = .ok (.ireturn, 1) := by decide +kernel
theorem dX8_water_0 : decode cX8_water 0 = .ok (.aload_n 0, 1) := by decide +kernel
theorem dX8_water_1 : decode cX8_water 1 = .ok (.getfield 10, 3) := by decide +kernel
theorem dX8_water_4 : decode cX8_water 4 = .ok (.getfield 120, 3) := by decide +kernel
theorem dX8_water_7 : decode cX8_water 7 = .ok (.getfield 262, 3) := by decide +kernel
theorem dX8_water_10 : decode cX8_water 10 = .ok (.aload_n 0, 1) := by decide +kernel
theorem dX8_water_11 : decode cX8_water 11 = .ok (.getfield 10, 3) := by decide +kernel
theorem dX8_water_14 : decode cX8_water 14 = .ok (.getfield 120, 3) := by decide +kernel
theorem dX8_water_17 : decode cX8_water 17 = .ok (.getfield 265, 3) := by decide +kernel
theorem dX8_water_20 : decode cX8_water 20 = .ok (.iadd, 1) := by decide +kernel
theorem dX8_water_21 : decode cX8_water 21 = .ok (.aload_n 0, 1) := by decide +kernel
theorem dX8_water_22 : decode cX8_water 22 = .ok (.getfield 10, 3) := by decide +kernel
theorem dX8_water_25 : decode cX8_water 25 = .ok (.getfield 120, 3) := by decide +kernel
theorem dX8_water_28 : decode cX8_water 28 = .ok (.getfield 268, 3) := by decide +kernel
theorem dX8_water_31 : decode cX8_water 31 = .ok (.iadd, 1) := by decide +kernel
theorem dX8_water_32 : decode cX8_water 32 = .ok (.ireturn, 1) := by decide +kernel
theorem dX8_waterAgain_0 : decode cX8_waterAgain 0 = .ok (.sipush 500, 3) := by decide +kernel
theorem dX8_waterAgain_3 : decode cX8_waterAgain 3 = .ok (.aload_n 0, 1) := by decide +kernel
theorem dX8_waterAgain_4 : decode cX8_waterAgain 4 = .ok (.getfield 10, 3) := by decide +kernel
theorem dX8_waterAgain_7 : decode cX8_waterAgain 7 = .ok (.getfield 120, 3) := by decide +kernel
theorem dX8_waterAgain_10 : decode cX8_waterAgain 10 = .ok (.getfield 271, 3) := by decide +kernel
theorem dX8_waterAgain_13 : decode cX8_waterAgain 13 = .ok (.iadd, 1) := by decide +kernel
theorem dX8_waterAgain_14 : decode cX8_waterAgain 14 = .ok (.ireturn, 1) := by decide +kernel
theorem dX8_account_0 : decode cX8_account 0 = .ok (.iload_n 1, 1) := by decide +kernel
theorem dX8_account_1 : decode cX8_account 1 = .ok (.tableswitch 248 0 15 #[79, 87, 98, 109, 120, 131, 142, 153, 164, 175, 183, 191, 202, 221, 232, 240], 79) := by decide +kernel
theorem dX8_account_80 : decode cX8_account 80 = .ok (.aload_n 0, 1) := by decide +kernel
theorem dX8_account_81 : decode cX8_account 81 = .ok (.getfield 10, 3) := by decide +kernel
theorem dX8_account_84 : decode cX8_account 84 = .ok (.getfield 367, 3) := by decide +kernel
theorem dX8_account_87 : decode cX8_account 87 = .ok (.ireturn, 1) := by decide +kernel
theorem dX8_account_88 : decode cX8_account 88 = .ok (.aload_n 0, 1) := by decide +kernel
theorem dX8_account_89 : decode cX8_account 89 = .ok (.getfield 10, 3) := by decide +kernel
theorem dX8_account_92 : decode cX8_account 92 = .ok (.getfield 69, 3) := by decide +kernel
theorem dX8_account_95 : decode cX8_account 95 = .ok (.getfield 354, 3) := by decide +kernel
theorem dX8_account_98 : decode cX8_account 98 = .ok (.ireturn, 1) := by decide +kernel
theorem dX8_account_99 : decode cX8_account 99 = .ok (.aload_n 0, 1) := by decide +kernel
theorem dX8_account_100 : decode cX8_account 100 = .ok (.getfield 10, 3) := by decide +kernel
theorem dX8_account_103 : decode cX8_account 103 = .ok (.getfield 187, 3) := by decide +kernel
theorem dX8_account_106 : decode cX8_account 106 = .ok (.getfield 370, 3) := by decide +kernel
theorem dX8_account_109 : decode cX8_account 109 = .ok (.ireturn, 1) := by decide +kernel
theorem dX8_account_110 : decode cX8_account 110 = .ok (.aload_n 0, 1) := by decide +kernel
theorem dX8_account_111 : decode cX8_account 111 = .ok (.getfield 10, 3) := by decide +kernel
theorem dX8_account_114 : decode cX8_account 114 = .ok (.getfield 120, 3) := by decide +kernel
theorem dX8_account_117 : decode cX8_account 117 = .ok (.getfield 262, 3) := by decide +kernel
theorem dX8_account_120 : decode cX8_account 120 = .ok (.ireturn, 1) := by decide +kernel
theorem dX8_account_121 : decode cX8_account 121 = .ok (.aload_n 0, 1) := by decide +kernel
theorem dX8_account_122 : decode cX8_account 122 = .ok (.getfield 10, 3) := by decide +kernel
theorem dX8_account_125 : decode cX8_account 125 = .ok (.getfield 120, 3) := by decide +kernel
theorem dX8_account_128 : decode cX8_account 128 = .ok (.getfield 265, 3) := by decide +kernel
theorem dX8_account_131 : decode cX8_account 131 = .ok (.ireturn, 1) := by decide +kernel
theorem dX8_account_132 : decode cX8_account 132 = .ok (.aload_n 0, 1) := by decide +kernel
theorem dX8_account_133 : decode cX8_account 133 = .ok (.getfield 10, 3) := by decide +kernel
theorem dX8_account_136 : decode cX8_account 136 = .ok (.getfield 120, 3) := by decide +kernel
theorem dX8_account_139 : decode cX8_account 139 = .ok (.getfield 268, 3) := by decide +kernel
theorem dX8_account_142 : decode cX8_account 142 = .ok (.ireturn, 1) := by decide +kernel
theorem dX8_account_143 : decode cX8_account 143 = .ok (.aload_n 0, 1) := by decide +kernel
theorem dX8_account_144 : decode cX8_account 144 = .ok (.getfield 10, 3) := by decide +kernel
theorem dX8_account_147 : decode cX8_account 147 = .ok (.getfield 120, 3) := by decide +kernel
theorem dX8_account_150 : decode cX8_account 150 = .ok (.getfield 371, 3) := by decide +kernel
theorem dX8_account_153 : decode cX8_account 153 = .ok (.ireturn, 1) := by decide +kernel
theorem dX8_account_154 : decode cX8_account 154 = .ok (.aload_n 0, 1) := by decide +kernel
theorem dX8_account_155 : decode cX8_account 155 = .ok (.getfield 10, 3) := by decide +kernel
theorem dX8_account_158 : decode cX8_account 158 = .ok (.getfield 69, 3) := by decide +kernel
theorem dX8_account_161 : decode cX8_account 161 = .ok (.getfield 373, 3) := by decide +kernel
theorem dX8_account_164 : decode cX8_account 164 = .ok (.ireturn, 1) := by decide +kernel
theorem dX8_account_165 : decode cX8_account 165 = .ok (.aload_n 0, 1) := by decide +kernel
theorem dX8_account_166 : decode cX8_account 166 = .ok (.getfield 10, 3) := by decide +kernel
theorem dX8_account_169 : decode cX8_account 169 = .ok (.getfield 120, 3) := by decide +kernel
theorem dX8_account_172 : decode cX8_account 172 = .ok (.getfield 376, 3) := by decide +kernel
theorem dX8_account_175 : decode cX8_account 175 = .ok (.ireturn, 1) := by decide +kernel
theorem dX8_account_176 : decode cX8_account 176 = .ok (.aload_n 0, 1) := by decide +kernel
theorem dX8_account_177 : decode cX8_account 177 = .ok (.getfield 10, 3) := by decide +kernel
theorem dX8_account_180 : decode cX8_account 180 = .ok (.getfield 142, 3) := by decide +kernel
theorem dX8_account_183 : decode cX8_account 183 = .ok (.ireturn, 1) := by decide +kernel
theorem dX8_account_184 : decode cX8_account 184 = .ok (.aload_n 0, 1) := by decide +kernel
theorem dX8_account_185 : decode cX8_account 185 = .ok (.getfield 10, 3) := by decide +kernel
theorem dX8_account_188 : decode cX8_account 188 = .ok (.getfield 379, 3) := by decide +kernel
theorem dX8_account_191 : decode cX8_account 191 = .ok (.ireturn, 1) := by decide +kernel
theorem dX8_account_192 : decode cX8_account 192 = .ok (.aload_n 0, 1) := by decide +kernel
theorem dX8_account_193 : decode cX8_account 193 = .ok (.getfield 10, 3) := by decide +kernel
theorem dX8_account_196 : decode cX8_account 196 = .ok (.getfield 120, 3) := by decide +kernel
theorem dX8_account_199 : decode cX8_account 199 = .ok (.getfield 382, 3) := by decide +kernel
theorem dX8_account_202 : decode cX8_account 202 = .ok (.ireturn, 1) := by decide +kernel
theorem dX8_account_203 : decode cX8_account 203 = .ok (.aload_n 0, 1) := by decide +kernel
theorem dX8_account_204 : decode cX8_account 204 = .ok (.getfield 10, 3) := by decide +kernel
theorem dX8_account_207 : decode cX8_account 207 = .ok (.getfield 120, 3) := by decide +kernel
theorem dX8_account_210 : decode cX8_account 210 = .ok (.getfield 385, 3) := by decide +kernel
theorem dX8_account_213 : decode cX8_account 213 = .ok (.ifCond .eq 7, 3) := by decide +kernel
theorem dX8_account_216 : decode cX8_account 216 = .ok (.iconst 1, 1) := by decide +kernel
theorem dX8_account_217 : decode cX8_account 217 = .ok (.goto 4, 3) := by decide +kernel
theorem dX8_account_220 : decode cX8_account 220 = .ok (.iconst 0, 1) := by decide +kernel
theorem dX8_account_221 : decode cX8_account 221 = .ok (.ireturn, 1) := by decide +kernel
theorem dX8_account_222 : decode cX8_account 222 = .ok (.aload_n 0, 1) := by decide +kernel
theorem dX8_account_223 : decode cX8_account 223 = .ok (.getfield 10, 3) := by decide +kernel
theorem dX8_account_226 : decode cX8_account 226 = .ok (.getfield 333, 3) := by decide +kernel
theorem dX8_account_229 : decode cX8_account 229 = .ok (.getfield 389, 3) := by decide +kernel
theorem dX8_account_232 : decode cX8_account 232 = .ok (.ireturn, 1) := by decide +kernel
theorem dX8_account_233 : decode cX8_account 233 = .ok (.aload_n 0, 1) := by decide +kernel
theorem dX8_account_234 : decode cX8_account 234 = .ok (.getfield 25, 3) := by decide +kernel
theorem dX8_account_237 : decode cX8_account 237 = .ok (.getfield 390, 3) := by decide +kernel
theorem dX8_account_240 : decode cX8_account 240 = .ok (.ireturn, 1) := by decide +kernel
theorem dX8_account_241 : decode cX8_account 241 = .ok (.aload_n 0, 1) := by decide +kernel
theorem dX8_account_242 : decode cX8_account 242 = .ok (.getfield 39, 3) := by decide +kernel
theorem dX8_account_245 : decode cX8_account 245 = .ok (.getfield 287, 3) := by decide +kernel
theorem dX8_account_248 : decode cX8_account 248 = .ok (.ireturn, 1) := by decide +kernel
theorem dX8_account_249 : decode cX8_account 249 = .ok (.new 196, 3) := by decide +kernel
theorem dX8_account_252 : decode cX8_account 252 = .ok (.dup, 1) := by decide +kernel
theorem dX8_account_253 : decode cX8_account 253 = .ok (.ldc_w 391, 3) := by decide +kernel
theorem dX8_account_256 : decode cX8_account 256 = .ok (.invokespecial 200, 3) := by decide +kernel
theorem dX8_account_259 : decode cX8_account 259 = .ok (.athrow, 1) := by decide +kernel
theorem dX8_isWithin_0 : decode cX8_isWithin 0 = .ok (.iload_n 0, 1) := by decide +kernel
theorem dX8_isWithin_1 : decode cX8_isWithin 1 = .ok (.iload_n 1, 1) := by decide +kernel
theorem dX8_isWithin_2 : decode cX8_isWithin 2 = .ok (.if_icmp .lt 12, 3) := by decide +kernel
theorem dX8_isWithin_5 : decode cX8_isWithin 5 = .ok (.iload_n 0, 1) := by decide +kernel
theorem dX8_isWithin_6 : decode cX8_isWithin 6 = .ok (.iload_n 2, 1) := by decide +kernel
theorem dX8_isWithin_7 : decode cX8_isWithin 7 = .ok (.if_icmp .gt 7, 3) := by decide +kernel
theorem dX8_isWithin_10 : decode cX8_isWithin 10 = .ok (.iconst 1, 1) := by decide +kernel
theorem dX8_isWithin_11 : decode cX8_isWithin 11 = .ok (.goto 4, 3) := by decide +kernel
theorem dX8_isWithin_14 : decode cX8_isWithin 14 = .ok (.iconst 0, 1) := by decide +kernel
theorem dX8_isWithin_15 : decode cX8_isWithin 15 = .ok (.ireturn, 1) := by decide +kernel
set_option maxRecDepth 20000 in
theorem ggJ5_init_d00df_J2_newBytesFor_77867 : GoodIn wsJ5_init_d00df wsJ2_newBytesFor_77867 := goodIn_r _ [11, 5, 12, 13, 10, 14, 15] (by decide +kernel) (by decide +kernel)
set_option maxRecDepth 20000 in
theorem gJ5_init_d00df_J2_newBytesFor_77867 : GoodIn wsJ5_init_d00df (va_wsS RJ5 26 yJ2_newBytesFor_77867 wsJ2_newBytesFor_77867) := goodIn_app (goodIn_of _ (by decide +kernel)) ggJ5_init_d00df_J2_newBytesFor_77867
theorem dJ5_init_d00df_0 : decode cJ5_init_d00df 0 = .ok (.aload_n 0, 1) := by decide +kernel
theorem dJ5_init_d00df_1 : decode cJ5_init_d00df 1 = .ok (.invokespecial 3, 3) := by decide +kernel
theorem dJ5_init_d00df_4 : decode cJ5_init_d00df 4 = .ok (.getstatic 18, 3) := by decide +kernel
theorem dJ5_init_d00df_7 : decode cJ5_init_d00df 7 = .ok (.ifCond .eq 18, 3) := by decide +kernel
theorem dJ5_init_d00df_10 : decode cJ5_init_d00df 10 = .ok (.aload_n 0, 1) := by decide +kernel
theorem dJ5_init_d00df_11 : decode cJ5_init_d00df 11 = .ok (.iload_n 1, 1) := by decide +kernel
theorem dJ5_init_d00df_12 : decode cJ5_init_d00df 12 = .ok (.newarray .byte, 2) := by decide +kernel
theorem dJ5_init_d00df_14 : decode cJ5_init_d00df 14 = .ok (.putfield 15, 3) := by decide +kernel
theorem dJ5_init_d00df_17 : decode cJ5_init_d00df 17 = .ok (.aload_n 0, 1) := by decide +kernel
theorem dJ5_init_d00df_18 : decode cJ5_init_d00df 18 = .ok (.iconst 0, 1) := by decide +kernel
theorem dJ5_init_d00df_19 : decode cJ5_init_d00df 19 = .ok (.putfield 22, 3) := by decide +kernel
theorem dJ5_init_d00df_22 : decode cJ5_init_d00df 22 = .ok (.goto 16, 3) := by decide +kernel
theorem dJ5_init_d00df_25 : decode cJ5_init_d00df 25 = .ok (.aload_n 0, 1) := by decide +kernel
theorem dJ5_init_d00df_26 : decode cJ5_init_d00df 26 = .ok (.iload_n 1, 1) := by decide +kernel
theorem dJ5_init_d00df_27 : decode cJ5_init_d00df 27 = .ok (.invokestatic 26, 3) := by decide +kernel
theorem dJ5_init_d00df_30 : decode cJ5_init_d00df 30 = .ok (.putfield 15, 3) := by decide +kernel
theorem dJ5_init_d00df_33 : decode cJ5_init_d00df 33 = .ok (.aload_n 0, 1) := by decide +kernel
theorem dJ5_init_d00df_34 : decode cJ5_init_d00df 34 = .ok (.iconst 1, 1) := by decide +kernel
theorem dJ5_init_d00df_35 : decode cJ5_init_d00df 35 = .ok (.putfield 22, 3) := by decide +kernel
theorem dJ5_init_d00df_38 : decode cJ5_init_d00df 38 = .ok (.return_, 1) := by decide +kernel
theorem dJ9_abs_0f7a4_0 : decode cJ9_abs_0f7a4 0 = .ok (.iload_n 0, 1) := by decide +kernel
theorem dJ9_abs_0f7a4_1 : decode cJ9_abs_0f7a4 1 = .ok (.ifCond .ge 8, 3) := by decide +kernel
theorem dJ9_abs_0f7a4_4 : decode cJ9_abs_0f7a4 4 = .ok (.iload_n 0, 1) := by decide +kernel
theorem dJ9_abs_0f7a4_5 : decode cJ9_abs_0f7a4 5 = .ok (.ineg, 1) := by decide +kernel
theorem dJ9_abs_0f7a4_6 : decode cJ9_abs_0f7a4 6 = .ok (.goto 4, 3) := by decide +kernel
theorem dJ9_abs_0f7a4_9 : decode cJ9_abs_0f7a4 9 = .ok (.iload_n 0, 1) := by decide +kernel
theorem dJ9_abs_0f7a4_10 : decode cJ9_abs_0f7a4 10 = .ok (.ireturn, 1) := by decide +kernel
theorem dJ9_max_7cf53_0 : decode cJ9_max_7cf53 0 = .ok (.iload_n 0, 1) := by decide +kernel
theorem dJ9_max_7cf53_1 : decode cJ9_max_7cf53 1 = .ok (.iload_n 1, 1) := by decide +kernel
theorem dJ9_max_7cf53_2 : decode cJ9_max_7cf53 2 = .ok (.if_icmp .lt 7, 3) := by decide +kernel
theorem dJ9_max_7cf53_5 : decode cJ9_max_7cf53 5 = .ok (.iload_n 0, 1) := by decide +kernel
theorem dJ9_max_7cf53_6 : decode cJ9_max_7cf53 6 = .ok (.goto 4, 3) := by decide +kernel
theorem dJ9_max_7cf53_9 : decode cJ9_max_7cf53 9 = .ok (.iload_n 1, 1) := by decide +kernel
theorem dJ9_max_7cf53_10 : decode cJ9_max_7cf53 10 = .ok (.ireturn, 1) := by decide +kernel
theorem dJ9_min_7cf53_0 : decode cJ9_min_7cf53 0 = .ok (.iload_n 0, 1) := by decide +kernel
theorem dJ9_min_7cf53_1 : decode cJ9_min_7cf53 1 = .ok (.iload_n 1, 1) := by decide +kernel
theorem dJ9_min_7cf53_2 : decode cJ9_min_7cf53 2 = .ok (.if_icmp .gt 7, 3) := by decide +kernel
theorem dJ9_min_7cf53_5 : decode cJ9_min_7cf53 5 = .ok (.iload_n 0, 1) := by decide +kernel
theorem dJ9_min_7cf53_6 : decode cJ9_min_7cf53 6 = .ok (.goto 4, 3) := by decide +kernel
theorem dJ9_min_7cf53_9 : decode cJ9_min_7cf53 9 = .ok (.iload_n 1, 1) := by decide +kernel
theorem dJ9_min_7cf53_10 : decode cJ9_min_7cf53 10 = .ok (.ireturn, 1) := by decide +kernel
set_option maxRecDepth 20000 in
theorem ggJ4_init_da8c8_J5_init_d00df : GoodIn wsJ4_init_da8c8 wsJ5_init_d00df := goodIn_r _ [4, 5, 6, 7, 8, 9, 10, 11, 12, 13, 14, 15, 16, 17, 18, 19, 20, 21, 22, 23] (by decide +kernel) (by decide +kernel)
set_option maxRecDepth 20000 in
theorem gJ4_init_da8c8_J5_init_d00df : GoodIn wsJ4_init_da8c8 (wsJ5_init_d00df) := ggJ4_init_da8c8_J5_init_d00df
theorem dJ4_init_da8c8_0 : decode cJ4_init_da8c8 0 = .ok (.aload_n 0, 1) := by decide +kernel
theorem dJ4_init_da8c8_1 : decode cJ4_init_da8c8 1 = .ok (.bipush 16, 2) := by decide +kernel
theorem dJ4_init_da8c8_3 : decode cJ4_init_da8c8 3 = .ok (.invokespecial 1, 3) := by decide +kernel
theorem dJ4_init_da8c8_6 : decode cJ4_init_da8c8 6 = .ok (.return_, 1) := by decide +kernel
set_option maxRecDepth 20000 in
theorem ggJ2_newBytesFor_77867_J2_newBytesLength_0f7a4 : GoodIn wsJ2_newBytesFor_77867 wsJ2_newBytesLength_0f7a4 := goodIn_r _ [5, 6] (by decide +kernel) (by decide +kernel)
set_option maxRecDepth 20000 in
theorem gJ2_newBytesFor_77867_J2_newBytesLength_0f7a4 : GoodIn wsJ2_newBytesFor_77867 (va_wsS RJ2 11 yJ2_newBytesLength_0f7a4 wsJ2_newBytesLength_0f7a4) := goodIn_app (goodIn_of _ (by decide +kernel)) ggJ2_newBytesFor_77867_J2_newBytesLength_0f7a4
theorem dJ2_newBytesFor_77867_0 : decode cJ2_newBytesFor_77867 0 = .ok (.iload_n 0, 1) := by decide +kernel
theorem dJ2_newBytesFor_77867_1 : decode cJ2_newBytesFor_77867 1 = .ok (.invokestatic 11, 3) := by decide +kernel
theorem dJ2_newBytesFor_77867_4 : decode cJ2_newBytesFor_77867 4 = .ok (.newarray .byte, 2) := by decide +kernel
theorem dJ2_newBytesFor_77867_6 : decode cJ2_newBytesFor_77867 6 = .ok (.areturn, 1) := by decide +kernel
theorem dJ2_newBytesLength_0f7a4_0 : decode cJ2_newBytesLength_0f7a4 0 = .ok (.iload_n 0, 1) := by decide +kernel
theorem dJ2_newBytesLength_0f7a4_1 : decode cJ2_newBytesLength_0f7a4 1 = .ok (.ifCond .ge 11, 3) := by decide +kernel
theorem dJ2_newBytesLength_0f7a4_4 : decode cJ2_newBytesLength_0f7a4 4 = .ok (.new 17, 3) := by decide +kernel
theorem dJ2_newBytesLength_0f7a4_7 : decode cJ2_newBytesLength_0f7a4 7 = .ok (.dup, 1) := by decide +kernel
theorem dJ2_newBytesLength_0f7a4_8 : decode cJ2_newBytesLength_0f7a4 8 = .ok (.invokespecial 19, 3) := by decide +kernel
theorem dJ2_newBytesLength_0f7a4_11 : decode cJ2_newBytesLength_0f7a4 11 = .ok (.athrow, 1) := by decide +kernel
theorem dJ2_newBytesLength_0f7a4_12 : decode cJ2_newBytesLength_0f7a4 12 = .ok (.iload_n 0, 1) := by decide +kernel
theorem dJ2_newBytesLength_0f7a4_13 : decode cJ2_newBytesLength_0f7a4 13 = .ok (.ldc 20, 2) := by decide +kernel
theorem dJ2_newBytesLength_0f7a4_15 : decode cJ2_newBytesLength_0f7a4 15 = .ok (.if_icmp .lt 40, 3) := by decide +kernel
theorem dJ2_newBytesLength_0f7a4_18 : decode cJ2_newBytesLength_0f7a4 18 = .ok (.new 21, 3) := by decide +kernel
theorem dJ2_newBytesLength_0f7a4_21 : decode cJ2_newBytesLength_0f7a4 21 = .ok (.dup, 1) := by decide +kernel
theorem dJ2_newBytesLength_0f7a4_22 : decode cJ2_newBytesLength_0f7a4 22 = .ok (.new 23, 3) := by decide +kernel
theorem dJ2_newBytesLength_0f7a4_25 : decode cJ2_newBytesLength_0f7a4 25 = .ok (.dup, 1) := by decide +kernel
theorem dJ2_newBytesLength_0f7a4_26 : decode cJ2_newBytesLength_0f7a4 26 = .ok (.invokespecial 25, 3) := by decide +kernel
theorem dJ2_newBytesLength_0f7a4_29 : decode cJ2_newBytesLength_0f7a4 29 = .ok (.ldc 26, 2) := by decide +kernel
theorem dJ2_newBytesLength_0f7a4_31 : decode cJ2_newBytesLength_0f7a4 31 = .ok (.invokevirtual 28, 3) := by decide +kernel
theorem dJ2_newBytesLength_0f7a4_34 : decode cJ2_newBytesLength_0f7a4 34 = .ok (.iload_n 0, 1) := by decide +kernel
theorem dJ2_newBytesLength_0f7a4_35 : decode cJ2_newBytesLength_0f7a4 35 = .ok (.invokevirtual 32, 3) := by decide +kernel
theorem dJ2_newBytesLength_0f7a4_38 : decode cJ2_newBytesLength_0f7a4 38 = .ok (.ldc 35, 2) := by decide +kernel
theorem dJ2_newBytesLength_0f7a4_40 : decode cJ2_newBytesLength_0f7a4 40 = .ok (.invokevirtual 28, 3) := by decide +kernel
theorem dJ2_newBytesLength_0f7a4_43 : decode cJ2_newBytesLength_0f7a4 43 = .ok (.ldc 20, 2) := by decide +kernel
theorem dJ2_newBytesLength_0f7a4_45 : decode cJ2_newBytesLength_0f7a4 45 = .ok (.invokevirtual 32, 3) := by decide +kernel
theorem dJ2_newBytesLength_0f7a4_48 : decode cJ2_newBytesLength_0f7a4 48 = .ok (.invokevirtual 37, 3) := by decide +kernel
theorem dJ2_newBytesLength_0f7a4_51 : decode cJ2_newBytesLength_0f7a4 51 = .ok (.invokespecial 41, 3) := by decide +kernel
theorem dJ2_newBytesLength_0f7a4_54 : decode cJ2_newBytesLength_0f7a4 54 = .ok (.athrow, 1) := by decide +kernel
theorem dJ2_newBytesLength_0f7a4_55 : decode cJ2_newBytesLength_0f7a4 55 = .ok (.iload_n 0, 1) := by decide +kernel
theorem dJ2_newBytesLength_0f7a4_56 : decode cJ2_newBytesLength_0f7a4 56 = .ok (.iconst 1, 1) := by decide +kernel
theorem dJ2_newBytesLength_0f7a4_57 : decode cJ2_newBytesLength_0f7a4 57 = .ok (.ishl, 1) := by decide +kernel
theorem dJ2_newBytesLength_0f7a4_58 : decode cJ2_newBytesLength_0f7a4 58 = .ok (.ireturn, 1) := by decide +kernel
