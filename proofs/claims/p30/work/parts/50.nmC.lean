set_option maxRecDepth 20000 in
theorem ggX4_init_X1_init : GoodIn wsX4_init wsX1_init := goodIn_r _ [23, 24, 2, 3, 25, 26, 27, 28, 29, 30, 31, 32, 33, 34, 35, 36, 37, 38, 39, 40, 41, 54, 55, 56, 57, 58, 59, 60, 61, 62, 63, 64, 75, 76, 77, 78, 79, 80, 81, 82, 83, 84, 85] (by decide +kernel) (by decide +kernel)
set_option maxRecDepth 20000 in
theorem gX4_init_X1_init : GoodIn wsX4_init (wsX1_init) := ggX4_init_X1_init
set_option maxRecDepth 20000 in
theorem ggX4_init_X2_init : GoodIn wsX4_init wsX2_init := goodIn_r _ [44, 45, 2, 3, 46, 72] (by decide +kernel) (by decide +kernel)
set_option maxRecDepth 20000 in
theorem gX4_init_X2_init : GoodIn wsX4_init (wsX2_init) := ggX4_init_X2_init
set_option maxRecDepth 20000 in
theorem ggX4_init_X0_init : GoodIn wsX4_init wsX0_init := goodIn_r _ [49, 50, 2, 3, 51, 52, 5, 6, 53, 22, 23, 24, 25, 26, 27, 28, 29, 30, 31, 32, 33, 34, 35, 36, 37, 38, 39, 40, 41, 73, 74, 54, 55, 56, 57, 58, 59, 60, 61, 62, 63, 64, 75, 76, 77, 78, 79, 80, 81, 82, 83, 84, 85] (by decide +kernel) (by decide +kernel)
set_option maxRecDepth 20000 in
theorem gX4_init_X0_init : GoodIn wsX4_init (wsX0_init) := ggX4_init_X0_init
theorem dX4_init_0 : decode cX4_init 0 = .ok (.aload_n 0, 1) := by decide +kernel
theorem dX4_init_1 : decode cX4_init 1 = .ok (.invokespecial 1, 3) := by decide +kernel
theorem dX4_init_4 : decode cX4_init 4 = .ok (.aload_n 0, 1) := by decide +kernel
theorem dX4_init_5 : decode cX4_init 5 = .ok (.new 7, 3) := by decide +kernel
theorem dX4_init_8 : decode cX4_init 8 = .ok (.dup, 1) := by decide +kernel
theorem dX4_init_9 : decode cX4_init 9 = .ok (.invokespecial 9, 3) := by decide +kernel
theorem dX4_init_12 : decode cX4_init 12 = .ok (.putfield 10, 3) := by decide +kernel
theorem dX4_init_15 : decode cX4_init 15 = .ok (.aload_n 0, 1) := by decide +kernel
theorem dX4_init_16 : decode cX4_init 16 = .ok (.new 16, 3) := by decide +kernel
theorem dX4_init_19 : decode cX4_init 19 = .ok (.dup, 1) := by decide +kernel
theorem dX4_init_20 : decode cX4_init 20 = .ok (.aload_n 0, 1) := by decide +kernel
theorem dX4_init_21 : decode cX4_init 21 = .ok (.getfield 10, 3) := by decide +kernel
theorem dX4_init_24 : decode cX4_init 24 = .ok (.invokespecial 18, 3) := by decide +kernel
theorem dX4_init_27 : decode cX4_init 27 = .ok (.putfield 21, 3) := by decide +kernel
theorem dX4_init_30 : decode cX4_init 30 = .ok (.aload_n 0, 1) := by decide +kernel
theorem dX4_init_31 : decode cX4_init 31 = .ok (.new 7, 3) := by decide +kernel
theorem dX4_init_34 : decode cX4_init 34 = .ok (.dup, 1) := by decide +kernel
theorem dX4_init_35 : decode cX4_init 35 = .ok (.invokespecial 9, 3) := by decide +kernel
theorem dX4_init_38 : decode cX4_init 38 = .ok (.putfield 25, 3) := by decide +kernel
theorem dX4_init_41 : decode cX4_init 41 = .ok (.aload_n 0, 1) := by decide +kernel
theorem dX4_init_42 : decode cX4_init 42 = .ok (.new 16, 3) := by decide +kernel
theorem dX4_init_45 : decode cX4_init 45 = .ok (.dup, 1) := by decide +kernel
theorem dX4_init_46 : decode cX4_init 46 = .ok (.aload_n 0, 1) := by decide +kernel
theorem dX4_init_47 : decode cX4_init 47 = .ok (.getfield 25, 3) := by decide +kernel
theorem dX4_init_50 : decode cX4_init 50 = .ok (.invokespecial 18, 3) := by decide +kernel
theorem dX4_init_53 : decode cX4_init 53 = .ok (.putfield 28, 3) := by decide +kernel
theorem dX4_init_56 : decode cX4_init 56 = .ok (.aload_n 0, 1) := by decide +kernel
theorem dX4_init_57 : decode cX4_init 57 = .ok (.new 31, 3) := by decide +kernel
theorem dX4_init_60 : decode cX4_init 60 = .ok (.dup, 1) := by decide +kernel
theorem dX4_init_61 : decode cX4_init 61 = .ok (.invokespecial 33, 3) := by decide +kernel
theorem dX4_init_64 : decode cX4_init 64 = .ok (.putfield 34, 3) := by decide +kernel
theorem dX4_init_67 : decode cX4_init 67 = .ok (.aload_n 0, 1) := by decide +kernel
theorem dX4_init_68 : decode cX4_init 68 = .ok (.iconst 2, 1) := by decide +kernel
theorem dX4_init_69 : decode cX4_init 69 = .ok (.anewarray 7, 3) := by decide +kernel
theorem dX4_init_72 : decode cX4_init 72 = .ok (.putfield 38, 3) := by decide +kernel
theorem dX4_init_75 : decode cX4_init 75 = .ok (.iconst 0, 1) := by decide +kernel
theorem dX4_init_76 : decode cX4_init 76 = .ok (.istore_n 1, 1) := by decide +kernel
theorem dX4_init_77 : decode cX4_init 77 = .ok (.iload_n 1, 1) := by decide +kernel
theorem dX4_init_78 : decode cX4_init 78 = .ok (.iconst 2, 1) := by decide +kernel
theorem dX4_init_79 : decode cX4_init 79 = .ok (.if_icmp .ge 22, 3) := by decide +kernel
theorem dX4_init_82 : decode cX4_init 82 = .ok (.aload_n 0, 1) := by decide +kernel
theorem dX4_init_83 : decode cX4_init 83 = .ok (.getfield 38, 3) := by decide +kernel
theorem dX4_init_86 : decode cX4_init 86 = .ok (.iload_n 1, 1) := by decide +kernel
theorem dX4_init_87 : decode cX4_init 87 = .ok (.new 7, 3) := by decide +kernel
theorem dX4_init_90 : decode cX4_init 90 = .ok (.dup, 1) := by decide +kernel
theorem dX4_init_91 : decode cX4_init 91 = .ok (.invokespecial 9, 3) := by decide +kernel
theorem dX4_init_94 : decode cX4_init 94 = .ok (.aastore, 1) := by decide +kernel
theorem dX4_init_95 : decode cX4_init 95 = .ok (.iinc 1 1, 3) := by decide +kernel
theorem dX4_init_98 : decode cX4_init 98 = .ok (.goto (-21), 3) := by decide +kernel
theorem dX4_init_101 : decode cX4_init 101 = .ok (.aload_n 0, 1) := by decide +kernel
theorem dX4_init_102 : decode cX4_init 102 = .ok (.iconst 2, 1) := by decide +kernel
theorem dX4_init_103 : decode cX4_init 103 = .ok (.newarray .boolean, 2) := by decide +kernel
theorem dX4_init_105 : decode cX4_init 105 = .ok (.putfield 42, 3) := by decide +kernel
theorem dX4_init_108 : decode cX4_init 108 = .ok (.return_, 1) := by decide +kernel
set_option maxRecDepth 20000 in
theorem ggX4_addSensor_X4_inRange : GoodIn wsX4_addSensor wsX4_inRange := goodIn_r _ [9] (by decide +kernel) (by decide +kernel)
set_option maxRecDepth 20000 in
theorem gX4_addSensor_X4_inRange : GoodIn wsX4_addSensor (va_wsS RX4 46 yX4_inRange wsX4_inRange) := goodIn_app (goodIn_of _ (by decide +kernel)) ggX4_addSensor_X4_inRange
set_option maxRecDepth 20000 in
theorem ggX4_addSensor_X0_push : GoodIn wsX4_addSensor wsX0_push := goodIn_r _ [14, 15, 16, 17, 18, 19, 13, 20, 21, 22, 23, 24, 25, 26, 27, 28, 29, 30, 31, 32, 33, 34, 35, 36, 37, 38, 39, 40, 41, 42, 43, 44, 45, 46, 47, 48, 49, 50, 51, 52, 53, 54, 83, 84, 72, 73, 74, 75, 76, 77, 78, 79, 80, 81, 82, 85, 86, 87, 88, 89, 90, 91, 92, 93, 94, 95] (by decide +kernel) (by decide +kernel)
set_option maxRecDepth 20000 in
theorem gX4_addSensor_X0_push : GoodIn wsX4_addSensor (wsV RX4 55 RX0 yX0_push wsX0_push) := goodIn_app (goodIn_of _ (by decide +kernel)) ggX4_addSensor_X0_push
set_option maxRecDepth 20000 in
theorem ggX4_addSensor_X3_place : GoodIn wsX4_addSensor wsX3_place := goodIn_r _ [58, 46, 47, 48, 49, 50, 51, 52, 59, 60, 61, 44, 62, 53, 54, 63, 64, 85, 86, 87, 88, 89, 90, 91, 92, 93, 94, 95] (by decide +kernel) (by decide +kernel)
set_option maxRecDepth 20000 in
theorem gX4_addSensor_X3_place : GoodIn wsX4_addSensor (wsV RX4 62 RX3 yX3_place wsX3_place) := goodIn_app (goodIn_of _ (by decide +kernel)) ggX4_addSensor_X3_place
theorem dX4_addSensor_0 : decode cX4_addSensor 0 = .ok (.iload_n 1, 1) := by decide +kernel
theorem dX4_addSensor_1 : decode cX4_addSensor 1 = .ok (.iconst 0, 1) := by decide +kernel
theorem dX4_addSensor_2 : decode cX4_addSensor 2 = .ok (.bipush 99, 2) := by decide +kernel
theorem dX4_addSensor_4 : decode cX4_addSensor 4 = .ok (.invokestatic 46, 3) := by decide +kernel
theorem dX4_addSensor_7 : decode cX4_addSensor 7 = .ok (.ifCond .eq 23, 3) := by decide +kernel
theorem dX4_addSensor_10 : decode cX4_addSensor 10 = .ok (.iload_n 2, 1) := by decide +kernel
theorem dX4_addSensor_11 : decode cX4_addSensor 11 = .ok (.iconst 0, 1) := by decide +kernel
theorem dX4_addSensor_12 : decode cX4_addSensor 12 = .ok (.bipush 99, 2) := by decide +kernel
theorem dX4_addSensor_14 : decode cX4_addSensor 14 = .ok (.invokestatic 46, 3) := by decide +kernel
theorem dX4_addSensor_17 : decode cX4_addSensor 17 = .ok (.ifCond .eq 13, 3) := by decide +kernel
theorem dX4_addSensor_20 : decode cX4_addSensor 20 = .ok (.iload_n 3, 1) := by decide +kernel
theorem dX4_addSensor_21 : decode cX4_addSensor 21 = .ok (.iconst 0, 1) := by decide +kernel
theorem dX4_addSensor_22 : decode cX4_addSensor 22 = .ok (.ldc 50, 2) := by decide +kernel
theorem dX4_addSensor_24 : decode cX4_addSensor 24 = .ok (.invokestatic 46, 3) := by decide +kernel
theorem dX4_addSensor_27 : decode cX4_addSensor 27 = .ok (.ifCond .ne 5, 3) := by decide +kernel
theorem dX4_addSensor_30 : decode cX4_addSensor 30 = .ok (.iconst (-1), 1) := by decide +kernel
theorem dX4_addSensor_31 : decode cX4_addSensor 31 = .ok (.ireturn, 1) := by decide +kernel
theorem dX4_addSensor_32 : decode cX4_addSensor 32 = .ok (.aload_n 0, 1) := by decide +kernel
theorem dX4_addSensor_33 : decode cX4_addSensor 33 = .ok (.getfield 10, 3) := by decide +kernel
theorem dX4_addSensor_36 : decode cX4_addSensor 36 = .ok (.getfield 51, 3) := by decide +kernel
theorem dX4_addSensor_39 : decode cX4_addSensor 39 = .ok (.bipush 12, 2) := by decide +kernel
theorem dX4_addSensor_41 : decode cX4_addSensor 41 = .ok (.if_icmp .lt 6, 3) := by decide +kernel
theorem dX4_addSensor_44 : decode cX4_addSensor 44 = .ok (.bipush (-3), 2) := by decide +kernel
theorem dX4_addSensor_46 : decode cX4_addSensor 46 = .ok (.ireturn, 1) := by decide +kernel
theorem dX4_addSensor_47 : decode cX4_addSensor 47 = .ok (.aload_n 0, 1) := by decide +kernel
theorem dX4_addSensor_48 : decode cX4_addSensor 48 = .ok (.getfield 34, 3) := by decide +kernel
theorem dX4_addSensor_51 : decode cX4_addSensor 51 = .ok (.aload_n 0, 1) := by decide +kernel
theorem dX4_addSensor_52 : decode cX4_addSensor 52 = .ok (.getfield 10, 3) := by decide +kernel
theorem dX4_addSensor_55 : decode cX4_addSensor 55 = .ok (.invokevirtual 55, 3) := by decide +kernel
theorem dX4_addSensor_58 : decode cX4_addSensor 58 = .ok (.aload_n 0, 1) := by decide +kernel
theorem dX4_addSensor_59 : decode cX4_addSensor 59 = .ok (.getfield 10, 3) := by decide +kernel
theorem dX4_addSensor_62 : decode cX4_addSensor 62 = .ok (.getfield 58, 3) := by decide +kernel
theorem dX4_addSensor_65 : decode cX4_addSensor 65 = .ok (.aload_n 0, 1) := by decide +kernel
theorem dX4_addSensor_66 : decode cX4_addSensor 66 = .ok (.getfield 10, 3) := by decide +kernel
theorem dX4_addSensor_69 : decode cX4_addSensor 69 = .ok (.getfield 51, 3) := by decide +kernel
theorem dX4_addSensor_72 : decode cX4_addSensor 72 = .ok (.aaload, 1) := by decide +kernel
theorem dX4_addSensor_73 : decode cX4_addSensor 73 = .ok (.iload_n 1, 1) := by decide +kernel
theorem dX4_addSensor_74 : decode cX4_addSensor 74 = .ok (.iload_n 2, 1) := by decide +kernel
theorem dX4_addSensor_75 : decode cX4_addSensor 75 = .ok (.iload_n 3, 1) := by decide +kernel
theorem dX4_addSensor_76 : decode cX4_addSensor 76 = .ok (.invokevirtual 62, 3) := by decide +kernel
theorem dX4_addSensor_79 : decode cX4_addSensor 79 = .ok (.aload_n 0, 1) := by decide +kernel
theorem dX4_addSensor_80 : decode cX4_addSensor 80 = .ok (.getfield 10, 3) := by decide +kernel
theorem dX4_addSensor_83 : decode cX4_addSensor 83 = .ok (.dup, 1) := by decide +kernel
theorem dX4_addSensor_84 : decode cX4_addSensor 84 = .ok (.getfield 51, 3) := by decide +kernel
theorem dX4_addSensor_87 : decode cX4_addSensor 87 = .ok (.iconst 1, 1) := by decide +kernel
theorem dX4_addSensor_88 : decode cX4_addSensor 88 = .ok (.iadd, 1) := by decide +kernel
theorem dX4_addSensor_89 : decode cX4_addSensor 89 = .ok (.putfield 51, 3) := by decide +kernel
theorem dX4_addSensor_92 : decode cX4_addSensor 92 = .ok (.aload_n 0, 1) := by decide +kernel
theorem dX4_addSensor_93 : decode cX4_addSensor 93 = .ok (.getfield 10, 3) := by decide +kernel
theorem dX4_addSensor_96 : decode cX4_addSensor 96 = .ok (.getfield 51, 3) := by decide +kernel
theorem dX4_addSensor_99 : decode cX4_addSensor 99 = .ok (.iconst 1, 1) := by decide +kernel
theorem dX4_addSensor_100 : decode cX4_addSensor 100 = .ok (.isub, 1) := by decide +kernel
theorem dX4_addSensor_101 : decode cX4_addSensor 101 = .ok (.ireturn, 1) := by decide +kernel
set_option maxRecDepth 20000 in
theorem ggX4_setSetting_X4_inRange : GoodIn wsX4_setSetting wsX4_inRange := goodIn_r _ [9] (by decide +kernel) (by decide +kernel)
set_option maxRecDepth 20000 in
theorem gX4_setSetting_X4_inRange : GoodIn wsX4_setSetting (va_wsS RX4 46 yX4_inRange wsX4_inRange) := goodIn_app (goodIn_of _ (by decide +kernel)) ggX4_setSetting_X4_inRange
set_option maxRecDepth 20000 in
theorem ggX4_setSetting_X0_push : GoodIn wsX4_setSetting wsX0_push := goodIn_r _ [14, 15, 16, 17, 18, 19, 13, 20, 21, 22, 23, 24, 25, 26, 27, 28, 29, 30, 31, 32, 33, 34, 35, 36, 37, 38, 39, 40, 41, 42, 43, 44, 45, 46, 47, 48, 49, 50, 51, 52, 53, 54, 73, 74, 62, 63, 64, 65, 66, 67, 68, 69, 70, 71, 72, 75, 76, 77, 78, 79, 80, 81, 82, 83, 84, 85] (by decide +kernel) (by decide +kernel)
set_option maxRecDepth 20000 in
theorem gX4_setSetting_X0_push : GoodIn wsX4_setSetting (wsV RX4 55 RX0 yX0_push wsX0_push) := goodIn_app (goodIn_of _ (by decide +kernel)) ggX4_setSetting_X0_push
theorem dX4_setSetting_0 : decode cX4_setSetting 0 = .ok (.iload_n 1, 1) := by decide +kernel
theorem dX4_setSetting_1 : decode cX4_setSetting 1 = .ok (.iconst 0, 1) := by decide +kernel
theorem dX4_setSetting_2 : decode cX4_setSetting 2 = .ok (.iconst 5, 1) := by decide +kernel
theorem dX4_setSetting_3 : decode cX4_setSetting 3 = .ok (.invokestatic 46, 3) := by decide +kernel
theorem dX4_setSetting_6 : decode cX4_setSetting 6 = .ok (.ifCond .eq 20, 3) := by decide +kernel
theorem dX4_setSetting_9 : decode cX4_setSetting 9 = .ok (.iload_n 2, 1) := by decide +kernel
theorem dX4_setSetting_10 : decode cX4_setSetting 10 = .ok (.getstatic 74, 3) := by decide +kernel
theorem dX4_setSetting_13 : decode cX4_setSetting 13 = .ok (.iload_n 1, 1) := by decide +kernel
theorem dX4_setSetting_14 : decode cX4_setSetting 14 = .ok (.iaload, 1) := by decide +kernel
theorem dX4_setSetting_15 : decode cX4_setSetting 15 = .ok (.getstatic 78, 3) := by decide +kernel
theorem dX4_setSetting_18 : decode cX4_setSetting 18 = .ok (.iload_n 1, 1) := by decide +kernel
theorem dX4_setSetting_19 : decode cX4_setSetting 19 = .ok (.iaload, 1) := by decide +kernel
theorem dX4_setSetting_20 : decode cX4_setSetting 20 = .ok (.invokestatic 46, 3) := by decide +kernel
theorem dX4_setSetting_23 : decode cX4_setSetting 23 = .ok (.ifCond .ne 5, 3) := by decide +kernel
theorem dX4_setSetting_26 : decode cX4_setSetting 26 = .ok (.iconst (-1), 1) := by decide +kernel
theorem dX4_setSetting_27 : decode cX4_setSetting 27 = .ok (.ireturn, 1) := by decide +kernel
theorem dX4_setSetting_28 : decode cX4_setSetting 28 = .ok (.aload_n 0, 1) := by decide +kernel
theorem dX4_setSetting_29 : decode cX4_setSetting 29 = .ok (.getfield 10, 3) := by decide +kernel
theorem dX4_setSetting_32 : decode cX4_setSetting 32 = .ok (.getfield 81, 3) := by decide +kernel
theorem dX4_setSetting_35 : decode cX4_setSetting 35 = .ok (.iload_n 1, 1) := by decide +kernel
theorem dX4_setSetting_36 : decode cX4_setSetting 36 = .ok (.iaload, 1) := by decide +kernel
theorem dX4_setSetting_37 : decode cX4_setSetting 37 = .ok (.istore_n 3, 1) := by decide +kernel
theorem dX4_setSetting_38 : decode cX4_setSetting 38 = .ok (.iload_n 2, 1) := by decide +kernel
theorem dX4_setSetting_39 : decode cX4_setSetting 39 = .ok (.iload_n 3, 1) := by decide +kernel
theorem dX4_setSetting_40 : decode cX4_setSetting 40 = .ok (.if_icmp .ne 6, 3) := by decide +kernel
theorem dX4_setSetting_43 : decode cX4_setSetting 43 = .ok (.bipush (-2), 2) := by decide +kernel
theorem dX4_setSetting_45 : decode cX4_setSetting 45 = .ok (.ireturn, 1) := by decide +kernel
theorem dX4_setSetting_46 : decode cX4_setSetting 46 = .ok (.aload_n 0, 1) := by decide +kernel
theorem dX4_setSetting_47 : decode cX4_setSetting 47 = .ok (.getfield 34, 3) := by decide +kernel
theorem dX4_setSetting_50 : decode cX4_setSetting 50 = .ok (.aload_n 0, 1) := by decide +kernel
theorem dX4_setSetting_51 : decode cX4_setSetting 51 = .ok (.getfield 10, 3) := by decide +kernel
theorem dX4_setSetting_54 : decode cX4_setSetting 54 = .ok (.invokevirtual 55, 3) := by decide +kernel
theorem dX4_setSetting_57 : decode cX4_setSetting 57 = .ok (.aload_n 0, 1) := by decide +kernel
theorem dX4_setSetting_58 : decode cX4_setSetting 58 = .ok (.getfield 10, 3) := by decide +kernel
theorem dX4_setSetting_61 : decode cX4_setSetting 61 = .ok (.getfield 81, 3) := by decide +kernel
theorem dX4_setSetting_64 : decode cX4_setSetting 64 = .ok (.iload_n 1, 1) := by decide +kernel
theorem dX4_setSetting_65 : decode cX4_setSetting 65 = .ok (.iload_n 2, 1) := by decide +kernel
theorem dX4_setSetting_66 : decode cX4_setSetting 66 = .ok (.iastore, 1) := by decide +kernel
theorem dX4_setSetting_67 : decode cX4_setSetting 67 = .ok (.iload_n 3, 1) := by decide +kernel
theorem dX4_setSetting_68 : decode cX4_setSetting 68 = .ok (.ireturn, 1) := by decide +kernel
set_option maxRecDepth 20000 in
theorem ggX4_setGenerator_X0_push : GoodIn wsX4_setGenerator wsX0_push := goodIn_r _ [9, 10, 11, 12, 13, 14, 8, 15, 16, 17, 18, 19, 20, 21, 22, 23, 24, 25, 26, 27, 28, 29, 30, 31, 32, 33, 34, 35, 36, 37, 38, 39, 40, 41, 42, 43, 44, 45, 46, 47, 48, 49, 68, 69, 57, 58, 59, 60, 61, 62, 63, 64, 65, 66, 67, 70, 71, 72, 73, 74, 75, 76, 77, 78, 79, 80] (by decide +kernel) (by decide +kernel)
set_option maxRecDepth 20000 in
theorem gX4_setGenerator_X0_push : GoodIn wsX4_setGenerator (wsV RX4 55 RX0 yX0_push wsX0_push) := goodIn_app (goodIn_of _ (by decide +kernel)) ggX4_setGenerator_X0_push
theorem dX4_setGenerator_0 : decode cX4_setGenerator 0 = .ok (.iload_n 1, 1) := by decide +kernel
theorem dX4_setGenerator_1 : decode cX4_setGenerator 1 = .ok (.ifCond .ge 5, 3) := by decide +kernel
theorem dX4_setGenerator_4 : decode cX4_setGenerator 4 = .ok (.iconst (-1), 1) := by decide +kernel
theorem dX4_setGenerator_5 : decode cX4_setGenerator 5 = .ok (.ireturn, 1) := by decide +kernel
theorem dX4_setGenerator_6 : decode cX4_setGenerator 6 = .ok (.aload_n 0, 1) := by decide +kernel
theorem dX4_setGenerator_7 : decode cX4_setGenerator 7 = .ok (.getfield 34, 3) := by decide +kernel
theorem dX4_setGenerator_10 : decode cX4_setGenerator 10 = .ok (.aload_n 0, 1) := by decide +kernel
theorem dX4_setGenerator_11 : decode cX4_setGenerator 11 = .ok (.getfield 10, 3) := by decide +kernel
theorem dX4_setGenerator_14 : decode cX4_setGenerator 14 = .ok (.invokevirtual 55, 3) := by decide +kernel
theorem dX4_setGenerator_17 : decode cX4_setGenerator 17 = .ok (.aload_n 0, 1) := by decide +kernel
theorem dX4_setGenerator_18 : decode cX4_setGenerator 18 = .ok (.getfield 10, 3) := by decide +kernel
theorem dX4_setGenerator_21 : decode cX4_setGenerator 21 = .ok (.iload_n 1, 1) := by decide +kernel
theorem dX4_setGenerator_22 : decode cX4_setGenerator 22 = .ok (.putfield 84, 3) := by decide +kernel
theorem dX4_setGenerator_25 : decode cX4_setGenerator 25 = .ok (.aload_n 0, 1) := by decide +kernel
theorem dX4_setGenerator_26 : decode cX4_setGenerator 26 = .ok (.getfield 10, 3) := by decide +kernel
theorem dX4_setGenerator_29 : decode cX4_setGenerator 29 = .ok (.getfield 87, 3) := by decide +kernel
theorem dX4_setGenerator_32 : decode cX4_setGenerator 32 = .ok (.ireturn, 1) := by decide +kernel
set_option maxRecDepth 20000 in
theorem ggX4_charge_X1_has : GoodIn wsX4_charge wsX1_has := goodIn_r _ [12, 13, 68, 69, 70, 71, 72, 73, 74, 75, 76, 77, 78] (by decide +kernel) (by decide +kernel)
set_option maxRecDepth 20000 in
theorem gX4_charge_X1_has : GoodIn wsX4_charge (wsV RX4 90 RX1 yX1_has wsX1_has) := goodIn_app (goodIn_of _ (by decide +kernel)) ggX4_charge_X1_has
set_option maxRecDepth 20000 in
theorem ggX4_charge_X4_inRange : GoodIn wsX4_charge wsX4_inRange := goodIn_r _ [17] (by decide +kernel) (by decide +kernel)
set_option maxRecDepth 20000 in
theorem gX4_charge_X4_inRange : GoodIn wsX4_charge (va_wsS RX4 46 yX4_inRange wsX4_inRange) := goodIn_app (goodIn_of _ (by decide +kernel)) ggX4_charge_X4_inRange
set_option maxRecDepth 20000 in
theorem ggX4_charge_X0_push : GoodIn wsX4_charge wsX0_push := goodIn_r _ [22, 23, 24, 25, 26, 27, 21, 28, 29, 30, 31, 11, 32, 13, 33, 34, 35, 36, 37, 38, 39, 40, 41, 42, 43, 44, 45, 46, 47, 48, 49, 50, 51, 52, 53, 54, 55, 56, 57, 58, 59, 60, 90, 91, 68, 69, 70, 71, 72, 73, 74, 75, 76, 77, 78, 79, 80, 81, 82, 83, 84, 85, 86, 87, 88, 89] (by decide +kernel) (by decide +kernel)
set_option maxRecDepth 20000 in
theorem gX4_charge_X0_push : GoodIn wsX4_charge (wsV RX4 55 RX0 yX0_push wsX0_push) := goodIn_app (goodIn_of _ (by decide +kernel)) ggX4_charge_X0_push
theorem dX4_charge_0 : decode cX4_charge 0 = .ok (.aload_n 0, 1) := by decide +kernel
theorem dX4_charge_1 : decode cX4_charge 1 = .ok (.getfield 10, 3) := by decide +kernel
theorem dX4_charge_4 : decode cX4_charge 4 = .ok (.iload_n 1, 1) := by decide +kernel
theorem dX4_charge_5 : decode cX4_charge 5 = .ok (.invokevirtual 90, 3) := by decide +kernel
theorem dX4_charge_8 : decode cX4_charge 8 = .ok (.ifCond .eq 13, 3) := by decide +kernel
theorem dX4_charge_11 : decode cX4_charge 11 = .ok (.iload_n 2, 1) := by decide +kernel
theorem dX4_charge_12 : decode cX4_charge 12 = .ok (.iconst 1, 1) := by decide +kernel
theorem dX4_charge_13 : decode cX4_charge 13 = .ok (.ldc 50, 2) := by decide +kernel
theorem dX4_charge_15 : decode cX4_charge 15 = .ok (.invokestatic 46, 3) := by decide +kernel
theorem dX4_charge_18 : decode cX4_charge 18 = .ok (.ifCond .ne 5, 3) := by decide +kernel
theorem dX4_charge_21 : decode cX4_charge 21 = .ok (.iconst (-1), 1) := by decide +kernel
theorem dX4_charge_22 : decode cX4_charge 22 = .ok (.ireturn, 1) := by decide +kernel
theorem dX4_charge_23 : decode cX4_charge 23 = .ok (.aload_n 0, 1) := by decide +kernel
theorem dX4_charge_24 : decode cX4_charge 24 = .ok (.getfield 10, 3) := by decide +kernel
theorem dX4_charge_27 : decode cX4_charge 27 = .ok (.getfield 58, 3) := by decide +kernel
theorem dX4_charge_30 : decode cX4_charge 30 = .ok (.iload_n 1, 1) := by decide +kernel
theorem dX4_charge_31 : decode cX4_charge 31 = .ok (.aaload, 1) := by decide +kernel
theorem dX4_charge_32 : decode cX4_charge 32 = .ok (.astore_n 3, 1) := by decide +kernel
theorem dX4_charge_33 : decode cX4_charge 33 = .ok (.aload_n 3, 1) := by decide +kernel
theorem dX4_charge_34 : decode cX4_charge 34 = .ok (.getfield 94, 3) := by decide +kernel
theorem dX4_charge_37 : decode cX4_charge 37 = .ok (.ifCond .eq 14, 3) := by decide +kernel
theorem dX4_charge_40 : decode cX4_charge 40 = .ok (.aload_n 3, 1) := by decide +kernel
theorem dX4_charge_41 : decode cX4_charge 41 = .ok (.getfield 98, 3) := by decide +kernel
theorem dX4_charge_44 : decode cX4_charge 44 = .ok (.iload_n 2, 1) := by decide +kernel
theorem dX4_charge_45 : decode cX4_charge 45 = .ok (.iadd, 1) := by decide +kernel
theorem dX4_charge_46 : decode cX4_charge 46 = .ok (.ldc 101, 2) := by decide +kernel
theorem dX4_charge_48 : decode cX4_charge 48 = .ok (.if_icmp .le 6, 3) := by decide +kernel
theorem dX4_charge_51 : decode cX4_charge 51 = .ok (.bipush (-2), 2) := by decide +kernel
theorem dX4_charge_53 : decode cX4_charge 53 = .ok (.ireturn, 1) := by decide +kernel
theorem dX4_charge_54 : decode cX4_charge 54 = .ok (.aload_n 0, 1) := by decide +kernel
theorem dX4_charge_55 : decode cX4_charge 55 = .ok (.getfield 34, 3) := by decide +kernel
theorem dX4_charge_58 : decode cX4_charge 58 = .ok (.aload_n 0, 1) := by decide +kernel
theorem dX4_charge_59 : decode cX4_charge 59 = .ok (.getfield 10, 3) := by decide +kernel
theorem dX4_charge_62 : decode cX4_charge 62 = .ok (.invokevirtual 55, 3) := by decide +kernel
theorem dX4_charge_65 : decode cX4_charge 65 = .ok (.aload_n 3, 1) := by decide +kernel
theorem dX4_charge_66 : decode cX4_charge 66 = .ok (.dup, 1) := by decide +kernel
theorem dX4_charge_67 : decode cX4_charge 67 = .ok (.getfield 98, 3) := by decide +kernel
theorem dX4_charge_70 : decode cX4_charge 70 = .ok (.iload_n 2, 1) := by decide +kernel
theorem dX4_charge_71 : decode cX4_charge 71 = .ok (.iadd, 1) := by decide +kernel
theorem dX4_charge_72 : decode cX4_charge 72 = .ok (.putfield 98, 3) := by decide +kernel
theorem dX4_charge_75 : decode cX4_charge 75 = .ok (.aload_n 3, 1) := by decide +kernel
theorem dX4_charge_76 : decode cX4_charge 76 = .ok (.getfield 98, 3) := by decide +kernel
theorem dX4_charge_79 : decode cX4_charge 79 = .ok (.ireturn, 1) := by decide +kernel
set_option maxRecDepth 20000 in
theorem ggX4_run_X4_inRange : GoodIn wsX4_run wsX4_inRange := goodIn_r _ [7] (by decide +kernel) (by decide +kernel)
set_option maxRecDepth 20000 in
theorem gX4_run_X4_inRange : GoodIn wsX4_run (va_wsS RX4 46 yX4_inRange wsX4_inRange) := goodIn_app (goodIn_of _ (by decide +kernel)) ggX4_run_X4_inRange
set_option maxRecDepth 20000 in
theorem ggX4_run_X1_countAlive : GoodIn wsX4_run wsX1_countAlive := goodIn_r _ [12, 13, 14, 15, 204, 205, 206, 207, 208, 209, 210, 211, 212, 213, 214, 215, 216, 217, 218, 219, 220, 221, 222, 223, 224, 225] (by decide +kernel) (by decide +kernel)
set_option maxRecDepth 20000 in
theorem gX4_run_X1_countAlive : GoodIn wsX4_run (wsV RX4 102 RX1 yX1_countAlive wsX1_countAlive) := goodIn_app (goodIn_of _ (by decide +kernel)) ggX4_run_X1_countAlive
set_option maxRecDepth 20000 in
theorem ggX4_run_X0_push : GoodIn wsX4_run wsX0_push := goodIn_r _ [20, 21, 22, 23, 24, 25, 19, 26, 27, 28, 29, 11, 30, 13, 14, 31, 32, 33, 34, 35, 36, 37, 38, 39, 40, 41, 42, 43, 44, 45, 46, 47, 48, 49, 50, 51, 52, 53, 54, 55, 56, 57, 226, 227, 204, 205, 206, 207, 208, 209, 210, 211, 212, 213, 214, 215, 216, 217, 218, 219, 220, 221, 222, 223, 224, 225] (by decide +kernel) (by decide +kernel)
set_option maxRecDepth 20000 in
theorem gX4_run_X0_push : GoodIn wsX4_run (wsV RX4 55 RX0 yX0_push wsX0_push) := goodIn_app (goodIn_of _ (by decide +kernel)) ggX4_run_X0_push
set_option maxRecDepth 20000 in
theorem ggX4_run_X2_perform : GoodIn wsX4_run wsX2_perform := goodIn_r _ [62, 63, 64, 9, 10, 11, 12, 13, 14, 15, 65, 66, 67, 61, 68, 69, 70, 71, 72, 73, 74, 75, 76, 77, 78, 79, 80, 81, 82, 83, 31, 39, 84, 85, 86, 47, 87, 56, 57, 88, 89, 90, 91, 92, 93, 94, 95, 96, 97, 98, 99, 100, 101, 102, 103, 104, 105, 106, 107, 108, 109, 110, 111, 112, 113, 114, 115, 116, 117, 118, 119, 120, 121, 122, 123, 124, 125, 126, 127, 128, 129, 130, 131, 132, 49, 50, 133, 134, 135, 136, 137, 138, 139, 140, 141, 142, 143, 144, 145, 146, 147, 148, 149, 150, 151, 152, 153, 154, 155, 156, 157, 158, 159, 160, 161, 162, 163, 164, 165, 166, 167, 168, 169, 170, 171, 172, 173, 174, 175, 176, 177, 178, 179, 180, 181, 182, 183, 184, 185, 186, 187, 188, 189, 190, 191, 192, 193, 194, 195, 196, 228, 204, 205, 206, 207, 208, 209, 210, 211, 212, 213, 214, 215, 216, 217, 218, 219, 220, 221, 222, 223, 224, 225] (by decide +kernel) (by decide +kernel)
set_option maxRecDepth 20000 in
theorem gX4_run_X2_perform : GoodIn wsX4_run (wsV RX4 106 RX2 yX2_perform wsX2_perform) := goodIn_app (goodIn_of _ (by decide +kernel)) ggX4_run_X2_perform
theorem dX4_run_0 : decode cX4_run 0 = .ok (.iload_n 1, 1) := by decide +kernel
theorem dX4_run_1 : decode cX4_run 1 = .ok (.iconst 1, 1) := by decide +kernel
theorem dX4_run_2 : decode cX4_run 2 = .ok (.bipush 50, 2) := by decide +kernel
theorem dX4_run_4 : decode cX4_run 4 = .ok (.invokestatic 46, 3) := by decide +kernel
theorem dX4_run_7 : decode cX4_run 7 = .ok (.ifCond .ne 5, 3) := by decide +kernel
theorem dX4_run_10 : decode cX4_run 10 = .ok (.iconst (-1), 1) := by decide +kernel
theorem dX4_run_11 : decode cX4_run 11 = .ok (.ireturn, 1) := by decide +kernel
theorem dX4_run_12 : decode cX4_run 12 = .ok (.aload_n 0, 1) := by decide +kernel
theorem dX4_run_13 : decode cX4_run 13 = .ok (.getfield 10, 3) := by decide +kernel
theorem dX4_run_16 : decode cX4_run 16 = .ok (.invokevirtual 102, 3) := by decide +kernel
theorem dX4_run_19 : decode cX4_run 19 = .ok (.ifCond .ne 6, 3) := by decide +kernel
theorem dX4_run_22 : decode cX4_run 22 = .ok (.bipush (-2), 2) := by decide +kernel
theorem dX4_run_24 : decode cX4_run 24 = .ok (.ireturn, 1) := by decide +kernel
theorem dX4_run_25 : decode cX4_run 25 = .ok (.aload_n 0, 1) := by decide +kernel
theorem dX4_run_26 : decode cX4_run 26 = .ok (.getfield 34, 3) := by decide +kernel
theorem dX4_run_29 : decode cX4_run 29 = .ok (.aload_n 0, 1) := by decide +kernel
theorem dX4_run_30 : decode cX4_run 30 = .ok (.getfield 10, 3) := by decide +kernel
theorem dX4_run_33 : decode cX4_run 33 = .ok (.invokevirtual 55, 3) := by decide +kernel
theorem dX4_run_36 : decode cX4_run 36 = .ok (.aload_n 0, 1) := by decide +kernel
theorem dX4_run_37 : decode cX4_run 37 = .ok (.getfield 21, 3) := by decide +kernel
theorem dX4_run_40 : decode cX4_run 40 = .ok (.iload_n 1, 1) := by decide +kernel
theorem dX4_run_41 : decode cX4_run 41 = .ok (.invokevirtual 106, 3) := by decide +kernel
theorem dX4_run_44 : decode cX4_run 44 = .ok (.ireturn, 1) := by decide +kernel
theorem dX4_roundNumber_0 : decode cX4_roundNumber 0 = .ok (.aload_n 0, 1) := by decide +kernel
theorem dX4_roundNumber_1 : decode cX4_roundNumber 1 = .ok (.getfield 10, 3) := by decide +kernel
theorem dX4_roundNumber_4 : decode cX4_roundNumber 4 = .ok (.getfield 87, 3) := by decide +kernel
theorem dX4_roundNumber_7 : decode cX4_roundNumber 7 = .ok (.ireturn, 1) := by decide +kernel
set_option maxRecDepth 20000 in
theorem ggX4_aliveCount_X1_countAlive : GoodIn wsX4_aliveCount wsX1_countAlive := goodIn_r _ [6, 7, 8, 9, 17, 18, 19, 20, 21, 22, 23, 24, 25, 26, 27, 28, 29, 30, 31, 32, 33, 34, 35, 36, 37, 38] (by decide +kernel) (by decide +kernel)
set_option maxRecDepth 20000 in
theorem gX4_aliveCount_X1_countAlive : GoodIn wsX4_aliveCount (wsV RX4 102 RX1 yX1_countAlive wsX1_countAlive) := goodIn_app (goodIn_of _ (by decide +kernel)) ggX4_aliveCount_X1_countAlive
theorem dX4_aliveCount_0 : decode cX4_aliveCount 0 = .ok (.aload_n 0, 1) := by decide +kernel
theorem dX4_aliveCount_1 : decode cX4_aliveCount 1 = .ok (.getfield 10, 3) := by decide +kernel
theorem dX4_aliveCount_4 : decode cX4_aliveCount 4 = .ok (.invokevirtual 102, 3) := by decide +kernel
theorem dX4_aliveCount_7 : decode cX4_aliveCount 7 = .ok (.ireturn, 1) := by decide +kernel
set_option maxRecDepth 20000 in
theorem ggX4_isAlive_X1_has : GoodIn wsX4_isAlive wsX1_has := goodIn_r _ [8, 9, 17, 18, 19, 20, 21, 22, 23, 24, 25, 26, 27] (by decide +kernel) (by decide +kernel)
set_option maxRecDepth 20000 in
theorem gX4_isAlive_X1_has : GoodIn wsX4_isAlive (wsV RX4 90 RX1 yX1_has wsX1_has) := goodIn_app (goodIn_of _ (by decide +kernel)) ggX4_isAlive_X1_has
theorem dX4_isAlive_0 : decode cX4_isAlive 0 = .ok (.aload_n 0, 1) := by decide +kernel
theorem dX4_isAlive_1 : decode cX4_isAlive 1 = .ok (.getfield 10, 3) := by decide +kernel
theorem dX4_isAlive_4 : decode cX4_isAlive 4 = .ok (.iload_n 1, 1) := by decide +kernel
theorem dX4_isAlive_5 : decode cX4_isAlive 5 = .ok (.invokevirtual 90, 3) := by decide +kernel
theorem dX4_isAlive_8 : decode cX4_isAlive 8 = .ok (.ifCond .ne 5, 3) := by decide +kernel
theorem dX4_isAlive_11 : decode cX4_isAlive 11 = .ok (.iconst (-1), 1) := by decide +kernel
theorem dX4_isAlive_12 : decode cX4_isAlive 12 = .ok (.ireturn, 1) := by decide +kernel
theorem dX4_isAlive_13 : decode cX4_isAlive 13 = .ok (.aload_n 0, 1) := by decide +kernel
theorem dX4_isAlive_14 : decode cX4_isAlive 14 = .ok (.getfield 10, 3) := by decide +kernel
theorem dX4_isAlive_17 : decode cX4_isAlive 17 = .ok (.getfield 58, 3) := by decide +kernel
theorem dX4_isAlive_20 : decode cX4_isAlive 20 = .ok (.iload_n 1, 1) := by decide +kernel
theorem dX4_isAlive_21 : decode cX4_isAlive 21 = .ok (.aaload, 1) := by decide +kernel
theorem dX4_isAlive_22 : decode cX4_isAlive 22 = .ok (.getfield 94, 3) := by decide +kernel
theorem dX4_isAlive_25 : decode cX4_isAlive 25 = .ok (.ifCond .eq 7, 3) := by decide +kernel
theorem dX4_isAlive_28 : decode cX4_isAlive 28 = .ok (.iconst 1, 1) := by decide +kernel
theorem dX4_isAlive_29 : decode cX4_isAlive 29 = .ok (.goto 4, 3) := by decide +kernel
theorem dX4_isAlive_32 : decode cX4_isAlive 32 = .ok (.iconst 0, 1) := by decide +kernel
theorem dX4_isAlive_33 : decode cX4_isAlive 33 = .ok (.ireturn, 1) := by decide +kernel
set_option maxRecDepth 20000 in
theorem ggX4_battery_X1_has : GoodIn wsX4_battery wsX1_has := goodIn_r _ [8, 9, 17, 18, 19, 20, 21, 22, 23, 24, 25, 26, 27] (by decide +kernel) (by decide +kernel)
set_option maxRecDepth 20000 in
theorem gX4_battery_X1_has : GoodIn wsX4_battery (wsV RX4 90 RX1 yX1_has wsX1_has) := goodIn_app (goodIn_of _ (by decide +kernel)) ggX4_battery_X1_has
theorem dX4_battery_0 : decode cX4_battery 0 = .ok (.aload_n 0, 1) := by decide +kernel
theorem dX4_battery_1 : decode cX4_battery 1 = .ok (.getfield 10, 3) := by decide +kernel
theorem dX4_battery_4 : decode cX4_battery 4 = .ok (.iload_n 1, 1) := by decide +kernel
theorem dX4_battery_5 : decode cX4_battery 5 = .ok (.invokevirtual 90, 3) := by decide +kernel
theorem dX4_battery_8 : decode cX4_battery 8 = .ok (.ifCond .ne 5, 3) := by decide +kernel
theorem dX4_battery_11 : decode cX4_battery 11 = .ok (.iconst (-1), 1) := by decide +kernel
theorem dX4_battery_12 : decode cX4_battery 12 = .ok (.ireturn, 1) := by decide +kernel
theorem dX4_battery_13 : decode cX4_battery 13 = .ok (.aload_n 0, 1) := by decide +kernel
theorem dX4_battery_14 : decode cX4_battery 14 = .ok (.getfield 10, 3) := by decide +kernel
theorem dX4_battery_17 : decode cX4_battery 17 = .ok (.getfield 58, 3) := by decide +kernel
theorem dX4_battery_20 : decode cX4_battery 20 = .ok (.iload_n 1, 1) := by decide +kernel
theorem dX4_battery_21 : decode cX4_battery 21 = .ok (.aaload, 1) := by decide +kernel
theorem dX4_battery_22 : decode cX4_battery 22 = .ok (.getfield 98, 3) := by decide +kernel
theorem dX4_battery_25 : decode cX4_battery 25 = .ok (.ireturn, 1) := by decide +kernel
set_option maxRecDepth 20000 in
theorem ggX4_isEligible_X1_has : GoodIn wsX4_isEligible wsX1_has := goodIn_r _ [9, 10, 24, 25, 26, 27, 28, 29, 30, 31, 32, 33, 34] (by decide +kernel) (by decide +kernel)
set_option maxRecDepth 20000 in
theorem gX4_isEligible_X1_has : GoodIn wsX4_isEligible (wsV RX4 90 RX1 yX1_has wsX1_has) := goodIn_app (goodIn_of _ (by decide +kernel)) ggX4_isEligible_X1_has
set_option maxRecDepth 20000 in
theorem ggX4_isEligible_X1_phase : GoodIn wsX4_isEligible wsX1_phase := goodIn_r _ [14, 15, 16, 24, 25, 26, 27, 28, 29, 30, 31, 32, 33, 34] (by decide +kernel) (by decide +kernel)
set_option maxRecDepth 20000 in
theorem gX4_isEligible_X1_phase : GoodIn wsX4_isEligible (wsV RX4 113 RX1 yX1_phase wsX1_phase) := goodIn_app (goodIn_of _ (by decide +kernel)) ggX4_isEligible_X1_phase
theorem dX4_isEligible_0 : decode cX4_isEligible 0 = .ok (.aload_n 0, 1) := by decide +kernel
theorem dX4_isEligible_1 : decode cX4_isEligible 1 = .ok (.getfield 10, 3) := by decide +kernel
theorem dX4_isEligible_4 : decode cX4_isEligible 4 = .ok (.iload_n 1, 1) := by decide +kernel
theorem dX4_isEligible_5 : decode cX4_isEligible 5 = .ok (.invokevirtual 90, 3) := by decide +kernel
theorem dX4_isEligible_8 : decode cX4_isEligible 8 = .ok (.ifCond .ne 5, 3) := by decide +kernel
theorem dX4_isEligible_11 : decode cX4_isEligible 11 = .ok (.iconst (-1), 1) := by decide +kernel
theorem dX4_isEligible_12 : decode cX4_isEligible 12 = .ok (.ireturn, 1) := by decide +kernel
theorem dX4_isEligible_13 : decode cX4_isEligible 13 = .ok (.aload_n 0, 1) := by decide +kernel
theorem dX4_isEligible_14 : decode cX4_isEligible 14 = .ok (.getfield 10, 3) := by decide +kernel
theorem dX4_isEligible_17 : decode cX4_isEligible 17 = .ok (.getfield 58, 3) := by decide +kernel
theorem dX4_isEligible_20 : decode cX4_isEligible 20 = .ok (.iload_n 1, 1) := by decide +kernel
theorem dX4_isEligible_21 : decode cX4_isEligible 21 = .ok (.aaload, 1) := by decide +kernel
theorem dX4_isEligible_22 : decode cX4_isEligible 22 = .ok (.astore_n 2, 1) := by decide +kernel
theorem dX4_isEligible_23 : decode cX4_isEligible 23 = .ok (.aload_n 2, 1) := by decide +kernel
theorem dX4_isEligible_24 : decode cX4_isEligible 24 = .ok (.getfield 94, 3) := by decide +kernel
theorem dX4_isEligible_27 : decode cX4_isEligible 27 = .ok (.ifCond .eq 24, 3) := by decide +kernel
theorem dX4_isEligible_30 : decode cX4_isEligible 30 = .ok (.aload_n 2, 1) := by decide +kernel
theorem dX4_isEligible_31 : decode cX4_isEligible 31 = .ok (.getfield 110, 3) := by decide +kernel
theorem dX4_isEligible_34 : decode cX4_isEligible 34 = .ok (.ifCond .ne 13, 3) := by decide +kernel
theorem dX4_isEligible_37 : decode cX4_isEligible 37 = .ok (.aload_n 0, 1) := by decide +kernel
theorem dX4_isEligible_38 : decode cX4_isEligible 38 = .ok (.getfield 10, 3) := by decide +kernel
theorem dX4_isEligible_41 : decode cX4_isEligible 41 = .ok (.invokevirtual 113, 3) := by decide +kernel
theorem dX4_isEligible_44 : decode cX4_isEligible 44 = .ok (.ifCond .ne 7, 3) := by decide +kernel
theorem dX4_isEligible_47 : decode cX4_isEligible 47 = .ok (.iconst 1, 1) := by decide +kernel
theorem dX4_isEligible_48 : decode cX4_isEligible 48 = .ok (.goto 4, 3) := by decide +kernel
theorem dX4_isEligible_51 : decode cX4_isEligible 51 = .ok (.iconst 0, 1) := by decide +kernel
theorem dX4_isEligible_52 : decode cX4_isEligible 52 = .ok (.ireturn, 1) := by decide +kernel
set_option maxRecDepth 20000 in
theorem ggX4_deathRound_X1_has : GoodIn wsX4_deathRound wsX1_has := goodIn_r _ [8, 9, 17, 18, 19, 20, 21, 22, 23, 24, 25, 26, 27] (by decide +kernel) (by decide +kernel)
set_option maxRecDepth 20000 in
theorem gX4_deathRound_X1_has : GoodIn wsX4_deathRound (wsV RX4 90 RX1 yX1_has wsX1_has) := goodIn_app (goodIn_of _ (by decide +kernel)) ggX4_deathRound_X1_has
theorem dX4_deathRound_0 : decode cX4_deathRound 0 = .ok (.aload_n 0, 1) := by decide +kernel
theorem dX4_deathRound_1 : decode cX4_deathRound 1 = .ok (.getfield 10, 3) := by decide +kernel
theorem dX4_deathRound_4 : decode cX4_deathRound 4 = .ok (.iload_n 1, 1) := by decide +kernel
theorem dX4_deathRound_5 : decode cX4_deathRound 5 = .ok (.invokevirtual 90, 3) := by decide +kernel
theorem dX4_deathRound_8 : decode cX4_deathRound 8 = .ok (.ifCond .ne 5, 3) := by decide +kernel
theorem dX4_deathRound_11 : decode cX4_deathRound 11 = .ok (.iconst (-1), 1) := by decide +kernel
theorem dX4_deathRound_12 : decode cX4_deathRound 12 = .ok (.ireturn, 1) := by decide +kernel
theorem dX4_deathRound_13 : decode cX4_deathRound 13 = .ok (.aload_n 0, 1) := by decide +kernel
theorem dX4_deathRound_14 : decode cX4_deathRound 14 = .ok (.getfield 10, 3) := by decide +kernel
theorem dX4_deathRound_17 : decode cX4_deathRound 17 = .ok (.getfield 58, 3) := by decide +kernel
theorem dX4_deathRound_20 : decode cX4_deathRound 20 = .ok (.iload_n 1, 1) := by decide +kernel
theorem dX4_deathRound_21 : decode cX4_deathRound 21 = .ok (.aaload, 1) := by decide +kernel
theorem dX4_deathRound_22 : decode cX4_deathRound 22 = .ok (.getfield 119, 3) := by decide +kernel
theorem dX4_deathRound_25 : decode cX4_deathRound 25 = .ok (.ireturn, 1) := by decide +kernel
set_option maxRecDepth 20000 in
theorem ggX4_headOf_X1_has : GoodIn wsX4_headOf wsX1_has := goodIn_r _ [8, 9, 17, 18, 19, 20, 21, 22, 23, 24, 25, 26, 27] (by decide +kernel) (by decide +kernel)
set_option maxRecDepth 20000 in
theorem gX4_headOf_X1_has : GoodIn wsX4_headOf (wsV RX4 90 RX1 yX1_has wsX1_has) := goodIn_app (goodIn_of _ (by decide +kernel)) ggX4_headOf_X1_has
theorem dX4_headOf_0 : decode cX4_headOf 0 = .ok (.aload_n 0, 1) := by decide +kernel
theorem dX4_headOf_1 : decode cX4_headOf 1 = .ok (.getfield 10, 3) := by decide +kernel
theorem dX4_headOf_4 : decode cX4_headOf 4 = .ok (.iload_n 1, 1) := by decide +kernel
theorem dX4_headOf_5 : decode cX4_headOf 5 = .ok (.invokevirtual 90, 3) := by decide +kernel
theorem dX4_headOf_8 : decode cX4_headOf 8 = .ok (.ifCond .ne 5, 3) := by decide +kernel
theorem dX4_headOf_11 : decode cX4_headOf 11 = .ok (.iconst (-1), 1) := by decide +kernel
theorem dX4_headOf_12 : decode cX4_headOf 12 = .ok (.ireturn, 1) := by decide +kernel
theorem dX4_headOf_13 : decode cX4_headOf 13 = .ok (.aload_n 0, 1) := by decide +kernel
theorem dX4_headOf_14 : decode cX4_headOf 14 = .ok (.getfield 10, 3) := by decide +kernel
theorem dX4_headOf_17 : decode cX4_headOf 17 = .ok (.getfield 58, 3) := by decide +kernel
theorem dX4_headOf_20 : decode cX4_headOf 20 = .ok (.iload_n 1, 1) := by decide +kernel
theorem dX4_headOf_21 : decode cX4_headOf 21 = .ok (.aaload, 1) := by decide +kernel
theorem dX4_headOf_22 : decode cX4_headOf 22 = .ok (.getfield 122, 3) := by decide +kernel
theorem dX4_headOf_25 : decode cX4_headOf 25 = .ok (.ireturn, 1) := by decide +kernel
set_option maxRecDepth 20000 in
theorem ggX4_slotOf_X1_has : GoodIn wsX4_slotOf wsX1_has := goodIn_r _ [8, 9, 17, 18, 19, 20, 21, 22, 23, 24, 25, 26, 27] (by decide +kernel) (by decide +kernel)
set_option maxRecDepth 20000 in
theorem gX4_slotOf_X1_has : GoodIn wsX4_slotOf (wsV RX4 90 RX1 yX1_has wsX1_has) := goodIn_app (goodIn_of _ (by decide +kernel)) ggX4_slotOf_X1_has
theorem dX4_slotOf_0 : decode cX4_slotOf 0 = .ok (.aload_n 0, 1) := by decide +kernel
theorem dX4_slotOf_1 : decode cX4_slotOf 1 = .ok (.getfield 10, 3) := by decide +kernel
theorem dX4_slotOf_4 : decode cX4_slotOf 4 = .ok (.iload_n 1, 1) := by decide +kernel
theorem dX4_slotOf_5 : decode cX4_slotOf 5 = .ok (.invokevirtual 90, 3) := by decide +kernel
theorem dX4_slotOf_8 : decode cX4_slotOf 8 = .ok (.ifCond .ne 5, 3) := by decide +kernel
theorem dX4_slotOf_11 : decode cX4_slotOf 11 = .ok (.iconst (-1), 1) := by decide +kernel
theorem dX4_slotOf_12 : decode cX4_slotOf 12 = .ok (.ireturn, 1) := by decide +kernel
theorem dX4_slotOf_13 : decode cX4_slotOf 13 = .ok (.aload_n 0, 1) := by decide +kernel
theorem dX4_slotOf_14 : decode cX4_slotOf 14 = .ok (.getfield 10, 3) := by decide +kernel
theorem dX4_slotOf_17 : decode cX4_slotOf 17 = .ok (.getfield 58, 3) := by decide +kernel
theorem dX4_slotOf_20 : decode cX4_slotOf 20 = .ok (.iload_n 1, 1) := by decide +kernel
theorem dX4_slotOf_21 : decode cX4_slotOf 21 = .ok (.aaload, 1) := by decide +kernel
theorem dX4_slotOf_22 : decode cX4_slotOf 22 = .ok (.getfield 125, 3) := by decide +kernel
theorem dX4_slotOf_25 : decode cX4_slotOf 25 = .ok (.ireturn, 1) := by decide +kernel
theorem dX4_headCount_0 : decode cX4_headCount 0 = .ok (.aload_n 0, 1) := by decide +kernel
theorem dX4_headCount_1 : decode cX4_headCount 1 = .ok (.getfield 10, 3) := by decide +kernel
theorem dX4_headCount_4 : decode cX4_headCount 4 = .ok (.getfield 128, 3) := by decide +kernel
theorem dX4_headCount_7 : decode cX4_headCount 7 = .ok (.ireturn, 1) := by decide +kernel
theorem dX4_lastDelivered_0 : decode cX4_lastDelivered 0 = .ok (.aload_n 0, 1) := by decide +kernel
theorem dX4_lastDelivered_1 : decode cX4_lastDelivered 1 = .ok (.getfield 10, 3) := by decide +kernel
theorem dX4_lastDelivered_4 : decode cX4_lastDelivered 4 = .ok (.getfield 131, 3) := by decide +kernel
theorem dX4_lastDelivered_7 : decode cX4_lastDelivered 7 = .ok (.ireturn, 1) := by decide +kernel
theorem dX4_deliveredTotal_0 : decode cX4_deliveredTotal 0 = .ok (.aload_n 0, 1) := by decide +kernel
theorem dX4_deliveredTotal_1 : decode cX4_deliveredTotal 1 = .ok (.getfield 10, 3) := by decide +kernel
theorem dX4_deliveredTotal_4 : decode cX4_deliveredTotal 4 = .ok (.getfield 134, 3) := by decide +kernel
theorem dX4_deliveredTotal_7 : decode cX4_deliveredTotal 7 = .ok (.ireturn, 1) := by decide +kernel
theorem dX4_energyPaid_0 : decode cX4_energyPaid 0 = .ok (.aload_n 0, 1) := by decide +kernel
theorem dX4_energyPaid_1 : decode cX4_energyPaid 1 = .ok (.getfield 10, 3) := by decide +kernel
theorem dX4_energyPaid_4 : decode cX4_energyPaid 4 = .ok (.getfield 137, 3) := by decide +kernel
theorem dX4_energyPaid_7 : decode cX4_energyPaid 7 = .ok (.ireturn, 1) := by decide +kernel
set_option maxRecDepth 20000 in
theorem ggX4_undo_X0_popInto : GoodIn wsX4_undo wsX0_popInto := goodIn_r _ [8, 9, 10, 11, 12, 13, 14, 15, 16, 17, 18, 19, 20, 21, 22, 23, 24, 25, 26, 27, 28, 29, 30, 31, 32, 33, 34, 35, 36, 37, 38, 39, 40, 41, 42, 43, 44, 52, 53, 54, 55, 56, 57, 58, 59, 60, 61, 62, 63, 64, 65, 66, 67, 68, 69, 70, 71, 72, 73, 74, 75] (by decide +kernel) (by decide +kernel)
set_option maxRecDepth 20000 in
theorem gX4_undo_X0_popInto : GoodIn wsX4_undo (wsV RX4 159 RX0 yX0_popInto wsX0_popInto) := goodIn_app (goodIn_of _ (by decide +kernel)) ggX4_undo_X0_popInto
theorem dX4_undo_0 : decode cX4_undo 0 = .ok (.aload_n 0, 1) := by decide +kernel
theorem dX4_undo_1 : decode cX4_undo 1 = .ok (.getfield 34, 3) := by decide +kernel
theorem dX4_undo_4 : decode cX4_undo 4 = .ok (.getfield 156, 3) := by decide +kernel
theorem dX4_undo_7 : decode cX4_undo 7 = .ok (.ifCond .ne 6, 3) := by decide +kernel
theorem dX4_undo_10 : decode cX4_undo 10 = .ok (.bipush (-2), 2) := by decide +kernel
theorem dX4_undo_12 : decode cX4_undo 12 = .ok (.ireturn, 1) := by decide +kernel
theorem dX4_undo_13 : decode cX4_undo 13 = .ok (.aload_n 0, 1) := by decide +kernel
theorem dX4_undo_14 : decode cX4_undo 14 = .ok (.getfield 34, 3) := by decide +kernel
theorem dX4_undo_17 : decode cX4_undo 17 = .ok (.aload_n 0, 1) := by decide +kernel
theorem dX4_undo_18 : decode cX4_undo 18 = .ok (.getfield 10, 3) := by decide +kernel
theorem dX4_undo_21 : decode cX4_undo 21 = .ok (.invokevirtual 159, 3) := by decide +kernel
theorem dX4_undo_24 : decode cX4_undo 24 = .ok (.aload_n 0, 1) := by decide +kernel
theorem dX4_undo_25 : decode cX4_undo 25 = .ok (.getfield 34, 3) := by decide +kernel
theorem dX4_undo_28 : decode cX4_undo 28 = .ok (.getfield 156, 3) := by decide +kernel
theorem dX4_undo_31 : decode cX4_undo 31 = .ok (.ireturn, 1) := by decide +kernel
theorem dX4_inRange_0 : decode cX4_inRange 0 = .ok (.iload_n 0, 1) := by decide +kernel
theorem dX4_inRange_1 : decode cX4_inRange 1 = .ok (.iload_n 1, 1) := by decide +kernel
theorem dX4_inRange_2 : decode cX4_inRange 2 = .ok (.if_icmp .lt 12, 3) := by decide +kernel
theorem dX4_inRange_5 : decode cX4_inRange 5 = .ok (.iload_n 0, 1) := by decide +kernel
theorem dX4_inRange_6 : decode cX4_inRange 6 = .ok (.iload_n 2, 1) := by decide +kernel
theorem dX4_inRange_7 : decode cX4_inRange 7 = .ok (.if_icmp .gt 7, 3) := by decide +kernel
theorem dX4_inRange_10 : decode cX4_inRange 10 = .ok (.iconst 1, 1) := by decide +kernel
theorem dX4_inRange_11 : decode cX4_inRange 11 = .ok (.goto 4, 3) := by decide +kernel
theorem dX4_inRange_14 : decode cX4_inRange 14 = .ok (.iconst 0, 1) := by decide +kernel
theorem dX4_inRange_15 : decode cX4_inRange 15 = .ok (.ireturn, 1) := by decide +kernel
