theorem dX5_init_0 : decode cX5_init 0 = .ok (.aload_n 0, 1) := by decide +kernel
theorem dX5_init_1 : decode cX5_init 1 = .ok (.invokespecial 1, 3) := by decide +kernel
theorem dX5_init_4 : decode cX5_init 4 = .ok (.aload_n 0, 1) := by decide +kernel
theorem dX5_init_5 : decode cX5_init 5 = .ok (.bipush 123, 2) := by decide +kernel
theorem dX5_init_7 : decode cX5_init 7 = .ok (.newarray .int, 2) := by decide +kernel
theorem dX5_init_9 : decode cX5_init 9 = .ok (.putfield 7, 3) := by decide +kernel
theorem dX5_init_12 : decode cX5_init 12 = .ok (.aload_n 0, 1) := by decide +kernel
theorem dX5_init_13 : decode cX5_init 13 = .ok (.bipush 123, 2) := by decide +kernel
theorem dX5_init_15 : decode cX5_init 15 = .ok (.newarray .int, 2) := by decide +kernel
theorem dX5_init_17 : decode cX5_init 17 = .ok (.putfield 13, 3) := by decide +kernel
theorem dX5_init_20 : decode cX5_init 20 = .ok (.aload_n 0, 1) := by decide +kernel
theorem dX5_init_21 : decode cX5_init 21 = .ok (.sipush 738, 3) := by decide +kernel
theorem dX5_init_24 : decode cX5_init 24 = .ok (.newarray .int, 2) := by decide +kernel
theorem dX5_init_26 : decode cX5_init 26 = .ok (.putfield 16, 3) := by decide +kernel
theorem dX5_init_29 : decode cX5_init 29 = .ok (.aload_n 0, 1) := by decide +kernel
theorem dX5_init_30 : decode cX5_init 30 = .ok (.sipush 246, 3) := by decide +kernel
theorem dX5_init_33 : decode cX5_init 33 = .ok (.newarray .int, 2) := by decide +kernel
theorem dX5_init_35 : decode cX5_init 35 = .ok (.putfield 19, 3) := by decide +kernel
theorem dX5_init_38 : decode cX5_init 38 = .ok (.aload_n 0, 1) := by decide +kernel
theorem dX5_init_39 : decode cX5_init 39 = .ok (.iconst 2, 1) := by decide +kernel
theorem dX5_init_40 : decode cX5_init 40 = .ok (.newarray .boolean, 2) := by decide +kernel
theorem dX5_init_42 : decode cX5_init 42 = .ok (.putfield 22, 3) := by decide +kernel
theorem dX5_init_45 : decode cX5_init 45 = .ok (.aload_n 0, 1) := by decide +kernel
theorem dX5_init_46 : decode cX5_init 46 = .ok (.bipush 12, 2) := by decide +kernel
theorem dX5_init_48 : decode cX5_init 48 = .ok (.newarray .boolean, 2) := by decide +kernel
theorem dX5_init_50 : decode cX5_init 50 = .ok (.putfield 26, 3) := by decide +kernel
theorem dX5_init_53 : decode cX5_init 53 = .ok (.aload_n 0, 1) := by decide +kernel
theorem dX5_init_54 : decode cX5_init 54 = .ok (.bipush 12, 2) := by decide +kernel
theorem dX5_init_56 : decode cX5_init 56 = .ok (.newarray .int, 2) := by decide +kernel
theorem dX5_init_58 : decode cX5_init 58 = .ok (.putfield 29, 3) := by decide +kernel
theorem dX5_init_61 : decode cX5_init 61 = .ok (.aload_n 0, 1) := by decide +kernel
theorem dX5_init_62 : decode cX5_init 62 = .ok (.getfield 7, 3) := by decide +kernel
theorem dX5_init_65 : decode cX5_init 65 = .ok (.iconst 1, 1) := by decide +kernel
theorem dX5_init_66 : decode cX5_init 66 = .ok (.bipush 50, 2) := by decide +kernel
theorem dX5_init_68 : decode cX5_init 68 = .ok (.iastore, 1) := by decide +kernel
theorem dX5_init_69 : decode cX5_init 69 = .ok (.aload_n 0, 1) := by decide +kernel
theorem dX5_init_70 : decode cX5_init 70 = .ok (.getfield 7, 3) := by decide +kernel
theorem dX5_init_73 : decode cX5_init 73 = .ok (.iconst 2, 1) := by decide +kernel
theorem dX5_init_74 : decode cX5_init 74 = .ok (.sipush 150, 3) := by decide +kernel
theorem dX5_init_77 : decode cX5_init 77 = .ok (.iastore, 1) := by decide +kernel
theorem dX5_init_78 : decode cX5_init 78 = .ok (.aload_n 0, 1) := by decide +kernel
theorem dX5_init_79 : decode cX5_init 79 = .ok (.getfield 7, 3) := by decide +kernel
theorem dX5_init_82 : decode cX5_init 82 = .ok (.iconst 3, 1) := by decide +kernel
theorem dX5_init_83 : decode cX5_init 83 = .ok (.iconst 4, 1) := by decide +kernel
theorem dX5_init_84 : decode cX5_init 84 = .ok (.iastore, 1) := by decide +kernel
theorem dX5_init_85 : decode cX5_init 85 = .ok (.aload_n 0, 1) := by decide +kernel
theorem dX5_init_86 : decode cX5_init 86 = .ok (.getfield 7, 3) := by decide +kernel
theorem dX5_init_89 : decode cX5_init 89 = .ok (.iconst 4, 1) := by decide +kernel
theorem dX5_init_90 : decode cX5_init 90 = .ok (.iconst 5, 1) := by decide +kernel
theorem dX5_init_91 : decode cX5_init 91 = .ok (.iastore, 1) := by decide +kernel
theorem dX5_init_92 : decode cX5_init 92 = .ok (.aload_n 0, 1) := by decide +kernel
theorem dX5_init_93 : decode cX5_init 93 = .ok (.getfield 7, 3) := by decide +kernel
theorem dX5_init_96 : decode cX5_init 96 = .ok (.iconst 5, 1) := by decide +kernel
theorem dX5_init_97 : decode cX5_init 97 = .ok (.bipush 100, 2) := by decide +kernel
theorem dX5_init_99 : decode cX5_init 99 = .ok (.iastore, 1) := by decide +kernel
theorem dX5_init_100 : decode cX5_init 100 = .ok (.aload_n 0, 1) := by decide +kernel
theorem dX5_init_101 : decode cX5_init 101 = .ok (.getfield 7, 3) := by decide +kernel
theorem dX5_init_104 : decode cX5_init 104 = .ok (.bipush 6, 2) := by decide +kernel
theorem dX5_init_106 : decode cX5_init 106 = .ok (.iconst 1, 1) := by decide +kernel
theorem dX5_init_107 : decode cX5_init 107 = .ok (.iastore, 1) := by decide +kernel
theorem dX5_init_108 : decode cX5_init 108 = .ok (.aload_n 0, 1) := by decide +kernel
theorem dX5_init_109 : decode cX5_init 109 = .ok (.getfield 7, 3) := by decide +kernel
theorem dX5_init_112 : decode cX5_init 112 = .ok (.bipush 7, 2) := by decide +kernel
theorem dX5_init_114 : decode cX5_init 114 = .ok (.iconst 2, 1) := by decide +kernel
theorem dX5_init_115 : decode cX5_init 115 = .ok (.iastore, 1) := by decide +kernel
theorem dX5_init_116 : decode cX5_init 116 = .ok (.aload_n 0, 1) := by decide +kernel
theorem dX5_init_117 : decode cX5_init 117 = .ok (.getfield 7, 3) := by decide +kernel
theorem dX5_init_120 : decode cX5_init 120 = .ok (.bipush 9, 2) := by decide +kernel
theorem dX5_init_122 : decode cX5_init 122 = .ok (.iconst 1, 1) := by decide +kernel
theorem dX5_init_123 : decode cX5_init 123 = .ok (.iastore, 1) := by decide +kernel
theorem dX5_init_124 : decode cX5_init 124 = .ok (.return_, 1) := by decide +kernel
theorem dX5_in_0 : decode cX5_in 0 = .ok (.iload_n 0, 1) := by decide +kernel
theorem dX5_in_1 : decode cX5_in 1 = .ok (.iload_n 1, 1) := by decide +kernel
theorem dX5_in_2 : decode cX5_in 2 = .ok (.if_icmp .lt 12, 3) := by decide +kernel
theorem dX5_in_5 : decode cX5_in 5 = .ok (.iload_n 0, 1) := by decide +kernel
theorem dX5_in_6 : decode cX5_in 6 = .ok (.iload_n 2, 1) := by decide +kernel
theorem dX5_in_7 : decode cX5_in 7 = .ok (.if_icmp .gt 7, 3) := by decide +kernel
theorem dX5_in_10 : decode cX5_in 10 = .ok (.iconst 1, 1) := by decide +kernel
theorem dX5_in_11 : decode cX5_in 11 = .ok (.goto 4, 3) := by decide +kernel
theorem dX5_in_14 : decode cX5_in 14 = .ok (.iconst 0, 1) := by decide +kernel
theorem dX5_in_15 : decode cX5_in 15 = .ok (.ireturn, 1) := by decide +kernel
theorem dX5_keep_0 : decode cX5_keep 0 = .ok (.aload_n 0, 1) := by decide +kernel
theorem dX5_keep_1 : decode cX5_keep 1 = .ok (.getfield 36, 3) := by decide +kernel
theorem dX5_keep_4 : decode cX5_keep 4 = .ok (.bipush 6, 2) := by decide +kernel
theorem dX5_keep_6 : decode cX5_keep 6 = .ok (.if_icmp .ne 43, 3) := by decide +kernel
theorem dX5_keep_9 : decode cX5_keep 9 = .ok (.iconst 0, 1) := by decide +kernel
theorem dX5_keep_10 : decode cX5_keep 10 = .ok (.istore_n 1, 1) := by decide +kernel
theorem dX5_keep_11 : decode cX5_keep 11 = .ok (.iload_n 1, 1) := by decide +kernel
theorem dX5_keep_12 : decode cX5_keep 12 = .ok (.sipush 615, 3) := by decide +kernel
theorem dX5_keep_15 : decode cX5_keep 15 = .ok (.if_icmp .ge 24, 3) := by decide +kernel
theorem dX5_keep_18 : decode cX5_keep 18 = .ok (.aload_n 0, 1) := by decide +kernel
theorem dX5_keep_19 : decode cX5_keep 19 = .ok (.getfield 16, 3) := by decide +kernel
theorem dX5_keep_22 : decode cX5_keep 22 = .ok (.iload_n 1, 1) := by decide +kernel
theorem dX5_keep_23 : decode cX5_keep 23 = .ok (.aload_n 0, 1) := by decide +kernel
theorem dX5_keep_24 : decode cX5_keep 24 = .ok (.getfield 16, 3) := by decide +kernel
theorem dX5_keep_27 : decode cX5_keep 27 = .ok (.bipush 123, 2) := by decide +kernel
theorem dX5_keep_29 : decode cX5_keep 29 = .ok (.iload_n 1, 1) := by decide +kernel
theorem dX5_keep_30 : decode cX5_keep 30 = .ok (.iadd, 1) := by decide +kernel
theorem dX5_keep_31 : decode cX5_keep 31 = .ok (.iaload, 1) := by decide +kernel
theorem dX5_keep_32 : decode cX5_keep 32 = .ok (.iastore, 1) := by decide +kernel
theorem dX5_keep_33 : decode cX5_keep 33 = .ok (.iinc 1 1, 3) := by decide +kernel
theorem dX5_keep_36 : decode cX5_keep 36 = .ok (.goto (-25), 3) := by decide +kernel
theorem dX5_keep_39 : decode cX5_keep 39 = .ok (.aload_n 0, 1) := by decide +kernel
theorem dX5_keep_40 : decode cX5_keep 40 = .ok (.dup, 1) := by decide +kernel
theorem dX5_keep_41 : decode cX5_keep 41 = .ok (.getfield 36, 3) := by decide +kernel
theorem dX5_keep_44 : decode cX5_keep 44 = .ok (.iconst 1, 1) := by decide +kernel
theorem dX5_keep_45 : decode cX5_keep 45 = .ok (.isub, 1) := by decide +kernel
theorem dX5_keep_46 : decode cX5_keep 46 = .ok (.putfield 36, 3) := by decide +kernel
theorem dX5_keep_49 : decode cX5_keep 49 = .ok (.iconst 0, 1) := by decide +kernel
theorem dX5_keep_50 : decode cX5_keep 50 = .ok (.istore_n 1, 1) := by decide +kernel
theorem dX5_keep_51 : decode cX5_keep 51 = .ok (.iload_n 1, 1) := by decide +kernel
theorem dX5_keep_52 : decode cX5_keep 52 = .ok (.bipush 123, 2) := by decide +kernel
theorem dX5_keep_54 : decode cX5_keep 54 = .ok (.if_icmp .ge 29, 3) := by decide +kernel
theorem dX5_keep_57 : decode cX5_keep 57 = .ok (.aload_n 0, 1) := by decide +kernel
theorem dX5_keep_58 : decode cX5_keep 58 = .ok (.getfield 16, 3) := by decide +kernel
theorem dX5_keep_61 : decode cX5_keep 61 = .ok (.bipush 123, 2) := by decide +kernel
theorem dX5_keep_63 : decode cX5_keep 63 = .ok (.aload_n 0, 1) := by decide +kernel
theorem dX5_keep_64 : decode cX5_keep 64 = .ok (.getfield 36, 3) := by decide +kernel
theorem dX5_keep_67 : decode cX5_keep 67 = .ok (.imul, 1) := by decide +kernel
theorem dX5_keep_68 : decode cX5_keep 68 = .ok (.iload_n 1, 1) := by decide +kernel
theorem dX5_keep_69 : decode cX5_keep 69 = .ok (.iadd, 1) := by decide +kernel
theorem dX5_keep_70 : decode cX5_keep 70 = .ok (.aload_n 0, 1) := by decide +kernel
theorem dX5_keep_71 : decode cX5_keep 71 = .ok (.getfield 7, 3) := by decide +kernel
theorem dX5_keep_74 : decode cX5_keep 74 = .ok (.iload_n 1, 1) := by decide +kernel
theorem dX5_keep_75 : decode cX5_keep 75 = .ok (.iaload, 1) := by decide +kernel
theorem dX5_keep_76 : decode cX5_keep 76 = .ok (.iastore, 1) := by decide +kernel
theorem dX5_keep_77 : decode cX5_keep 77 = .ok (.iinc 1 1, 3) := by decide +kernel
theorem dX5_keep_80 : decode cX5_keep 80 = .ok (.goto (-29), 3) := by decide +kernel
theorem dX5_keep_83 : decode cX5_keep 83 = .ok (.aload_n 0, 1) := by decide +kernel
theorem dX5_keep_84 : decode cX5_keep 84 = .ok (.dup, 1) := by decide +kernel
theorem dX5_keep_85 : decode cX5_keep 85 = .ok (.getfield 36, 3) := by decide +kernel
theorem dX5_keep_88 : decode cX5_keep 88 = .ok (.iconst 1, 1) := by decide +kernel
theorem dX5_keep_89 : decode cX5_keep 89 = .ok (.iadd, 1) := by decide +kernel
theorem dX5_keep_90 : decode cX5_keep 90 = .ok (.putfield 36, 3) := by decide +kernel
theorem dX5_keep_93 : decode cX5_keep 93 = .ok (.return_, 1) := by decide +kernel
set_option maxRecDepth 20000 in
theorem ggX5_isSensor_X5_in : GoodIn wsX5_isSensor wsX5_in := goodIn_r _ [5] (by decide +kernel) (by decide +kernel)
set_option maxRecDepth 20000 in
theorem gX5_isSensor_X5_in : GoodIn wsX5_isSensor (va_wsS RX5 39 yX5_in wsX5_in) := goodIn_app (goodIn_of _ (by decide +kernel)) ggX5_isSensor_X5_in
theorem dX5_isSensor_0 : decode cX5_isSensor 0 = .ok (.iload_n 1, 1) := by decide +kernel
theorem dX5_isSensor_1 : decode cX5_isSensor 1 = .ok (.iconst 0, 1) := by decide +kernel
theorem dX5_isSensor_2 : decode cX5_isSensor 2 = .ok (.aload_n 0, 1) := by decide +kernel
theorem dX5_isSensor_3 : decode cX5_isSensor 3 = .ok (.getfield 7, 3) := by decide +kernel
theorem dX5_isSensor_6 : decode cX5_isSensor 6 = .ok (.iconst 0, 1) := by decide +kernel
theorem dX5_isSensor_7 : decode cX5_isSensor 7 = .ok (.iaload, 1) := by decide +kernel
theorem dX5_isSensor_8 : decode cX5_isSensor 8 = .ok (.iconst 1, 1) := by decide +kernel
theorem dX5_isSensor_9 : decode cX5_isSensor 9 = .ok (.isub, 1) := by decide +kernel
theorem dX5_isSensor_10 : decode cX5_isSensor 10 = .ok (.invokestatic 39, 3) := by decide +kernel
theorem dX5_isSensor_13 : decode cX5_isSensor 13 = .ok (.ireturn, 1) := by decide +kernel
theorem dX5_of_0 : decode cX5_of 0 = .ok (.aload_n 0, 1) := by decide +kernel
theorem dX5_of_1 : decode cX5_of 1 = .ok (.getfield 7, 3) := by decide +kernel
theorem dX5_of_4 : decode cX5_of 4 = .ok (.bipush 15, 2) := by decide +kernel
theorem dX5_of_6 : decode cX5_of 6 = .ok (.bipush 9, 2) := by decide +kernel
theorem dX5_of_8 : decode cX5_of 8 = .ok (.iload_n 1, 1) := by decide +kernel
theorem dX5_of_9 : decode cX5_of 9 = .ok (.imul, 1) := by decide +kernel
theorem dX5_of_10 : decode cX5_of 10 = .ok (.iadd, 1) := by decide +kernel
theorem dX5_of_11 : decode cX5_of 11 = .ok (.iload_n 2, 1) := by decide +kernel
theorem dX5_of_12 : decode cX5_of 12 = .ok (.iadd, 1) := by decide +kernel
theorem dX5_of_13 : decode cX5_of 13 = .ok (.iaload, 1) := by decide +kernel
theorem dX5_of_14 : decode cX5_of 14 = .ok (.ireturn, 1) := by decide +kernel
theorem dX5_set_0 : decode cX5_set 0 = .ok (.aload_n 0, 1) := by decide +kernel
theorem dX5_set_1 : decode cX5_set 1 = .ok (.getfield 7, 3) := by decide +kernel
theorem dX5_set_4 : decode cX5_set 4 = .ok (.bipush 15, 2) := by decide +kernel
theorem dX5_set_6 : decode cX5_set 6 = .ok (.bipush 9, 2) := by decide +kernel
theorem dX5_set_8 : decode cX5_set 8 = .ok (.iload_n 1, 1) := by decide +kernel
theorem dX5_set_9 : decode cX5_set 9 = .ok (.imul, 1) := by decide +kernel
theorem dX5_set_10 : decode cX5_set 10 = .ok (.iadd, 1) := by decide +kernel
theorem dX5_set_11 : decode cX5_set 11 = .ok (.iload_n 2, 1) := by decide +kernel
theorem dX5_set_12 : decode cX5_set 12 = .ok (.iadd, 1) := by decide +kernel
theorem dX5_set_13 : decode cX5_set 13 = .ok (.iload_n 3, 1) := by decide +kernel
theorem dX5_set_14 : decode cX5_set 14 = .ok (.iastore, 1) := by decide +kernel
theorem dX5_set_15 : decode cX5_set 15 = .ok (.return_, 1) := by decide +kernel
set_option maxRecDepth 20000 in
theorem ggX5_lives_X5_of : GoodIn wsX5_lives wsX5_of := goodIn_r _ [5, 6, 7, 8, 9, 10, 11, 12, 13, 14, 15] (by decide +kernel) (by decide +kernel)
set_option maxRecDepth 20000 in
theorem gX5_lives_X5_of : GoodIn wsX5_lives (wsV RX5 43 RX5 yX5_of wsX5_of) := goodIn_app (goodIn_of _ (by decide +kernel)) ggX5_lives_X5_of
theorem dX5_lives_0 : decode cX5_lives 0 = .ok (.aload_n 0, 1) := by decide +kernel
theorem dX5_lives_1 : decode cX5_lives 1 = .ok (.iload_n 1, 1) := by decide +kernel
theorem dX5_lives_2 : decode cX5_lives 2 = .ok (.iconst 3, 1) := by decide +kernel
theorem dX5_lives_3 : decode cX5_lives 3 = .ok (.invokevirtual 43, 3) := by decide +kernel
theorem dX5_lives_6 : decode cX5_lives 6 = .ok (.iconst 1, 1) := by decide +kernel
theorem dX5_lives_7 : decode cX5_lives 7 = .ok (.if_icmp .ne 7, 3) := by decide +kernel
theorem dX5_lives_10 : decode cX5_lives 10 = .ok (.iconst 1, 1) := by decide +kernel
theorem dX5_lives_11 : decode cX5_lives 11 = .ok (.goto 4, 3) := by decide +kernel
theorem dX5_lives_14 : decode cX5_lives 14 = .ok (.iconst 0, 1) := by decide +kernel
theorem dX5_lives_15 : decode cX5_lives 15 = .ok (.ireturn, 1) := by decide +kernel
theorem dX5_setting_0 : decode cX5_setting 0 = .ok (.aload_n 0, 1) := by decide +kernel
theorem dX5_setting_1 : decode cX5_setting 1 = .ok (.getfield 7, 3) := by decide +kernel
theorem dX5_setting_4 : decode cX5_setting 4 = .ok (.iconst 3, 1) := by decide +kernel
theorem dX5_setting_5 : decode cX5_setting 5 = .ok (.iload_n 1, 1) := by decide +kernel
theorem dX5_setting_6 : decode cX5_setting 6 = .ok (.iadd, 1) := by decide +kernel
theorem dX5_setting_7 : decode cX5_setting 7 = .ok (.iaload, 1) := by decide +kernel
theorem dX5_setting_8 : decode cX5_setting 8 = .ok (.ireturn, 1) := by decide +kernel
set_option maxRecDepth 20000 in
theorem ggX5_addSensor_X5_in : GoodIn wsX5_addSensor wsX5_in := goodIn_r _ [7] (by decide +kernel) (by decide +kernel)
set_option maxRecDepth 20000 in
theorem gX5_addSensor_X5_in : GoodIn wsX5_addSensor (va_wsS RX5 39 yX5_in wsX5_in) := goodIn_app (goodIn_of _ (by decide +kernel)) ggX5_addSensor_X5_in
set_option maxRecDepth 20000 in
theorem ggX5_addSensor_X5_keep : GoodIn wsX5_addSensor wsX5_keep := goodIn_r _ [11, 12, 13, 3, 18, 19, 20, 21, 22, 23, 24, 25, 26] (by decide +kernel) (by decide +kernel)
set_option maxRecDepth 20000 in
theorem gX5_addSensor_X5_keep : GoodIn wsX5_addSensor (wsV RX5 48 RX5 yX5_keep wsX5_keep) := goodIn_app (goodIn_of _ (by decide +kernel)) ggX5_addSensor_X5_keep
set_option maxRecDepth 20000 in
theorem ggX5_addSensor_X5_set : GoodIn wsX5_addSensor wsX5_set := goodIn_r _ [17, 3, 18, 19, 20, 21, 22, 23, 24, 25, 26] (by decide +kernel) (by decide +kernel)
set_option maxRecDepth 20000 in
theorem gX5_addSensor_X5_set : GoodIn wsX5_addSensor (wsV RX5 51 RX5 yX5_set wsX5_set) := goodIn_app (goodIn_of _ (by decide +kernel)) ggX5_addSensor_X5_set
theorem dX5_addSensor_0 : decode cX5_addSensor 0 = .ok (.aload_n 0, 1) := by decide +kernel
theorem dX5_addSensor_1 : decode cX5_addSensor 1 = .ok (.iconst 0, 1) := by decide +kernel
theorem dX5_addSensor_2 : decode cX5_addSensor 2 = .ok (.putfield 32, 3) := by decide +kernel
theorem dX5_addSensor_5 : decode cX5_addSensor 5 = .ok (.iload_n 1, 1) := by decide +kernel
theorem dX5_addSensor_6 : decode cX5_addSensor 6 = .ok (.iconst 0, 1) := by decide +kernel
theorem dX5_addSensor_7 : decode cX5_addSensor 7 = .ok (.bipush 99, 2) := by decide +kernel
theorem dX5_addSensor_9 : decode cX5_addSensor 9 = .ok (.invokestatic 39, 3) := by decide +kernel
theorem dX5_addSensor_12 : decode cX5_addSensor 12 = .ok (.ifCond .eq 23, 3) := by decide +kernel
theorem dX5_addSensor_15 : decode cX5_addSensor 15 = .ok (.iload_n 2, 1) := by decide +kernel
theorem dX5_addSensor_16 : decode cX5_addSensor 16 = .ok (.iconst 0, 1) := by decide +kernel
theorem dX5_addSensor_17 : decode cX5_addSensor 17 = .ok (.bipush 99, 2) := by decide +kernel
theorem dX5_addSensor_19 : decode cX5_addSensor 19 = .ok (.invokestatic 39, 3) := by decide +kernel
theorem dX5_addSensor_22 : decode cX5_addSensor 22 = .ok (.ifCond .eq 13, 3) := by decide +kernel
theorem dX5_addSensor_25 : decode cX5_addSensor 25 = .ok (.iload_n 3, 1) := by decide +kernel
theorem dX5_addSensor_26 : decode cX5_addSensor 26 = .ok (.iconst 0, 1) := by decide +kernel
theorem dX5_addSensor_27 : decode cX5_addSensor 27 = .ok (.ldc 47, 2) := by decide +kernel
theorem dX5_addSensor_29 : decode cX5_addSensor 29 = .ok (.invokestatic 39, 3) := by decide +kernel
theorem dX5_addSensor_32 : decode cX5_addSensor 32 = .ok (.ifCond .ne 5, 3) := by decide +kernel
theorem dX5_addSensor_35 : decode cX5_addSensor 35 = .ok (.iconst (-1), 1) := by decide +kernel
theorem dX5_addSensor_36 : decode cX5_addSensor 36 = .ok (.ireturn, 1) := by decide +kernel
theorem dX5_addSensor_37 : decode cX5_addSensor 37 = .ok (.aload_n 0, 1) := by decide +kernel
theorem dX5_addSensor_38 : decode cX5_addSensor 38 = .ok (.getfield 7, 3) := by decide +kernel
theorem dX5_addSensor_41 : decode cX5_addSensor 41 = .ok (.iconst 0, 1) := by decide +kernel
theorem dX5_addSensor_42 : decode cX5_addSensor 42 = .ok (.iaload, 1) := by decide +kernel
theorem dX5_addSensor_43 : decode cX5_addSensor 43 = .ok (.bipush 12, 2) := by decide +kernel
theorem dX5_addSensor_45 : decode cX5_addSensor 45 = .ok (.if_icmp .ne 6, 3) := by decide +kernel
theorem dX5_addSensor_48 : decode cX5_addSensor 48 = .ok (.bipush (-3), 2) := by decide +kernel
theorem dX5_addSensor_50 : decode cX5_addSensor 50 = .ok (.ireturn, 1) := by decide +kernel
theorem dX5_addSensor_51 : decode cX5_addSensor 51 = .ok (.aload_n 0, 1) := by decide +kernel
theorem dX5_addSensor_52 : decode cX5_addSensor 52 = .ok (.invokevirtual 48, 3) := by decide +kernel
theorem dX5_addSensor_55 : decode cX5_addSensor 55 = .ok (.aload_n 0, 1) := by decide +kernel
theorem dX5_addSensor_56 : decode cX5_addSensor 56 = .ok (.getfield 7, 3) := by decide +kernel
theorem dX5_addSensor_59 : decode cX5_addSensor 59 = .ok (.iconst 0, 1) := by decide +kernel
theorem dX5_addSensor_60 : decode cX5_addSensor 60 = .ok (.iaload, 1) := by decide +kernel
theorem dX5_addSensor_61 : decode cX5_addSensor 61 = .ok (.istore 4, 2) := by decide +kernel
theorem dX5_addSensor_63 : decode cX5_addSensor 63 = .ok (.aload_n 0, 1) := by decide +kernel
theorem dX5_addSensor_64 : decode cX5_addSensor 64 = .ok (.iload 4, 2) := by decide +kernel
theorem dX5_addSensor_66 : decode cX5_addSensor 66 = .ok (.iconst 0, 1) := by decide +kernel
theorem dX5_addSensor_67 : decode cX5_addSensor 67 = .ok (.iload_n 1, 1) := by decide +kernel
theorem dX5_addSensor_68 : decode cX5_addSensor 68 = .ok (.invokevirtual 51, 3) := by decide +kernel
theorem dX5_addSensor_71 : decode cX5_addSensor 71 = .ok (.aload_n 0, 1) := by decide +kernel
theorem dX5_addSensor_72 : decode cX5_addSensor 72 = .ok (.iload 4, 2) := by decide +kernel
theorem dX5_addSensor_74 : decode cX5_addSensor 74 = .ok (.iconst 1, 1) := by decide +kernel
theorem dX5_addSensor_75 : decode cX5_addSensor 75 = .ok (.iload_n 2, 1) := by decide +kernel
theorem dX5_addSensor_76 : decode cX5_addSensor 76 = .ok (.invokevirtual 51, 3) := by decide +kernel
theorem dX5_addSensor_79 : decode cX5_addSensor 79 = .ok (.aload_n 0, 1) := by decide +kernel
theorem dX5_addSensor_80 : decode cX5_addSensor 80 = .ok (.iload 4, 2) := by decide +kernel
theorem dX5_addSensor_82 : decode cX5_addSensor 82 = .ok (.iconst 2, 1) := by decide +kernel
theorem dX5_addSensor_83 : decode cX5_addSensor 83 = .ok (.iload_n 3, 1) := by decide +kernel
theorem dX5_addSensor_84 : decode cX5_addSensor 84 = .ok (.invokevirtual 51, 3) := by decide +kernel
theorem dX5_addSensor_87 : decode cX5_addSensor 87 = .ok (.aload_n 0, 1) := by decide +kernel
theorem dX5_addSensor_88 : decode cX5_addSensor 88 = .ok (.iload 4, 2) := by decide +kernel
theorem dX5_addSensor_90 : decode cX5_addSensor 90 = .ok (.iconst 3, 1) := by decide +kernel
theorem dX5_addSensor_91 : decode cX5_addSensor 91 = .ok (.iconst 1, 1) := by decide +kernel
theorem dX5_addSensor_92 : decode cX5_addSensor 92 = .ok (.invokevirtual 51, 3) := by decide +kernel
theorem dX5_addSensor_95 : decode cX5_addSensor 95 = .ok (.aload_n 0, 1) := by decide +kernel
theorem dX5_addSensor_96 : decode cX5_addSensor 96 = .ok (.iload 4, 2) := by decide +kernel
theorem dX5_addSensor_98 : decode cX5_addSensor 98 = .ok (.iconst 4, 1) := by decide +kernel
theorem dX5_addSensor_99 : decode cX5_addSensor 99 = .ok (.iconst 1, 1) := by decide +kernel
theorem dX5_addSensor_100 : decode cX5_addSensor 100 = .ok (.invokevirtual 51, 3) := by decide +kernel
theorem dX5_addSensor_103 : decode cX5_addSensor 103 = .ok (.aload_n 0, 1) := by decide +kernel
theorem dX5_addSensor_104 : decode cX5_addSensor 104 = .ok (.iload 4, 2) := by decide +kernel
theorem dX5_addSensor_106 : decode cX5_addSensor 106 = .ok (.iconst 5, 1) := by decide +kernel
theorem dX5_addSensor_107 : decode cX5_addSensor 107 = .ok (.iconst 0, 1) := by decide +kernel
theorem dX5_addSensor_108 : decode cX5_addSensor 108 = .ok (.invokevirtual 51, 3) := by decide +kernel
theorem dX5_addSensor_111 : decode cX5_addSensor 111 = .ok (.aload_n 0, 1) := by decide +kernel
theorem dX5_addSensor_112 : decode cX5_addSensor 112 = .ok (.iload 4, 2) := by decide +kernel
theorem dX5_addSensor_114 : decode cX5_addSensor 114 = .ok (.bipush 6, 2) := by decide +kernel
theorem dX5_addSensor_116 : decode cX5_addSensor 116 = .ok (.bipush (-9), 2) := by decide +kernel
theorem dX5_addSensor_118 : decode cX5_addSensor 118 = .ok (.invokevirtual 51, 3) := by decide +kernel
theorem dX5_addSensor_121 : decode cX5_addSensor 121 = .ok (.aload_n 0, 1) := by decide +kernel
theorem dX5_addSensor_122 : decode cX5_addSensor 122 = .ok (.iload 4, 2) := by decide +kernel
theorem dX5_addSensor_124 : decode cX5_addSensor 124 = .ok (.bipush 7, 2) := by decide +kernel
theorem dX5_addSensor_126 : decode cX5_addSensor 126 = .ok (.bipush (-9), 2) := by decide +kernel
theorem dX5_addSensor_128 : decode cX5_addSensor 128 = .ok (.invokevirtual 51, 3) := by decide +kernel
theorem dX5_addSensor_131 : decode cX5_addSensor 131 = .ok (.aload_n 0, 1) := by decide +kernel
theorem dX5_addSensor_132 : decode cX5_addSensor 132 = .ok (.iload 4, 2) := by decide +kernel
theorem dX5_addSensor_134 : decode cX5_addSensor 134 = .ok (.bipush 8, 2) := by decide +kernel
theorem dX5_addSensor_136 : decode cX5_addSensor 136 = .ok (.bipush (-9), 2) := by decide +kernel
theorem dX5_addSensor_138 : decode cX5_addSensor 138 = .ok (.invokevirtual 51, 3) := by decide +kernel
theorem dX5_addSensor_141 : decode cX5_addSensor 141 = .ok (.aload_n 0, 1) := by decide +kernel
theorem dX5_addSensor_142 : decode cX5_addSensor 142 = .ok (.getfield 7, 3) := by decide +kernel
theorem dX5_addSensor_145 : decode cX5_addSensor 145 = .ok (.iconst 0, 1) := by decide +kernel
theorem dX5_addSensor_146 : decode cX5_addSensor 146 = .ok (.dup2, 1) := by decide +kernel
theorem dX5_addSensor_147 : decode cX5_addSensor 147 = .ok (.iaload, 1) := by decide +kernel
theorem dX5_addSensor_148 : decode cX5_addSensor 148 = .ok (.iconst 1, 1) := by decide +kernel
theorem dX5_addSensor_149 : decode cX5_addSensor 149 = .ok (.iadd, 1) := by decide +kernel
theorem dX5_addSensor_150 : decode cX5_addSensor 150 = .ok (.iastore, 1) := by decide +kernel
theorem dX5_addSensor_151 : decode cX5_addSensor 151 = .ok (.iload 4, 2) := by decide +kernel
theorem dX5_addSensor_153 : decode cX5_addSensor 153 = .ok (.ireturn, 1) := by decide +kernel
set_option maxRecDepth 20000 in
theorem ggX5_moveBase_X5_in : GoodIn wsX5_moveBase wsX5_in := goodIn_r _ [6] (by decide +kernel) (by decide +kernel)
set_option maxRecDepth 20000 in
theorem gX5_moveBase_X5_in : GoodIn wsX5_moveBase (va_wsS RX5 39 yX5_in wsX5_in) := goodIn_app (goodIn_of _ (by decide +kernel)) ggX5_moveBase_X5_in
set_option maxRecDepth 20000 in
theorem ggX5_moveBase_X5_keep : GoodIn wsX5_moveBase wsX5_keep := goodIn_r _ [10, 11, 12, 2, 13, 14, 15, 16, 17, 18, 19, 20, 21] (by decide +kernel) (by decide +kernel)
set_option maxRecDepth 20000 in
theorem gX5_moveBase_X5_keep : GoodIn wsX5_moveBase (wsV RX5 48 RX5 yX5_keep wsX5_keep) := goodIn_app (goodIn_of _ (by decide +kernel)) ggX5_moveBase_X5_keep
theorem dX5_moveBase_0 : decode cX5_moveBase 0 = .ok (.aload_n 0, 1) := by decide +kernel
theorem dX5_moveBase_1 : decode cX5_moveBase 1 = .ok (.iconst 0, 1) := by decide +kernel
theorem dX5_moveBase_2 : decode cX5_moveBase 2 = .ok (.putfield 32, 3) := by decide +kernel
theorem dX5_moveBase_5 : decode cX5_moveBase 5 = .ok (.iload_n 1, 1) := by decide +kernel
theorem dX5_moveBase_6 : decode cX5_moveBase 6 = .ok (.iconst 0, 1) := by decide +kernel
theorem dX5_moveBase_7 : decode cX5_moveBase 7 = .ok (.sipush 199, 3) := by decide +kernel
theorem dX5_moveBase_10 : decode cX5_moveBase 10 = .ok (.invokestatic 39, 3) := by decide +kernel
theorem dX5_moveBase_13 : decode cX5_moveBase 13 = .ok (.ifCond .eq 14, 3) := by decide +kernel
theorem dX5_moveBase_16 : decode cX5_moveBase 16 = .ok (.iload_n 2, 1) := by decide +kernel
theorem dX5_moveBase_17 : decode cX5_moveBase 17 = .ok (.iconst 0, 1) := by decide +kernel
theorem dX5_moveBase_18 : decode cX5_moveBase 18 = .ok (.sipush 199, 3) := by decide +kernel
theorem dX5_moveBase_21 : decode cX5_moveBase 21 = .ok (.invokestatic 39, 3) := by decide +kernel
theorem dX5_moveBase_24 : decode cX5_moveBase 24 = .ok (.ifCond .ne 5, 3) := by decide +kernel
theorem dX5_moveBase_27 : decode cX5_moveBase 27 = .ok (.iconst (-1), 1) := by decide +kernel
theorem dX5_moveBase_28 : decode cX5_moveBase 28 = .ok (.ireturn, 1) := by decide +kernel
theorem dX5_moveBase_29 : decode cX5_moveBase 29 = .ok (.aload_n 0, 1) := by decide +kernel
theorem dX5_moveBase_30 : decode cX5_moveBase 30 = .ok (.invokevirtual 48, 3) := by decide +kernel
theorem dX5_moveBase_33 : decode cX5_moveBase 33 = .ok (.sipush 200, 3) := by decide +kernel
theorem dX5_moveBase_36 : decode cX5_moveBase 36 = .ok (.aload_n 0, 1) := by decide +kernel
theorem dX5_moveBase_37 : decode cX5_moveBase 37 = .ok (.getfield 7, 3) := by decide +kernel
theorem dX5_moveBase_40 : decode cX5_moveBase 40 = .ok (.iconst 1, 1) := by decide +kernel
theorem dX5_moveBase_41 : decode cX5_moveBase 41 = .ok (.iaload, 1) := by decide +kernel
theorem dX5_moveBase_42 : decode cX5_moveBase 42 = .ok (.imul, 1) := by decide +kernel
theorem dX5_moveBase_43 : decode cX5_moveBase 43 = .ok (.aload_n 0, 1) := by decide +kernel
theorem dX5_moveBase_44 : decode cX5_moveBase 44 = .ok (.getfield 7, 3) := by decide +kernel
theorem dX5_moveBase_47 : decode cX5_moveBase 47 = .ok (.iconst 2, 1) := by decide +kernel
theorem dX5_moveBase_48 : decode cX5_moveBase 48 = .ok (.iaload, 1) := by decide +kernel
theorem dX5_moveBase_49 : decode cX5_moveBase 49 = .ok (.iadd, 1) := by decide +kernel
theorem dX5_moveBase_50 : decode cX5_moveBase 50 = .ok (.istore_n 3, 1) := by decide +kernel
theorem dX5_moveBase_51 : decode cX5_moveBase 51 = .ok (.aload_n 0, 1) := by decide +kernel
theorem dX5_moveBase_52 : decode cX5_moveBase 52 = .ok (.getfield 7, 3) := by decide +kernel
theorem dX5_moveBase_55 : decode cX5_moveBase 55 = .ok (.iconst 1, 1) := by decide +kernel
theorem dX5_moveBase_56 : decode cX5_moveBase 56 = .ok (.iload_n 1, 1) := by decide +kernel
theorem dX5_moveBase_57 : decode cX5_moveBase 57 = .ok (.iastore, 1) := by decide +kernel
theorem dX5_moveBase_58 : decode cX5_moveBase 58 = .ok (.aload_n 0, 1) := by decide +kernel
theorem dX5_moveBase_59 : decode cX5_moveBase 59 = .ok (.getfield 7, 3) := by decide +kernel
theorem dX5_moveBase_62 : decode cX5_moveBase 62 = .ok (.iconst 2, 1) := by decide +kernel
theorem dX5_moveBase_63 : decode cX5_moveBase 63 = .ok (.iload_n 2, 1) := by decide +kernel
theorem dX5_moveBase_64 : decode cX5_moveBase 64 = .ok (.iastore, 1) := by decide +kernel
theorem dX5_moveBase_65 : decode cX5_moveBase 65 = .ok (.iload_n 3, 1) := by decide +kernel
theorem dX5_moveBase_66 : decode cX5_moveBase 66 = .ok (.ireturn, 1) := by decide +kernel
set_option maxRecDepth 20000 in
theorem ggX5_isSettingValue_X5_in : GoodIn wsX5_isSettingValue wsX5_in := goodIn_r _ [4] (by decide +kernel) (by decide +kernel)
set_option maxRecDepth 20000 in
theorem gX5_isSettingValue_X5_in : GoodIn wsX5_isSettingValue (va_wsS RX5 39 yX5_in wsX5_in) := goodIn_app (goodIn_of _ (by decide +kernel)) ggX5_isSettingValue_X5_in
theorem dX5_isSettingValue_0 : decode cX5_isSettingValue 0 = .ok (.iload_n 0, 1) := by decide +kernel
theorem dX5_isSettingValue_1 : decode cX5_isSettingValue 1 = .ok (.tableswitch 76 0 4 #[35, 43, 51, 60, 68], 35) := by decide +kernel
theorem dX5_isSettingValue_36 : decode cX5_isSettingValue 36 = .ok (.iload_n 1, 1) := by decide +kernel
theorem dX5_isSettingValue_37 : decode cX5_isSettingValue 37 = .ok (.iconst 2, 1) := by decide +kernel
theorem dX5_isSettingValue_38 : decode cX5_isSettingValue 38 = .ok (.bipush 8, 2) := by decide +kernel
theorem dX5_isSettingValue_40 : decode cX5_isSettingValue 40 = .ok (.invokestatic 39, 3) := by decide +kernel
theorem dX5_isSettingValue_43 : decode cX5_isSettingValue 43 = .ok (.ireturn, 1) := by decide +kernel
theorem dX5_isSettingValue_44 : decode cX5_isSettingValue 44 = .ok (.iload_n 1, 1) := by decide +kernel
theorem dX5_isSettingValue_45 : decode cX5_isSettingValue 45 = .ok (.iconst 1, 1) := by decide +kernel
theorem dX5_isSettingValue_46 : decode cX5_isSettingValue 46 = .ok (.bipush 50, 2) := by decide +kernel
theorem dX5_isSettingValue_48 : decode cX5_isSettingValue 48 = .ok (.invokestatic 39, 3) := by decide +kernel
theorem dX5_isSettingValue_51 : decode cX5_isSettingValue 51 = .ok (.ireturn, 1) := by decide +kernel
theorem dX5_isSettingValue_52 : decode cX5_isSettingValue 52 = .ok (.iload_n 1, 1) := by decide +kernel
theorem dX5_isSettingValue_53 : decode cX5_isSettingValue 53 = .ok (.iconst 1, 1) := by decide +kernel
theorem dX5_isSettingValue_54 : decode cX5_isSettingValue 54 = .ok (.sipush 1000, 3) := by decide +kernel
theorem dX5_isSettingValue_57 : decode cX5_isSettingValue 57 = .ok (.invokestatic 39, 3) := by decide +kernel
theorem dX5_isSettingValue_60 : decode cX5_isSettingValue 60 = .ok (.ireturn, 1) := by decide +kernel
theorem dX5_isSettingValue_61 : decode cX5_isSettingValue 61 = .ok (.iload_n 1, 1) := by decide +kernel
theorem dX5_isSettingValue_62 : decode cX5_isSettingValue 62 = .ok (.iconst 0, 1) := by decide +kernel
theorem dX5_isSettingValue_63 : decode cX5_isSettingValue 63 = .ok (.bipush 20, 2) := by decide +kernel
theorem dX5_isSettingValue_65 : decode cX5_isSettingValue 65 = .ok (.invokestatic 39, 3) := by decide +kernel
theorem dX5_isSettingValue_68 : decode cX5_isSettingValue 68 = .ok (.ireturn, 1) := by decide +kernel
theorem dX5_isSettingValue_69 : decode cX5_isSettingValue 69 = .ok (.iload_n 1, 1) := by decide +kernel
theorem dX5_isSettingValue_70 : decode cX5_isSettingValue 70 = .ok (.iconst 0, 1) := by decide +kernel
theorem dX5_isSettingValue_71 : decode cX5_isSettingValue 71 = .ok (.bipush 50, 2) := by decide +kernel
theorem dX5_isSettingValue_73 : decode cX5_isSettingValue 73 = .ok (.invokestatic 39, 3) := by decide +kernel
theorem dX5_isSettingValue_76 : decode cX5_isSettingValue 76 = .ok (.ireturn, 1) := by decide +kernel
theorem dX5_isSettingValue_77 : decode cX5_isSettingValue 77 = .ok (.iload_n 0, 1) := by decide +kernel
theorem dX5_isSettingValue_78 : decode cX5_isSettingValue 78 = .ok (.iconst 5, 1) := by decide +kernel
theorem dX5_isSettingValue_79 : decode cX5_isSettingValue 79 = .ok (.if_icmp .ne 16, 3) := by decide +kernel
theorem dX5_isSettingValue_82 : decode cX5_isSettingValue 82 = .ok (.iload_n 1, 1) := by decide +kernel
theorem dX5_isSettingValue_83 : decode cX5_isSettingValue 83 = .ok (.iconst 0, 1) := by decide +kernel
theorem dX5_isSettingValue_84 : decode cX5_isSettingValue 84 = .ok (.iconst 1, 1) := by decide +kernel
theorem dX5_isSettingValue_85 : decode cX5_isSettingValue 85 = .ok (.invokestatic 39, 3) := by decide +kernel
theorem dX5_isSettingValue_88 : decode cX5_isSettingValue 88 = .ok (.ifCond .eq 7, 3) := by decide +kernel
theorem dX5_isSettingValue_91 : decode cX5_isSettingValue 91 = .ok (.iconst 1, 1) := by decide +kernel
theorem dX5_isSettingValue_92 : decode cX5_isSettingValue 92 = .ok (.goto 4, 3) := by decide +kernel
theorem dX5_isSettingValue_95 : decode cX5_isSettingValue 95 = .ok (.iconst 0, 1) := by decide +kernel
theorem dX5_isSettingValue_96 : decode cX5_isSettingValue 96 = .ok (.ireturn, 1) := by decide +kernel
set_option maxRecDepth 20000 in
theorem ggX5_setSetting_X5_isSettingValue : GoodIn wsX5_setSetting wsX5_isSettingValue := goodIn_r _ [6, 7, 8, 5, 9] (by decide +kernel) (by decide +kernel)
set_option maxRecDepth 20000 in
theorem gX5_setSetting_X5_isSettingValue : GoodIn wsX5_setSetting (va_wsS RX5 55 yX5_isSettingValue wsX5_isSettingValue) := goodIn_app (goodIn_of _ (by decide +kernel)) ggX5_setSetting_X5_isSettingValue
set_option maxRecDepth 20000 in
theorem ggX5_setSetting_X5_keep : GoodIn wsX5_setSetting wsX5_keep := goodIn_r _ [13, 14, 15, 2, 16, 17, 18, 19, 20, 21, 22, 23, 24] (by decide +kernel) (by decide +kernel)
set_option maxRecDepth 20000 in
theorem gX5_setSetting_X5_keep : GoodIn wsX5_setSetting (wsV RX5 48 RX5 yX5_keep wsX5_keep) := goodIn_app (goodIn_of _ (by decide +kernel)) ggX5_setSetting_X5_keep
theorem dX5_setSetting_0 : decode cX5_setSetting 0 = .ok (.aload_n 0, 1) := by decide +kernel
theorem dX5_setSetting_1 : decode cX5_setSetting 1 = .ok (.iconst 0, 1) := by decide +kernel
theorem dX5_setSetting_2 : decode cX5_setSetting 2 = .ok (.putfield 32, 3) := by decide +kernel
theorem dX5_setSetting_5 : decode cX5_setSetting 5 = .ok (.iload_n 1, 1) := by decide +kernel
theorem dX5_setSetting_6 : decode cX5_setSetting 6 = .ok (.iload_n 2, 1) := by decide +kernel
theorem dX5_setSetting_7 : decode cX5_setSetting 7 = .ok (.invokestatic 55, 3) := by decide +kernel
theorem dX5_setSetting_10 : decode cX5_setSetting 10 = .ok (.ifCond .ne 5, 3) := by decide +kernel
theorem dX5_setSetting_13 : decode cX5_setSetting 13 = .ok (.iconst (-1), 1) := by decide +kernel
theorem dX5_setSetting_14 : decode cX5_setSetting 14 = .ok (.ireturn, 1) := by decide +kernel
theorem dX5_setSetting_15 : decode cX5_setSetting 15 = .ok (.aload_n 0, 1) := by decide +kernel
theorem dX5_setSetting_16 : decode cX5_setSetting 16 = .ok (.getfield 7, 3) := by decide +kernel
theorem dX5_setSetting_19 : decode cX5_setSetting 19 = .ok (.iconst 3, 1) := by decide +kernel
theorem dX5_setSetting_20 : decode cX5_setSetting 20 = .ok (.iload_n 1, 1) := by decide +kernel
theorem dX5_setSetting_21 : decode cX5_setSetting 21 = .ok (.iadd, 1) := by decide +kernel
theorem dX5_setSetting_22 : decode cX5_setSetting 22 = .ok (.iaload, 1) := by decide +kernel
theorem dX5_setSetting_23 : decode cX5_setSetting 23 = .ok (.istore_n 3, 1) := by decide +kernel
theorem dX5_setSetting_24 : decode cX5_setSetting 24 = .ok (.iload_n 3, 1) := by decide +kernel
theorem dX5_setSetting_25 : decode cX5_setSetting 25 = .ok (.iload_n 2, 1) := by decide +kernel
theorem dX5_setSetting_26 : decode cX5_setSetting 26 = .ok (.if_icmp .ne 6, 3) := by decide +kernel
theorem dX5_setSetting_29 : decode cX5_setSetting 29 = .ok (.bipush (-2), 2) := by decide +kernel
theorem dX5_setSetting_31 : decode cX5_setSetting 31 = .ok (.ireturn, 1) := by decide +kernel
theorem dX5_setSetting_32 : decode cX5_setSetting 32 = .ok (.aload_n 0, 1) := by decide +kernel
theorem dX5_setSetting_33 : decode cX5_setSetting 33 = .ok (.invokevirtual 48, 3) := by decide +kernel
theorem dX5_setSetting_36 : decode cX5_setSetting 36 = .ok (.aload_n 0, 1) := by decide +kernel
theorem dX5_setSetting_37 : decode cX5_setSetting 37 = .ok (.getfield 7, 3) := by decide +kernel
theorem dX5_setSetting_40 : decode cX5_setSetting 40 = .ok (.iconst 3, 1) := by decide +kernel
theorem dX5_setSetting_41 : decode cX5_setSetting 41 = .ok (.iload_n 1, 1) := by decide +kernel
theorem dX5_setSetting_42 : decode cX5_setSetting 42 = .ok (.iadd, 1) := by decide +kernel
theorem dX5_setSetting_43 : decode cX5_setSetting 43 = .ok (.iload_n 2, 1) := by decide +kernel
theorem dX5_setSetting_44 : decode cX5_setSetting 44 = .ok (.iastore, 1) := by decide +kernel
theorem dX5_setSetting_45 : decode cX5_setSetting 45 = .ok (.iload_n 3, 1) := by decide +kernel
theorem dX5_setSetting_46 : decode cX5_setSetting 46 = .ok (.ireturn, 1) := by decide +kernel
set_option maxRecDepth 20000 in
theorem ggX5_setGenerator_X5_keep : GoodIn wsX5_setGenerator wsX5_keep := goodIn_r _ [7, 8, 9, 2, 10, 11, 12, 13, 14, 15, 16, 17, 18] (by decide +kernel) (by decide +kernel)
set_option maxRecDepth 20000 in
theorem gX5_setGenerator_X5_keep : GoodIn wsX5_setGenerator (wsV RX5 48 RX5 yX5_keep wsX5_keep) := goodIn_app (goodIn_of _ (by decide +kernel)) ggX5_setGenerator_X5_keep
theorem dX5_setGenerator_0 : decode cX5_setGenerator 0 = .ok (.aload_n 0, 1) := by decide +kernel
theorem dX5_setGenerator_1 : decode cX5_setGenerator 1 = .ok (.iconst 0, 1) := by decide +kernel
theorem dX5_setGenerator_2 : decode cX5_setGenerator 2 = .ok (.putfield 32, 3) := by decide +kernel
theorem dX5_setGenerator_5 : decode cX5_setGenerator 5 = .ok (.iload_n 1, 1) := by decide +kernel
theorem dX5_setGenerator_6 : decode cX5_setGenerator 6 = .ok (.ifCond .ge 5, 3) := by decide +kernel
theorem dX5_setGenerator_9 : decode cX5_setGenerator 9 = .ok (.iconst (-1), 1) := by decide +kernel
theorem dX5_setGenerator_10 : decode cX5_setGenerator 10 = .ok (.ireturn, 1) := by decide +kernel
theorem dX5_setGenerator_11 : decode cX5_setGenerator 11 = .ok (.aload_n 0, 1) := by decide +kernel
theorem dX5_setGenerator_12 : decode cX5_setGenerator 12 = .ok (.invokevirtual 48, 3) := by decide +kernel
theorem dX5_setGenerator_15 : decode cX5_setGenerator 15 = .ok (.aload_n 0, 1) := by decide +kernel
theorem dX5_setGenerator_16 : decode cX5_setGenerator 16 = .ok (.getfield 7, 3) := by decide +kernel
theorem dX5_setGenerator_19 : decode cX5_setGenerator 19 = .ok (.bipush 9, 2) := by decide +kernel
theorem dX5_setGenerator_21 : decode cX5_setGenerator 21 = .ok (.iload_n 1, 1) := by decide +kernel
theorem dX5_setGenerator_22 : decode cX5_setGenerator 22 = .ok (.iastore, 1) := by decide +kernel
theorem dX5_setGenerator_23 : decode cX5_setGenerator 23 = .ok (.aload_n 0, 1) := by decide +kernel
theorem dX5_setGenerator_24 : decode cX5_setGenerator 24 = .ok (.getfield 7, 3) := by decide +kernel
theorem dX5_setGenerator_27 : decode cX5_setGenerator 27 = .ok (.bipush 10, 2) := by decide +kernel
theorem dX5_setGenerator_29 : decode cX5_setGenerator 29 = .ok (.iaload, 1) := by decide +kernel
theorem dX5_setGenerator_30 : decode cX5_setGenerator 30 = .ok (.ireturn, 1) := by decide +kernel
set_option maxRecDepth 20000 in
theorem ggX5_charge_X5_isSensor : GoodIn wsX5_charge wsX5_isSensor := goodIn_r _ [8, 9, 10, 11, 7, 12, 31, 32, 33, 34, 35, 36, 37, 38, 39] (by decide +kernel) (by decide +kernel)
set_option maxRecDepth 20000 in
theorem gX5_charge_X5_isSensor : GoodIn wsX5_charge (wsV RX5 59 RX5 yX5_isSensor wsX5_isSensor) := goodIn_app (goodIn_of _ (by decide +kernel)) ggX5_charge_X5_isSensor
set_option maxRecDepth 20000 in
theorem ggX5_charge_X5_in : GoodIn wsX5_charge wsX5_in := goodIn_r _ [12] (by decide +kernel) (by decide +kernel)
set_option maxRecDepth 20000 in
theorem gX5_charge_X5_in : GoodIn wsX5_charge (va_wsS RX5 39 yX5_in wsX5_in) := goodIn_app (goodIn_of _ (by decide +kernel)) ggX5_charge_X5_in
set_option maxRecDepth 20000 in
theorem ggX5_charge_X5_lives : GoodIn wsX5_charge wsX5_lives := goodIn_r _ [16, 17, 18, 19, 7, 20, 9, 31, 32, 33, 34, 35, 36, 37, 38, 39] (by decide +kernel) (by decide +kernel)
set_option maxRecDepth 20000 in
theorem gX5_charge_X5_lives : GoodIn wsX5_charge (wsV RX5 63 RX5 yX5_lives wsX5_lives) := goodIn_app (goodIn_of _ (by decide +kernel)) ggX5_charge_X5_lives
set_option maxRecDepth 20000 in
theorem ggX5_charge_X5_of : GoodIn wsX5_charge wsX5_of := goodIn_r _ [20, 9, 31, 32, 33, 34, 35, 36, 37, 38, 39] (by decide +kernel) (by decide +kernel)
set_option maxRecDepth 20000 in
theorem gX5_charge_X5_of : GoodIn wsX5_charge (wsV RX5 43 RX5 yX5_of wsX5_of) := goodIn_app (goodIn_of _ (by decide +kernel)) ggX5_charge_X5_of
set_option maxRecDepth 20000 in
theorem ggX5_charge_X5_keep : GoodIn wsX5_charge wsX5_keep := goodIn_r _ [24, 25, 26, 9, 31, 32, 33, 34, 35, 36, 37, 38, 39] (by decide +kernel) (by decide +kernel)
set_option maxRecDepth 20000 in
theorem gX5_charge_X5_keep : GoodIn wsX5_charge (wsV RX5 48 RX5 yX5_keep wsX5_keep) := goodIn_app (goodIn_of _ (by decide +kernel)) ggX5_charge_X5_keep
set_option maxRecDepth 20000 in
theorem ggX5_charge_X5_set : GoodIn wsX5_charge wsX5_set := goodIn_r _ [30, 9, 31, 32, 33, 34, 35, 36, 37, 38, 39] (by decide +kernel) (by decide +kernel)
set_option maxRecDepth 20000 in
theorem gX5_charge_X5_set : GoodIn wsX5_charge (wsV RX5 51 RX5 yX5_set wsX5_set) := goodIn_app (goodIn_of _ (by decide +kernel)) ggX5_charge_X5_set
theorem dX5_charge_0 : decode cX5_charge 0 = .ok (.aload_n 0, 1) := by decide +kernel
theorem dX5_charge_1 : decode cX5_charge 1 = .ok (.iconst 0, 1) := by decide +kernel
theorem dX5_charge_2 : decode cX5_charge 2 = .ok (.putfield 32, 3) := by decide +kernel
theorem dX5_charge_5 : decode cX5_charge 5 = .ok (.aload_n 0, 1) := by decide +kernel
theorem dX5_charge_6 : decode cX5_charge 6 = .ok (.iload_n 1, 1) := by decide +kernel
theorem dX5_charge_7 : decode cX5_charge 7 = .ok (.invokevirtual 59, 3) := by decide +kernel
theorem dX5_charge_10 : decode cX5_charge 10 = .ok (.ifCond .eq 13, 3) := by decide +kernel
theorem dX5_charge_13 : decode cX5_charge 13 = .ok (.iload_n 2, 1) := by decide +kernel
theorem dX5_charge_14 : decode cX5_charge 14 = .ok (.iconst 1, 1) := by decide +kernel
theorem dX5_charge_15 : decode cX5_charge 15 = .ok (.ldc 47, 2) := by decide +kernel
theorem dX5_charge_17 : decode cX5_charge 17 = .ok (.invokestatic 39, 3) := by decide +kernel
theorem dX5_charge_20 : decode cX5_charge 20 = .ok (.ifCond .ne 5, 3) := by decide +kernel
theorem dX5_charge_23 : decode cX5_charge 23 = .ok (.iconst (-1), 1) := by decide +kernel
theorem dX5_charge_24 : decode cX5_charge 24 = .ok (.ireturn, 1) := by decide +kernel
theorem dX5_charge_25 : decode cX5_charge 25 = .ok (.aload_n 0, 1) := by decide +kernel
theorem dX5_charge_26 : decode cX5_charge 26 = .ok (.iload_n 1, 1) := by decide +kernel
theorem dX5_charge_27 : decode cX5_charge 27 = .ok (.invokevirtual 63, 3) := by decide +kernel
theorem dX5_charge_30 : decode cX5_charge 30 = .ok (.ifCond .eq 16, 3) := by decide +kernel
theorem dX5_charge_33 : decode cX5_charge 33 = .ok (.aload_n 0, 1) := by decide +kernel
theorem dX5_charge_34 : decode cX5_charge 34 = .ok (.iload_n 1, 1) := by decide +kernel
theorem dX5_charge_35 : decode cX5_charge 35 = .ok (.iconst 2, 1) := by decide +kernel
theorem dX5_charge_36 : decode cX5_charge 36 = .ok (.invokevirtual 43, 3) := by decide +kernel
theorem dX5_charge_39 : decode cX5_charge 39 = .ok (.iload_n 2, 1) := by decide +kernel
theorem dX5_charge_40 : decode cX5_charge 40 = .ok (.iadd, 1) := by decide +kernel
theorem dX5_charge_41 : decode cX5_charge 41 = .ok (.ldc 66, 2) := by decide +kernel
theorem dX5_charge_43 : decode cX5_charge 43 = .ok (.if_icmp .le 6, 3) := by decide +kernel
theorem dX5_charge_46 : decode cX5_charge 46 = .ok (.bipush (-2), 2) := by decide +kernel
theorem dX5_charge_48 : decode cX5_charge 48 = .ok (.ireturn, 1) := by decide +kernel
theorem dX5_charge_49 : decode cX5_charge 49 = .ok (.aload_n 0, 1) := by decide +kernel
theorem dX5_charge_50 : decode cX5_charge 50 = .ok (.invokevirtual 48, 3) := by decide +kernel
theorem dX5_charge_53 : decode cX5_charge 53 = .ok (.aload_n 0, 1) := by decide +kernel
theorem dX5_charge_54 : decode cX5_charge 54 = .ok (.iload_n 1, 1) := by decide +kernel
theorem dX5_charge_55 : decode cX5_charge 55 = .ok (.iconst 2, 1) := by decide +kernel
theorem dX5_charge_56 : decode cX5_charge 56 = .ok (.aload_n 0, 1) := by decide +kernel
theorem dX5_charge_57 : decode cX5_charge 57 = .ok (.iload_n 1, 1) := by decide +kernel
theorem dX5_charge_58 : decode cX5_charge 58 = .ok (.iconst 2, 1) := by decide +kernel
theorem dX5_charge_59 : decode cX5_charge 59 = .ok (.invokevirtual 43, 3) := by decide +kernel
theorem dX5_charge_62 : decode cX5_charge 62 = .ok (.iload_n 2, 1) := by decide +kernel
theorem dX5_charge_63 : decode cX5_charge 63 = .ok (.iadd, 1) := by decide +kernel
theorem dX5_charge_64 : decode cX5_charge 64 = .ok (.invokevirtual 51, 3) := by decide +kernel
theorem dX5_charge_67 : decode cX5_charge 67 = .ok (.aload_n 0, 1) := by decide +kernel
theorem dX5_charge_68 : decode cX5_charge 68 = .ok (.iload_n 1, 1) := by decide +kernel
theorem dX5_charge_69 : decode cX5_charge 69 = .ok (.iconst 2, 1) := by decide +kernel
theorem dX5_charge_70 : decode cX5_charge 70 = .ok (.invokevirtual 43, 3) := by decide +kernel
theorem dX5_charge_73 : decode cX5_charge 73 = .ok (.ireturn, 1) := by decide +kernel
set_option maxRecDepth 20000 in
theorem ggX5_distanceTo_X5_of : GoodIn wsX5_distanceTo wsX5_of := goodIn_r _ [5, 6, 7, 8, 9, 10, 11, 12, 13, 14, 15] (by decide +kernel) (by decide +kernel)
set_option maxRecDepth 20000 in
theorem gX5_distanceTo_X5_of : GoodIn wsX5_distanceTo (wsV RX5 43 RX5 yX5_of wsX5_of) := goodIn_app (goodIn_of _ (by decide +kernel)) ggX5_distanceTo_X5_of
theorem dX5_distanceTo_0 : decode cX5_distanceTo 0 = .ok (.aload_n 0, 1) := by decide +kernel
theorem dX5_distanceTo_1 : decode cX5_distanceTo 1 = .ok (.iload_n 1, 1) := by decide +kernel
theorem dX5_distanceTo_2 : decode cX5_distanceTo 2 = .ok (.iconst 0, 1) := by decide +kernel
theorem dX5_distanceTo_3 : decode cX5_distanceTo 3 = .ok (.invokevirtual 43, 3) := by decide +kernel
theorem dX5_distanceTo_6 : decode cX5_distanceTo 6 = .ok (.iload_n 2, 1) := by decide +kernel
theorem dX5_distanceTo_7 : decode cX5_distanceTo 7 = .ok (.isub, 1) := by decide +kernel
theorem dX5_distanceTo_8 : decode cX5_distanceTo 8 = .ok (.istore 4, 2) := by decide +kernel
theorem dX5_distanceTo_10 : decode cX5_distanceTo 10 = .ok (.aload_n 0, 1) := by decide +kernel
theorem dX5_distanceTo_11 : decode cX5_distanceTo 11 = .ok (.iload_n 1, 1) := by decide +kernel
theorem dX5_distanceTo_12 : decode cX5_distanceTo 12 = .ok (.iconst 1, 1) := by decide +kernel
theorem dX5_distanceTo_13 : decode cX5_distanceTo 13 = .ok (.invokevirtual 43, 3) := by decide +kernel
theorem dX5_distanceTo_16 : decode cX5_distanceTo 16 = .ok (.iload_n 3, 1) := by decide +kernel
theorem dX5_distanceTo_17 : decode cX5_distanceTo 17 = .ok (.isub, 1) := by decide +kernel
theorem dX5_distanceTo_18 : decode cX5_distanceTo 18 = .ok (.istore 5, 2) := by decide +kernel
theorem dX5_distanceTo_20 : decode cX5_distanceTo 20 = .ok (.iload 4, 2) := by decide +kernel
theorem dX5_distanceTo_22 : decode cX5_distanceTo 22 = .ok (.iload 4, 2) := by decide +kernel
theorem dX5_distanceTo_24 : decode cX5_distanceTo 24 = .ok (.imul, 1) := by decide +kernel
theorem dX5_distanceTo_25 : decode cX5_distanceTo 25 = .ok (.iload 5, 2) := by decide +kernel
theorem dX5_distanceTo_27 : decode cX5_distanceTo 27 = .ok (.iload 5, 2) := by decide +kernel
theorem dX5_distanceTo_29 : decode cX5_distanceTo 29 = .ok (.imul, 1) := by decide +kernel
theorem dX5_distanceTo_30 : decode cX5_distanceTo 30 = .ok (.iadd, 1) := by decide +kernel
theorem dX5_distanceTo_31 : decode cX5_distanceTo 31 = .ok (.ireturn, 1) := by decide +kernel
set_option maxRecDepth 20000 in
theorem ggX5_distance_X5_of : GoodIn wsX5_distance wsX5_of := goodIn_r _ [5, 6, 11, 12, 13, 14, 15, 16, 17, 18, 19] (by decide +kernel) (by decide +kernel)
set_option maxRecDepth 20000 in
theorem gX5_distance_X5_of : GoodIn wsX5_distance (wsV RX5 43 RX5 yX5_of wsX5_of) := goodIn_app (goodIn_of _ (by decide +kernel)) ggX5_distance_X5_of
set_option maxRecDepth 20000 in
theorem ggX5_distance_X5_distanceTo : GoodIn wsX5_distance wsX5_distanceTo := goodIn_r _ [10, 1, 2, 3, 4, 5, 6, 11, 12, 13, 14, 15, 16, 17, 18, 19] (by decide +kernel) (by decide +kernel)
set_option maxRecDepth 20000 in
theorem gX5_distance_X5_distanceTo : GoodIn wsX5_distance (wsV RX5 67 RX5 yX5_distanceTo wsX5_distanceTo) := goodIn_app (goodIn_of _ (by decide +kernel)) ggX5_distance_X5_distanceTo
theorem dX5_distance_0 : decode cX5_distance 0 = .ok (.aload_n 0, 1) := by decide +kernel
theorem dX5_distance_1 : decode cX5_distance 1 = .ok (.iload_n 1, 1) := by decide +kernel
theorem dX5_distance_2 : decode cX5_distance 2 = .ok (.aload_n 0, 1) := by decide +kernel
theorem dX5_distance_3 : decode cX5_distance 3 = .ok (.iload_n 2, 1) := by decide +kernel
theorem dX5_distance_4 : decode cX5_distance 4 = .ok (.iconst 0, 1) := by decide +kernel
theorem dX5_distance_5 : decode cX5_distance 5 = .ok (.invokevirtual 43, 3) := by decide +kernel
theorem dX5_distance_8 : decode cX5_distance 8 = .ok (.aload_n 0, 1) := by decide +kernel
theorem dX5_distance_9 : decode cX5_distance 9 = .ok (.iload_n 2, 1) := by decide +kernel
theorem dX5_distance_10 : decode cX5_distance 10 = .ok (.iconst 1, 1) := by decide +kernel
theorem dX5_distance_11 : decode cX5_distance 11 = .ok (.invokevirtual 43, 3) := by decide +kernel
theorem dX5_distance_14 : decode cX5_distance 14 = .ok (.invokevirtual 67, 3) := by decide +kernel
theorem dX5_distance_17 : decode cX5_distance 17 = .ok (.ireturn, 1) := by decide +kernel
set_option maxRecDepth 20000 in
theorem ggX5_distanceToBase_X5_distanceTo : GoodIn wsX5_distanceToBase wsX5_distanceTo := goodIn_r _ [6, 7, 8, 9, 5, 10, 1, 11, 12, 13, 14, 15, 16, 17, 18, 19] (by decide +kernel) (by decide +kernel)
set_option maxRecDepth 20000 in
theorem gX5_distanceToBase_X5_distanceTo : GoodIn wsX5_distanceToBase (wsV RX5 67 RX5 yX5_distanceTo wsX5_distanceTo) := goodIn_app (goodIn_of _ (by decide +kernel)) ggX5_distanceToBase_X5_distanceTo
theorem dX5_distanceToBase_0 : decode cX5_distanceToBase 0 = .ok (.aload_n 0, 1) := by decide +kernel
theorem dX5_distanceToBase_1 : decode cX5_distanceToBase 1 = .ok (.iload_n 1, 1) := by decide +kernel
theorem dX5_distanceToBase_2 : decode cX5_distanceToBase 2 = .ok (.aload_n 0, 1) := by decide +kernel
theorem dX5_distanceToBase_3 : decode cX5_distanceToBase 3 = .ok (.getfield 7, 3) := by decide +kernel
theorem dX5_distanceToBase_6 : decode cX5_distanceToBase 6 = .ok (.iconst 1, 1) := by decide +kernel
theorem dX5_distanceToBase_7 : decode cX5_distanceToBase 7 = .ok (.iaload, 1) := by decide +kernel
theorem dX5_distanceToBase_8 : decode cX5_distanceToBase 8 = .ok (.aload_n 0, 1) := by decide +kernel
theorem dX5_distanceToBase_9 : decode cX5_distanceToBase 9 = .ok (.getfield 7, 3) := by decide +kernel
theorem dX5_distanceToBase_12 : decode cX5_distanceToBase 12 = .ok (.iconst 2, 1) := by decide +kernel
theorem dX5_distanceToBase_13 : decode cX5_distanceToBase 13 = .ok (.iaload, 1) := by decide +kernel
theorem dX5_distanceToBase_14 : decode cX5_distanceToBase 14 = .ok (.invokevirtual 67, 3) := by decide +kernel
theorem dX5_distanceToBase_17 : decode cX5_distanceToBase 17 = .ok (.ireturn, 1) := by decide +kernel
set_option maxRecDepth 20000 in
theorem ggX5_sendingCost_X5_setting : GoodIn wsX5_sendingCost wsX5_setting := goodIn_r _ [5, 6, 7, 8, 9, 10, 11, 12, 13, 14, 15] (by decide +kernel) (by decide +kernel)
set_option maxRecDepth 20000 in
theorem gX5_sendingCost_X5_setting : GoodIn wsX5_sendingCost (wsV RX5 71 RX5 yX5_setting wsX5_setting) := goodIn_app (goodIn_of _ (by decide +kernel)) ggX5_sendingCost_X5_setting
theorem dX5_sendingCost_0 : decode cX5_sendingCost 0 = .ok (.aload_n 0, 1) := by decide +kernel
theorem dX5_sendingCost_1 : decode cX5_sendingCost 1 = .ok (.iconst 1, 1) := by decide +kernel
theorem dX5_sendingCost_2 : decode cX5_sendingCost 2 = .ok (.invokevirtual 71, 3) := by decide +kernel
theorem dX5_sendingCost_5 : decode cX5_sendingCost 5 = .ok (.iload_n 1, 1) := by decide +kernel
theorem dX5_sendingCost_6 : decode cX5_sendingCost 6 = .ok (.aload_n 0, 1) := by decide +kernel
theorem dX5_sendingCost_7 : decode cX5_sendingCost 7 = .ok (.iconst 2, 1) := by decide +kernel
theorem dX5_sendingCost_8 : decode cX5_sendingCost 8 = .ok (.invokevirtual 71, 3) := by decide +kernel
theorem dX5_sendingCost_11 : decode cX5_sendingCost 11 = .ok (.idiv, 1) := by decide +kernel
theorem dX5_sendingCost_12 : decode cX5_sendingCost 12 = .ok (.iadd, 1) := by decide +kernel
theorem dX5_sendingCost_13 : decode cX5_sendingCost 13 = .ok (.ireturn, 1) := by decide +kernel
set_option maxRecDepth 20000 in
theorem ggX5_pays_X5_of : GoodIn wsX5_pays wsX5_of := goodIn_r _ [6, 1, 11, 12, 13, 14, 15, 16, 17, 18, 19] (by decide +kernel) (by decide +kernel)
set_option maxRecDepth 20000 in
theorem gX5_pays_X5_of : GoodIn wsX5_pays (wsV RX5 43 RX5 yX5_of wsX5_of) := goodIn_app (goodIn_of _ (by decide +kernel)) ggX5_pays_X5_of
set_option maxRecDepth 20000 in
theorem ggX5_pays_X5_set : GoodIn wsX5_pays wsX5_set := goodIn_r _ [10, 1, 11, 12, 13, 14, 15, 16, 17, 18, 19] (by decide +kernel) (by decide +kernel)
set_option maxRecDepth 20000 in
theorem gX5_pays_X5_set : GoodIn wsX5_pays (wsV RX5 51 RX5 yX5_set wsX5_set) := goodIn_app (goodIn_of _ (by decide +kernel)) ggX5_pays_X5_set
theorem dX5_pays_0 : decode cX5_pays 0 = .ok (.aload_n 0, 1) := by decide +kernel
theorem dX5_pays_1 : decode cX5_pays 1 = .ok (.iload_n 1, 1) := by decide +kernel
theorem dX5_pays_2 : decode cX5_pays 2 = .ok (.iconst 2, 1) := by decide +kernel
theorem dX5_pays_3 : decode cX5_pays 3 = .ok (.invokevirtual 43, 3) := by decide +kernel
theorem dX5_pays_6 : decode cX5_pays 6 = .ok (.iload_n 2, 1) := by decide +kernel
theorem dX5_pays_7 : decode cX5_pays 7 = .ok (.if_icmp .ge 26, 3) := by decide +kernel
theorem dX5_pays_10 : decode cX5_pays 10 = .ok (.aload_n 0, 1) := by decide +kernel
theorem dX5_pays_11 : decode cX5_pays 11 = .ok (.iload_n 1, 1) := by decide +kernel
theorem dX5_pays_12 : decode cX5_pays 12 = .ok (.iconst 3, 1) := by decide +kernel
theorem dX5_pays_13 : decode cX5_pays 13 = .ok (.iconst 0, 1) := by decide +kernel
theorem dX5_pays_14 : decode cX5_pays 14 = .ok (.invokevirtual 51, 3) := by decide +kernel
theorem dX5_pays_17 : decode cX5_pays 17 = .ok (.aload_n 0, 1) := by decide +kernel
theorem dX5_pays_18 : decode cX5_pays 18 = .ok (.iload_n 1, 1) := by decide +kernel
theorem dX5_pays_19 : decode cX5_pays 19 = .ok (.bipush 6, 2) := by decide +kernel
theorem dX5_pays_21 : decode cX5_pays 21 = .ok (.aload_n 0, 1) := by decide +kernel
theorem dX5_pays_22 : decode cX5_pays 22 = .ok (.getfield 7, 3) := by decide +kernel
theorem dX5_pays_25 : decode cX5_pays 25 = .ok (.bipush 10, 2) := by decide +kernel
theorem dX5_pays_27 : decode cX5_pays 27 = .ok (.iaload, 1) := by decide +kernel
theorem dX5_pays_28 : decode cX5_pays 28 = .ok (.invokevirtual 51, 3) := by decide +kernel
theorem dX5_pays_31 : decode cX5_pays 31 = .ok (.iconst 0, 1) := by decide +kernel
theorem dX5_pays_32 : decode cX5_pays 32 = .ok (.ireturn, 1) := by decide +kernel
theorem dX5_pays_33 : decode cX5_pays 33 = .ok (.aload_n 0, 1) := by decide +kernel
theorem dX5_pays_34 : decode cX5_pays 34 = .ok (.iload_n 1, 1) := by decide +kernel
theorem dX5_pays_35 : decode cX5_pays 35 = .ok (.iconst 2, 1) := by decide +kernel
theorem dX5_pays_36 : decode cX5_pays 36 = .ok (.aload_n 0, 1) := by decide +kernel
theorem dX5_pays_37 : decode cX5_pays 37 = .ok (.iload_n 1, 1) := by decide +kernel
theorem dX5_pays_38 : decode cX5_pays 38 = .ok (.iconst 2, 1) := by decide +kernel
theorem dX5_pays_39 : decode cX5_pays 39 = .ok (.invokevirtual 43, 3) := by decide +kernel
theorem dX5_pays_42 : decode cX5_pays 42 = .ok (.iload_n 2, 1) := by decide +kernel
theorem dX5_pays_43 : decode cX5_pays 43 = .ok (.isub, 1) := by decide +kernel
theorem dX5_pays_44 : decode cX5_pays 44 = .ok (.invokevirtual 51, 3) := by decide +kernel
theorem dX5_pays_47 : decode cX5_pays 47 = .ok (.aload_n 0, 1) := by decide +kernel
theorem dX5_pays_48 : decode cX5_pays 48 = .ok (.getfield 7, 3) := by decide +kernel
theorem dX5_pays_51 : decode cX5_pays 51 = .ok (.bipush 14, 2) := by decide +kernel
theorem dX5_pays_53 : decode cX5_pays 53 = .ok (.dup2, 1) := by decide +kernel
theorem dX5_pays_54 : decode cX5_pays 54 = .ok (.iaload, 1) := by decide +kernel
theorem dX5_pays_55 : decode cX5_pays 55 = .ok (.iload_n 2, 1) := by decide +kernel
theorem dX5_pays_56 : decode cX5_pays 56 = .ok (.iadd, 1) := by decide +kernel
theorem dX5_pays_57 : decode cX5_pays 57 = .ok (.iastore, 1) := by decide +kernel
theorem dX5_pays_58 : decode cX5_pays 58 = .ok (.iconst 1, 1) := by decide +kernel
theorem dX5_pays_59 : decode cX5_pays 59 = .ok (.ireturn, 1) := by decide +kernel
set_option maxRecDepth 20000 in
theorem ggX5_takesIn_X5_lives : GoodIn wsX5_takesIn wsX5_lives := goodIn_r _ [5, 6, 7, 8, 4, 9, 10, 23, 24, 25, 26, 27, 28, 29, 30, 31] (by decide +kernel) (by decide +kernel)
set_option maxRecDepth 20000 in
theorem gX5_takesIn_X5_lives : GoodIn wsX5_takesIn (wsV RX5 63 RX5 yX5_lives wsX5_lives) := goodIn_app (goodIn_of _ (by decide +kernel)) ggX5_takesIn_X5_lives
set_option maxRecDepth 20000 in
theorem ggX5_takesIn_X5_setting : GoodIn wsX5_takesIn wsX5_setting := goodIn_r _ [14, 10, 23, 24, 25, 26, 27, 28, 29, 30, 31] (by decide +kernel) (by decide +kernel)
set_option maxRecDepth 20000 in
theorem gX5_takesIn_X5_setting : GoodIn wsX5_takesIn (wsV RX5 71 RX5 yX5_setting wsX5_setting) := goodIn_app (goodIn_of _ (by decide +kernel)) ggX5_takesIn_X5_setting
set_option maxRecDepth 20000 in
theorem ggX5_takesIn_X5_pays : GoodIn wsX5_takesIn wsX5_pays := goodIn_r _ [18, 10, 6, 7, 8, 4, 9, 19, 20, 21, 22, 23, 24, 25, 26, 27, 28, 29, 30, 31] (by decide +kernel) (by decide +kernel)
set_option maxRecDepth 20000 in
theorem gX5_takesIn_X5_pays : GoodIn wsX5_takesIn (wsV RX5 75 RX5 yX5_pays wsX5_pays) := goodIn_app (goodIn_of _ (by decide +kernel)) ggX5_takesIn_X5_pays
theorem dX5_takesIn_0 : decode cX5_takesIn 0 = .ok (.aload_n 0, 1) := by decide +kernel
theorem dX5_takesIn_1 : decode cX5_takesIn 1 = .ok (.iload_n 1, 1) := by decide +kernel
theorem dX5_takesIn_2 : decode cX5_takesIn 2 = .ok (.invokevirtual 63, 3) := by decide +kernel
theorem dX5_takesIn_5 : decode cX5_takesIn 5 = .ok (.ifCond .eq 33, 3) := by decide +kernel
theorem dX5_takesIn_8 : decode cX5_takesIn 8 = .ok (.aload_n 0, 1) := by decide +kernel
theorem dX5_takesIn_9 : decode cX5_takesIn 9 = .ok (.iload_n 1, 1) := by decide +kernel
theorem dX5_takesIn_10 : decode cX5_takesIn 10 = .ok (.aload_n 0, 1) := by decide +kernel
theorem dX5_takesIn_11 : decode cX5_takesIn 11 = .ok (.iconst 1, 1) := by decide +kernel
theorem dX5_takesIn_12 : decode cX5_takesIn 12 = .ok (.invokevirtual 71, 3) := by decide +kernel
theorem dX5_takesIn_15 : decode cX5_takesIn 15 = .ok (.invokevirtual 75, 3) := by decide +kernel
theorem dX5_takesIn_18 : decode cX5_takesIn 18 = .ok (.ifCond .eq 20, 3) := by decide +kernel
theorem dX5_takesIn_21 : decode cX5_takesIn 21 = .ok (.aload_n 0, 1) := by decide +kernel
theorem dX5_takesIn_22 : decode cX5_takesIn 22 = .ok (.iload_n 1, 1) := by decide +kernel
theorem dX5_takesIn_23 : decode cX5_takesIn 23 = .ok (.aload_n 0, 1) := by decide +kernel
theorem dX5_takesIn_24 : decode cX5_takesIn 24 = .ok (.iconst 3, 1) := by decide +kernel
theorem dX5_takesIn_25 : decode cX5_takesIn 25 = .ok (.invokevirtual 71, 3) := by decide +kernel
theorem dX5_takesIn_28 : decode cX5_takesIn 28 = .ok (.invokevirtual 75, 3) := by decide +kernel
theorem dX5_takesIn_31 : decode cX5_takesIn 31 = .ok (.ifCond .eq 7, 3) := by decide +kernel
theorem dX5_takesIn_34 : decode cX5_takesIn 34 = .ok (.iconst 1, 1) := by decide +kernel
theorem dX5_takesIn_35 : decode cX5_takesIn 35 = .ok (.goto 4, 3) := by decide +kernel
theorem dX5_takesIn_38 : decode cX5_takesIn 38 = .ok (.iconst 0, 1) := by decide +kernel
theorem dX5_takesIn_39 : decode cX5_takesIn 39 = .ok (.ireturn, 1) := by decide +kernel
theorem dX5_draw_0 : decode cX5_draw 0 = .ok (.aload_n 0, 1) := by decide +kernel
theorem dX5_draw_1 : decode cX5_draw 1 = .ok (.getfield 7, 3) := by decide +kernel
theorem dX5_draw_4 : decode cX5_draw 4 = .ok (.bipush 9, 2) := by decide +kernel
theorem dX5_draw_6 : decode cX5_draw 6 = .ok (.aload_n 0, 1) := by decide +kernel
theorem dX5_draw_7 : decode cX5_draw 7 = .ok (.getfield 7, 3) := by decide +kernel
theorem dX5_draw_10 : decode cX5_draw 10 = .ok (.bipush 9, 2) := by decide +kernel
theorem dX5_draw_12 : decode cX5_draw 12 = .ok (.iaload, 1) := by decide +kernel
theorem dX5_draw_13 : decode cX5_draw 13 = .ok (.ldc 78, 2) := by decide +kernel
theorem dX5_draw_15 : decode cX5_draw 15 = .ok (.imul, 1) := by decide +kernel
theorem dX5_draw_16 : decode cX5_draw 16 = .ok (.sipush 12345, 3) := by decide +kernel
theorem dX5_draw_19 : decode cX5_draw 19 = .ok (.iadd, 1) := by decide +kernel
theorem dX5_draw_20 : decode cX5_draw 20 = .ok (.ldc 79, 2) := by decide +kernel
theorem dX5_draw_22 : decode cX5_draw 22 = .ok (.iand, 1) := by decide +kernel
theorem dX5_draw_23 : decode cX5_draw 23 = .ok (.iastore, 1) := by decide +kernel
theorem dX5_draw_24 : decode cX5_draw 24 = .ok (.aload_n 0, 1) := by decide +kernel
theorem dX5_draw_25 : decode cX5_draw 25 = .ok (.getfield 7, 3) := by decide +kernel
theorem dX5_draw_28 : decode cX5_draw 28 = .ok (.bipush 9, 2) := by decide +kernel
theorem dX5_draw_30 : decode cX5_draw 30 = .ok (.iaload, 1) := by decide +kernel
theorem dX5_draw_31 : decode cX5_draw 31 = .ok (.ldc 80, 2) := by decide +kernel
theorem dX5_draw_33 : decode cX5_draw 33 = .ok (.idiv, 1) := by decide +kernel
theorem dX5_draw_34 : decode cX5_draw 34 = .ok (.sipush 1000, 3) := by decide +kernel
theorem dX5_draw_37 : decode cX5_draw 37 = .ok (.irem, 1) := by decide +kernel
theorem dX5_draw_38 : decode cX5_draw 38 = .ok (.ireturn, 1) := by decide +kernel
set_option maxRecDepth 20000 in
theorem ggX5_isHead_X5_of : GoodIn wsX5_isHead wsX5_of := goodIn_r _ [5, 6, 7, 8, 9, 10, 11, 12, 13, 14, 15] (by decide +kernel) (by decide +kernel)
set_option maxRecDepth 20000 in
theorem gX5_isHead_X5_of : GoodIn wsX5_isHead (wsV RX5 43 RX5 yX5_of wsX5_of) := goodIn_app (goodIn_of _ (by decide +kernel)) ggX5_isHead_X5_of
theorem dX5_isHead_0 : decode cX5_isHead 0 = .ok (.aload_n 0, 1) := by decide +kernel
theorem dX5_isHead_1 : decode cX5_isHead 1 = .ok (.iload_n 1, 1) := by decide +kernel
theorem dX5_isHead_2 : decode cX5_isHead 2 = .ok (.bipush 7, 2) := by decide +kernel
theorem dX5_isHead_4 : decode cX5_isHead 4 = .ok (.invokevirtual 43, 3) := by decide +kernel
theorem dX5_isHead_7 : decode cX5_isHead 7 = .ok (.iload_n 1, 1) := by decide +kernel
theorem dX5_isHead_8 : decode cX5_isHead 8 = .ok (.if_icmp .ne 7, 3) := by decide +kernel
theorem dX5_isHead_11 : decode cX5_isHead 11 = .ok (.iconst 1, 1) := by decide +kernel
theorem dX5_isHead_12 : decode cX5_isHead 12 = .ok (.goto 4, 3) := by decide +kernel
theorem dX5_isHead_15 : decode cX5_isHead 15 = .ok (.iconst 0, 1) := by decide +kernel
theorem dX5_isHead_16 : decode cX5_isHead 16 = .ok (.ireturn, 1) := by decide +kernel
set_option maxRecDepth 20000 in
theorem ggX5_elect_X5_setting : GoodIn wsX5_elect wsX5_setting := goodIn_r _ [8, 1, 28, 29, 30, 31, 32, 33, 34, 35, 36] (by decide +kernel) (by decide +kernel)
set_option maxRecDepth 20000 in
theorem gX5_elect_X5_setting : GoodIn wsX5_elect (wsV RX5 71 RX5 yX5_setting wsX5_setting) := goodIn_app (goodIn_of _ (by decide +kernel)) ggX5_elect_X5_setting
set_option maxRecDepth 20000 in
theorem ggX5_elect_X5_of : GoodIn wsX5_elect wsX5_of := goodIn_r _ [12, 1, 28, 29, 30, 31, 32, 33, 34, 35, 36] (by decide +kernel) (by decide +kernel)
set_option maxRecDepth 20000 in
theorem gX5_elect_X5_of : GoodIn wsX5_elect (wsV RX5 43 RX5 yX5_of wsX5_of) := goodIn_app (goodIn_of _ (by decide +kernel)) ggX5_elect_X5_of
set_option maxRecDepth 20000 in
theorem ggX5_elect_X5_set : GoodIn wsX5_elect wsX5_set := goodIn_r _ [16, 1, 28, 29, 30, 31, 32, 33, 34, 35, 36] (by decide +kernel) (by decide +kernel)
set_option maxRecDepth 20000 in
theorem gX5_elect_X5_set : GoodIn wsX5_elect (wsV RX5 51 RX5 yX5_set wsX5_set) := goodIn_app (goodIn_of _ (by decide +kernel)) ggX5_elect_X5_set
set_option maxRecDepth 20000 in
theorem ggX5_elect_X5_lives : GoodIn wsX5_elect wsX5_lives := goodIn_r _ [20, 9, 10, 11, 7, 12, 1, 28, 29, 30, 31, 32, 33, 34, 35, 36] (by decide +kernel) (by decide +kernel)
set_option maxRecDepth 20000 in
theorem gX5_elect_X5_lives : GoodIn wsX5_elect (wsV RX5 63 RX5 yX5_lives wsX5_lives) := goodIn_app (goodIn_of _ (by decide +kernel)) ggX5_elect_X5_lives
set_option maxRecDepth 20000 in
theorem ggX5_elect_X5_draw : GoodIn wsX5_elect wsX5_draw := goodIn_r _ [24, 1, 25, 26, 27, 28, 29, 30, 31, 32, 33, 34, 35, 36] (by decide +kernel) (by decide +kernel)
set_option maxRecDepth 20000 in
theorem gX5_elect_X5_draw : GoodIn wsX5_elect (wsV RX5 81 RX5 yX5_draw wsX5_draw) := goodIn_app (goodIn_of _ (by decide +kernel)) ggX5_elect_X5_draw
theorem dX5_elect_0 : decode cX5_elect 0 = .ok (.aload_n 0, 1) := by decide +kernel
theorem dX5_elect_1 : decode cX5_elect 1 = .ok (.getfield 7, 3) := by decide +kernel
theorem dX5_elect_4 : decode cX5_elect 4 = .ok (.bipush 10, 2) := by decide +kernel
theorem dX5_elect_6 : decode cX5_elect 6 = .ok (.iaload, 1) := by decide +kernel
theorem dX5_elect_7 : decode cX5_elect 7 = .ok (.aload_n 0, 1) := by decide +kernel
theorem dX5_elect_8 : decode cX5_elect 8 = .ok (.iconst 0, 1) := by decide +kernel
theorem dX5_elect_9 : decode cX5_elect 9 = .ok (.invokevirtual 71, 3) := by decide +kernel
theorem dX5_elect_12 : decode cX5_elect 12 = .ok (.irem, 1) := by decide +kernel
theorem dX5_elect_13 : decode cX5_elect 13 = .ok (.istore_n 1, 1) := by decide +kernel
theorem dX5_elect_14 : decode cX5_elect 14 = .ok (.iconst 0, 1) := by decide +kernel
theorem dX5_elect_15 : decode cX5_elect 15 = .ok (.istore_n 2, 1) := by decide +kernel
theorem dX5_elect_16 : decode cX5_elect 16 = .ok (.iload_n 2, 1) := by decide +kernel
theorem dX5_elect_17 : decode cX5_elect 17 = .ok (.aload_n 0, 1) := by decide +kernel
theorem dX5_elect_18 : decode cX5_elect 18 = .ok (.getfield 7, 3) := by decide +kernel
theorem dX5_elect_21 : decode cX5_elect 21 = .ok (.iconst 0, 1) := by decide +kernel
theorem dX5_elect_22 : decode cX5_elect 22 = .ok (.iaload, 1) := by decide +kernel
theorem dX5_elect_23 : decode cX5_elect 23 = .ok (.if_icmp .ge 54, 3) := by decide +kernel
theorem dX5_elect_26 : decode cX5_elect 26 = .ok (.aload_n 0, 1) := by decide +kernel
theorem dX5_elect_27 : decode cX5_elect 27 = .ok (.iload_n 2, 1) := by decide +kernel
theorem dX5_elect_28 : decode cX5_elect 28 = .ok (.iconst 4, 1) := by decide +kernel
theorem dX5_elect_29 : decode cX5_elect 29 = .ok (.iload_n 1, 1) := by decide +kernel
theorem dX5_elect_30 : decode cX5_elect 30 = .ok (.ifCond .ne 7, 3) := by decide +kernel
theorem dX5_elect_33 : decode cX5_elect 33 = .ok (.iconst 1, 1) := by decide +kernel
theorem dX5_elect_34 : decode cX5_elect 34 = .ok (.goto 9, 3) := by decide +kernel
theorem dX5_elect_37 : decode cX5_elect 37 = .ok (.aload_n 0, 1) := by decide +kernel
theorem dX5_elect_38 : decode cX5_elect 38 = .ok (.iload_n 2, 1) := by decide +kernel
theorem dX5_elect_39 : decode cX5_elect 39 = .ok (.iconst 4, 1) := by decide +kernel
theorem dX5_elect_40 : decode cX5_elect 40 = .ok (.invokevirtual 43, 3) := by decide +kernel
theorem dX5_elect_43 : decode cX5_elect 43 = .ok (.invokevirtual 51, 3) := by decide +kernel
theorem dX5_elect_46 : decode cX5_elect 46 = .ok (.aload_n 0, 1) := by decide +kernel
theorem dX5_elect_47 : decode cX5_elect 47 = .ok (.iload_n 2, 1) := by decide +kernel
theorem dX5_elect_48 : decode cX5_elect 48 = .ok (.bipush 7, 2) := by decide +kernel
theorem dX5_elect_50 : decode cX5_elect 50 = .ok (.bipush (-9), 2) := by decide +kernel
theorem dX5_elect_52 : decode cX5_elect 52 = .ok (.invokevirtual 51, 3) := by decide +kernel
theorem dX5_elect_55 : decode cX5_elect 55 = .ok (.aload_n 0, 1) := by decide +kernel
theorem dX5_elect_56 : decode cX5_elect 56 = .ok (.iload_n 2, 1) := by decide +kernel
theorem dX5_elect_57 : decode cX5_elect 57 = .ok (.bipush 8, 2) := by decide +kernel
theorem dX5_elect_59 : decode cX5_elect 59 = .ok (.bipush (-9), 2) := by decide +kernel
theorem dX5_elect_61 : decode cX5_elect 61 = .ok (.invokevirtual 51, 3) := by decide +kernel
theorem dX5_elect_64 : decode cX5_elect 64 = .ok (.aload_n 0, 1) := by decide +kernel
theorem dX5_elect_65 : decode cX5_elect 65 = .ok (.getfield 29, 3) := by decide +kernel
theorem dX5_elect_68 : decode cX5_elect 68 = .ok (.iload_n 2, 1) := by decide +kernel
theorem dX5_elect_69 : decode cX5_elect 69 = .ok (.iconst 0, 1) := by decide +kernel
theorem dX5_elect_70 : decode cX5_elect 70 = .ok (.iastore, 1) := by decide +kernel
theorem dX5_elect_71 : decode cX5_elect 71 = .ok (.iinc 2 1, 3) := by decide +kernel
theorem dX5_elect_74 : decode cX5_elect 74 = .ok (.goto (-58), 3) := by decide +kernel
theorem dX5_elect_77 : decode cX5_elect 77 = .ok (.iconst 0, 1) := by decide +kernel
theorem dX5_elect_78 : decode cX5_elect 78 = .ok (.istore_n 2, 1) := by decide +kernel
theorem dX5_elect_79 : decode cX5_elect 79 = .ok (.iload_n 2, 1) := by decide +kernel
theorem dX5_elect_80 : decode cX5_elect 80 = .ok (.aload_n 0, 1) := by decide +kernel
theorem dX5_elect_81 : decode cX5_elect 81 = .ok (.getfield 7, 3) := by decide +kernel
theorem dX5_elect_84 : decode cX5_elect 84 = .ok (.iconst 0, 1) := by decide +kernel
theorem dX5_elect_85 : decode cX5_elect 85 = .ok (.iaload, 1) := by decide +kernel
theorem dX5_elect_86 : decode cX5_elect 86 = .ok (.if_icmp .ge 56, 3) := by decide +kernel
theorem dX5_elect_89 : decode cX5_elect 89 = .ok (.aload_n 0, 1) := by decide +kernel
theorem dX5_elect_90 : decode cX5_elect 90 = .ok (.getfield 26, 3) := by decide +kernel
theorem dX5_elect_93 : decode cX5_elect 93 = .ok (.iload_n 2, 1) := by decide +kernel
theorem dX5_elect_94 : decode cX5_elect 94 = .ok (.aload_n 0, 1) := by decide +kernel
theorem dX5_elect_95 : decode cX5_elect 95 = .ok (.iload_n 2, 1) := by decide +kernel
theorem dX5_elect_96 : decode cX5_elect 96 = .ok (.invokevirtual 63, 3) := by decide +kernel
theorem dX5_elect_99 : decode cX5_elect 99 = .ok (.ifCond .eq 35, 3) := by decide +kernel
theorem dX5_elect_102 : decode cX5_elect 102 = .ok (.aload_n 0, 1) := by decide +kernel
theorem dX5_elect_103 : decode cX5_elect 103 = .ok (.iload_n 2, 1) := by decide +kernel
theorem dX5_elect_104 : decode cX5_elect 104 = .ok (.iconst 4, 1) := by decide +kernel
theorem dX5_elect_105 : decode cX5_elect 105 = .ok (.invokevirtual 43, 3) := by decide +kernel
theorem dX5_elect_108 : decode cX5_elect 108 = .ok (.iconst 1, 1) := by decide +kernel
theorem dX5_elect_109 : decode cX5_elect 109 = .ok (.if_icmp .ne 25, 3) := by decide +kernel
theorem dX5_elect_112 : decode cX5_elect 112 = .ok (.aload_n 0, 1) := by decide +kernel
theorem dX5_elect_113 : decode cX5_elect 113 = .ok (.invokevirtual 81, 3) := by decide +kernel
theorem dX5_elect_116 : decode cX5_elect 116 = .ok (.aload_n 0, 1) := by decide +kernel
theorem dX5_elect_117 : decode cX5_elect 117 = .ok (.iconst 0, 1) := by decide +kernel
theorem dX5_elect_118 : decode cX5_elect 118 = .ok (.invokevirtual 71, 3) := by decide +kernel
theorem dX5_elect_121 : decode cX5_elect 121 = .ok (.iload_n 1, 1) := by decide +kernel
theorem dX5_elect_122 : decode cX5_elect 122 = .ok (.isub, 1) := by decide +kernel
theorem dX5_elect_123 : decode cX5_elect 123 = .ok (.imul, 1) := by decide +kernel
theorem dX5_elect_124 : decode cX5_elect 124 = .ok (.sipush 1000, 3) := by decide +kernel
theorem dX5_elect_127 : decode cX5_elect 127 = .ok (.if_icmp .ge 7, 3) := by decide +kernel
theorem dX5_elect_130 : decode cX5_elect 130 = .ok (.iconst 1, 1) := by decide +kernel
theorem dX5_elect_131 : decode cX5_elect 131 = .ok (.goto 4, 3) := by decide +kernel
theorem dX5_elect_134 : decode cX5_elect 134 = .ok (.iconst 0, 1) := by decide +kernel
theorem dX5_elect_135 : decode cX5_elect 135 = .ok (.bastore, 1) := by decide +kernel
theorem dX5_elect_136 : decode cX5_elect 136 = .ok (.iinc 2 1, 3) := by decide +kernel
theorem dX5_elect_139 : decode cX5_elect 139 = .ok (.goto (-60), 3) := by decide +kernel
theorem dX5_elect_142 : decode cX5_elect 142 = .ok (.return_, 1) := by decide +kernel
set_option maxRecDepth 20000 in
theorem ggX5_announce_X5_setting : GoodIn wsX5_announce wsX5_setting := goodIn_r _ [7, 1, 20, 21, 22, 23, 24, 25, 26, 27, 28] (by decide +kernel) (by decide +kernel)
set_option maxRecDepth 20000 in
theorem gX5_announce_X5_setting : GoodIn wsX5_announce (wsV RX5 71 RX5 yX5_setting wsX5_setting) := goodIn_app (goodIn_of _ (by decide +kernel)) ggX5_announce_X5_setting
set_option maxRecDepth 20000 in
theorem ggX5_announce_X5_pays : GoodIn wsX5_announce wsX5_pays := goodIn_r _ [11, 1, 12, 13, 14, 6, 15, 16, 17, 18, 19, 20, 21, 22, 23, 24, 25, 26, 27, 28] (by decide +kernel) (by decide +kernel)
set_option maxRecDepth 20000 in
theorem gX5_announce_X5_pays : GoodIn wsX5_announce (wsV RX5 75 RX5 yX5_pays wsX5_pays) := goodIn_app (goodIn_of _ (by decide +kernel)) ggX5_announce_X5_pays
set_option maxRecDepth 20000 in
theorem ggX5_announce_X5_set : GoodIn wsX5_announce wsX5_set := goodIn_r _ [19, 1, 20, 21, 22, 23, 24, 25, 26, 27, 28] (by decide +kernel) (by decide +kernel)
set_option maxRecDepth 20000 in
theorem gX5_announce_X5_set : GoodIn wsX5_announce (wsV RX5 51 RX5 yX5_set wsX5_set) := goodIn_app (goodIn_of _ (by decide +kernel)) ggX5_announce_X5_set
set_option maxRecDepth 20000 in
theorem ggX5_announce_X5_of : GoodIn wsX5_announce wsX5_of := goodIn_r _ [15, 1, 20, 21, 22, 23, 24, 25, 26, 27, 28] (by decide +kernel) (by decide +kernel)
set_option maxRecDepth 20000 in
theorem gX5_announce_X5_of : GoodIn wsX5_announce (wsV RX5 43 RX5 yX5_of wsX5_of) := goodIn_app (goodIn_of _ (by decide +kernel)) ggX5_announce_X5_of
theorem dX5_announce_0 : decode cX5_announce 0 = .ok (.aload_n 0, 1) := by decide +kernel
theorem dX5_announce_1 : decode cX5_announce 1 = .ok (.getfield 7, 3) := by decide +kernel
theorem dX5_announce_4 : decode cX5_announce 4 = .ok (.bipush 11, 2) := by decide +kernel
theorem dX5_announce_6 : decode cX5_announce 6 = .ok (.iconst 0, 1) := by decide +kernel
theorem dX5_announce_7 : decode cX5_announce 7 = .ok (.iastore, 1) := by decide +kernel
theorem dX5_announce_8 : decode cX5_announce 8 = .ok (.iconst 0, 1) := by decide +kernel
theorem dX5_announce_9 : decode cX5_announce 9 = .ok (.istore_n 1, 1) := by decide +kernel
theorem dX5_announce_10 : decode cX5_announce 10 = .ok (.iload_n 1, 1) := by decide +kernel
theorem dX5_announce_11 : decode cX5_announce 11 = .ok (.aload_n 0, 1) := by decide +kernel
theorem dX5_announce_12 : decode cX5_announce 12 = .ok (.getfield 7, 3) := by decide +kernel
theorem dX5_announce_15 : decode cX5_announce 15 = .ok (.iconst 0, 1) := by decide +kernel
theorem dX5_announce_16 : decode cX5_announce 16 = .ok (.iaload, 1) := by decide +kernel
theorem dX5_announce_17 : decode cX5_announce 17 = .ok (.if_icmp .ge 71, 3) := by decide +kernel
theorem dX5_announce_20 : decode cX5_announce 20 = .ok (.aload_n 0, 1) := by decide +kernel
theorem dX5_announce_21 : decode cX5_announce 21 = .ok (.getfield 26, 3) := by decide +kernel
theorem dX5_announce_24 : decode cX5_announce 24 = .ok (.iload_n 1, 1) := by decide +kernel
theorem dX5_announce_25 : decode cX5_announce 25 = .ok (.baload, 1) := by decide +kernel
theorem dX5_announce_26 : decode cX5_announce 26 = .ok (.ifCond .eq 56, 3) := by decide +kernel
theorem dX5_announce_29 : decode cX5_announce 29 = .ok (.aload_n 0, 1) := by decide +kernel
theorem dX5_announce_30 : decode cX5_announce 30 = .ok (.iload_n 1, 1) := by decide +kernel
theorem dX5_announce_31 : decode cX5_announce 31 = .ok (.aload_n 0, 1) := by decide +kernel
theorem dX5_announce_32 : decode cX5_announce 32 = .ok (.iconst 4, 1) := by decide +kernel
theorem dX5_announce_33 : decode cX5_announce 33 = .ok (.invokevirtual 71, 3) := by decide +kernel
theorem dX5_announce_36 : decode cX5_announce 36 = .ok (.invokevirtual 75, 3) := by decide +kernel
theorem dX5_announce_39 : decode cX5_announce 39 = .ok (.ifCond .eq 43, 3) := by decide +kernel
theorem dX5_announce_42 : decode cX5_announce 42 = .ok (.aload_n 0, 1) := by decide +kernel
theorem dX5_announce_43 : decode cX5_announce 43 = .ok (.iload_n 1, 1) := by decide +kernel
theorem dX5_announce_44 : decode cX5_announce 44 = .ok (.bipush 7, 2) := by decide +kernel
theorem dX5_announce_46 : decode cX5_announce 46 = .ok (.iload_n 1, 1) := by decide +kernel
theorem dX5_announce_47 : decode cX5_announce 47 = .ok (.invokevirtual 51, 3) := by decide +kernel
theorem dX5_announce_50 : decode cX5_announce 50 = .ok (.aload_n 0, 1) := by decide +kernel
theorem dX5_announce_51 : decode cX5_announce 51 = .ok (.iload_n 1, 1) := by decide +kernel
theorem dX5_announce_52 : decode cX5_announce 52 = .ok (.iconst 4, 1) := by decide +kernel
theorem dX5_announce_53 : decode cX5_announce 53 = .ok (.iconst 0, 1) := by decide +kernel
theorem dX5_announce_54 : decode cX5_announce 54 = .ok (.invokevirtual 51, 3) := by decide +kernel
theorem dX5_announce_57 : decode cX5_announce 57 = .ok (.aload_n 0, 1) := by decide +kernel
theorem dX5_announce_58 : decode cX5_announce 58 = .ok (.iload_n 1, 1) := by decide +kernel
theorem dX5_announce_59 : decode cX5_announce 59 = .ok (.iconst 5, 1) := by decide +kernel
theorem dX5_announce_60 : decode cX5_announce 60 = .ok (.aload_n 0, 1) := by decide +kernel
theorem dX5_announce_61 : decode cX5_announce 61 = .ok (.iload_n 1, 1) := by decide +kernel
theorem dX5_announce_62 : decode cX5_announce 62 = .ok (.iconst 5, 1) := by decide +kernel
theorem dX5_announce_63 : decode cX5_announce 63 = .ok (.invokevirtual 43, 3) := by decide +kernel
theorem dX5_announce_66 : decode cX5_announce 66 = .ok (.iconst 1, 1) := by decide +kernel
theorem dX5_announce_67 : decode cX5_announce 67 = .ok (.iadd, 1) := by decide +kernel
theorem dX5_announce_68 : decode cX5_announce 68 = .ok (.invokevirtual 51, 3) := by decide +kernel
theorem dX5_announce_71 : decode cX5_announce 71 = .ok (.aload_n 0, 1) := by decide +kernel
theorem dX5_announce_72 : decode cX5_announce 72 = .ok (.getfield 7, 3) := by decide +kernel
theorem dX5_announce_75 : decode cX5_announce 75 = .ok (.bipush 11, 2) := by decide +kernel
theorem dX5_announce_77 : decode cX5_announce 77 = .ok (.dup2, 1) := by decide +kernel
theorem dX5_announce_78 : decode cX5_announce 78 = .ok (.iaload, 1) := by decide +kernel
theorem dX5_announce_79 : decode cX5_announce 79 = .ok (.iconst 1, 1) := by decide +kernel
theorem dX5_announce_80 : decode cX5_announce 80 = .ok (.iadd, 1) := by decide +kernel
theorem dX5_announce_81 : decode cX5_announce 81 = .ok (.iastore, 1) := by decide +kernel
theorem dX5_announce_82 : decode cX5_announce 82 = .ok (.iinc 1 1, 3) := by decide +kernel
theorem dX5_announce_85 : decode cX5_announce 85 = .ok (.goto (-75), 3) := by decide +kernel
theorem dX5_announce_88 : decode cX5_announce 88 = .ok (.return_, 1) := by decide +kernel
set_option maxRecDepth 20000 in
theorem ggX5_nearestHead_X5_isHead : GoodIn wsX5_nearestHead wsX5_isHead := goodIn_r _ [6, 7, 8, 9, 5, 10, 1, 19, 20, 21, 22, 23, 24, 25, 26, 27] (by decide +kernel) (by decide +kernel)
set_option maxRecDepth 20000 in
theorem gX5_nearestHead_X5_isHead : GoodIn wsX5_nearestHead (wsV RX5 85 RX5 yX5_isHead wsX5_isHead) := goodIn_app (goodIn_of _ (by decide +kernel)) ggX5_nearestHead_X5_isHead
set_option maxRecDepth 20000 in
theorem ggX5_nearestHead_X5_distance : GoodIn wsX5_nearestHead wsX5_distance := goodIn_r _ [14, 7, 8, 9, 5, 10, 1, 15, 16, 17, 18, 19, 20, 21, 22, 23, 24, 25, 26, 27] (by decide +kernel) (by decide +kernel)
set_option maxRecDepth 20000 in
theorem gX5_nearestHead_X5_distance : GoodIn wsX5_nearestHead (wsV RX5 88 RX5 yX5_distance wsX5_distance) := goodIn_app (goodIn_of _ (by decide +kernel)) ggX5_nearestHead_X5_distance
theorem dX5_nearestHead_0 : decode cX5_nearestHead 0 = .ok (.bipush (-9), 2) := by decide +kernel
theorem dX5_nearestHead_2 : decode cX5_nearestHead 2 = .ok (.istore_n 2, 1) := by decide +kernel
theorem dX5_nearestHead_3 : decode cX5_nearestHead 3 = .ok (.iconst 0, 1) := by decide +kernel
theorem dX5_nearestHead_4 : decode cX5_nearestHead 4 = .ok (.istore_n 3, 1) := by decide +kernel
theorem dX5_nearestHead_5 : decode cX5_nearestHead 5 = .ok (.iload_n 3, 1) := by decide +kernel
theorem dX5_nearestHead_6 : decode cX5_nearestHead 6 = .ok (.aload_n 0, 1) := by decide +kernel
theorem dX5_nearestHead_7 : decode cX5_nearestHead 7 = .ok (.getfield 7, 3) := by decide +kernel
theorem dX5_nearestHead_10 : decode cX5_nearestHead 10 = .ok (.iconst 0, 1) := by decide +kernel
theorem dX5_nearestHead_11 : decode cX5_nearestHead 11 = .ok (.iaload, 1) := by decide +kernel
theorem dX5_nearestHead_12 : decode cX5_nearestHead 12 = .ok (.if_icmp .ge 40, 3) := by decide +kernel
theorem dX5_nearestHead_15 : decode cX5_nearestHead 15 = .ok (.aload_n 0, 1) := by decide +kernel
theorem dX5_nearestHead_16 : decode cX5_nearestHead 16 = .ok (.iload_n 3, 1) := by decide +kernel
theorem dX5_nearestHead_17 : decode cX5_nearestHead 17 = .ok (.invokevirtual 85, 3) := by decide +kernel
theorem dX5_nearestHead_20 : decode cX5_nearestHead 20 = .ok (.ifCond .eq 26, 3) := by decide +kernel
theorem dX5_nearestHead_23 : decode cX5_nearestHead 23 = .ok (.iload_n 2, 1) := by decide +kernel
theorem dX5_nearestHead_24 : decode cX5_nearestHead 24 = .ok (.bipush (-9), 2) := by decide +kernel
theorem dX5_nearestHead_26 : decode cX5_nearestHead 26 = .ok (.if_icmp .eq 18, 3) := by decide +kernel
theorem dX5_nearestHead_29 : decode cX5_nearestHead 29 = .ok (.aload_n 0, 1) := by decide +kernel
theorem dX5_nearestHead_30 : decode cX5_nearestHead 30 = .ok (.iload_n 1, 1) := by decide +kernel
theorem dX5_nearestHead_31 : decode cX5_nearestHead 31 = .ok (.iload_n 3, 1) := by decide +kernel
theorem dX5_nearestHead_32 : decode cX5_nearestHead 32 = .ok (.invokevirtual 88, 3) := by decide +kernel
theorem dX5_nearestHead_35 : decode cX5_nearestHead 35 = .ok (.aload_n 0, 1) := by decide +kernel
theorem dX5_nearestHead_36 : decode cX5_nearestHead 36 = .ok (.iload_n 1, 1) := by decide +kernel
theorem dX5_nearestHead_37 : decode cX5_nearestHead 37 = .ok (.iload_n 2, 1) := by decide +kernel
theorem dX5_nearestHead_38 : decode cX5_nearestHead 38 = .ok (.invokevirtual 88, 3) := by decide +kernel
theorem dX5_nearestHead_41 : decode cX5_nearestHead 41 = .ok (.if_icmp .ge 5, 3) := by decide +kernel
theorem dX5_nearestHead_44 : decode cX5_nearestHead 44 = .ok (.iload_n 3, 1) := by decide +kernel
theorem dX5_nearestHead_45 : decode cX5_nearestHead 45 = .ok (.istore_n 2, 1) := by decide +kernel
theorem dX5_nearestHead_46 : decode cX5_nearestHead 46 = .ok (.iinc 3 1, 3) := by decide +kernel
theorem dX5_nearestHead_49 : decode cX5_nearestHead 49 = .ok (.goto (-44), 3) := by decide +kernel
theorem dX5_nearestHead_52 : decode cX5_nearestHead 52 = .ok (.iload_n 2, 1) := by decide +kernel
theorem dX5_nearestHead_53 : decode cX5_nearestHead 53 = .ok (.ireturn, 1) := by decide +kernel
set_option maxRecDepth 20000 in
theorem ggX5_join_X5_lives : GoodIn wsX5_join wsX5_lives := goodIn_r _ [6, 7, 8, 9, 5, 10, 1, 31, 32, 33, 34, 35, 36, 37, 38, 39] (by decide +kernel) (by decide +kernel)
set_option maxRecDepth 20000 in
theorem gX5_join_X5_lives : GoodIn wsX5_join (wsV RX5 63 RX5 yX5_lives wsX5_lives) := goodIn_app (goodIn_of _ (by decide +kernel)) ggX5_join_X5_lives
set_option maxRecDepth 20000 in
theorem ggX5_join_X5_isHead : GoodIn wsX5_join wsX5_isHead := goodIn_r _ [14, 7, 8, 9, 5, 10, 1, 31, 32, 33, 34, 35, 36, 37, 38, 39] (by decide +kernel) (by decide +kernel)
set_option maxRecDepth 20000 in
theorem gX5_join_X5_isHead : GoodIn wsX5_join (wsV RX5 85 RX5 yX5_isHead wsX5_isHead) := goodIn_app (goodIn_of _ (by decide +kernel)) ggX5_join_X5_isHead
set_option maxRecDepth 20000 in
theorem ggX5_join_X5_nearestHead : GoodIn wsX5_join wsX5_nearestHead := goodIn_r _ [18, 1, 11, 12, 13, 5, 14, 7, 8, 9, 10, 19, 20, 21, 22, 23, 24, 25, 26, 31, 32, 33, 34, 35, 36, 37, 38, 39] (by decide +kernel) (by decide +kernel)
set_option maxRecDepth 20000 in
theorem gX5_join_X5_nearestHead : GoodIn wsX5_join (wsV RX5 91 RX5 yX5_nearestHead wsX5_nearestHead) := goodIn_app (goodIn_of _ (by decide +kernel)) ggX5_join_X5_nearestHead
set_option maxRecDepth 20000 in
theorem ggX5_join_X5_of : GoodIn wsX5_join wsX5_of := goodIn_r _ [10, 1, 31, 32, 33, 34, 35, 36, 37, 38, 39] (by decide +kernel) (by decide +kernel)
set_option maxRecDepth 20000 in
theorem gX5_join_X5_of : GoodIn wsX5_join (wsV RX5 43 RX5 yX5_of wsX5_of) := goodIn_app (goodIn_of _ (by decide +kernel)) ggX5_join_X5_of
set_option maxRecDepth 20000 in
theorem ggX5_join_X5_set : GoodIn wsX5_join wsX5_set := goodIn_r _ [30, 1, 31, 32, 33, 34, 35, 36, 37, 38, 39] (by decide +kernel) (by decide +kernel)
set_option maxRecDepth 20000 in
theorem gX5_join_X5_set : GoodIn wsX5_join (wsV RX5 51 RX5 yX5_set wsX5_set) := goodIn_app (goodIn_of _ (by decide +kernel)) ggX5_join_X5_set
theorem dX5_join_0 : decode cX5_join 0 = .ok (.iconst 0, 1) := by decide +kernel
theorem dX5_join_1 : decode cX5_join 1 = .ok (.istore_n 1, 1) := by decide +kernel
theorem dX5_join_2 : decode cX5_join 2 = .ok (.iload_n 1, 1) := by decide +kernel
theorem dX5_join_3 : decode cX5_join 3 = .ok (.aload_n 0, 1) := by decide +kernel
theorem dX5_join_4 : decode cX5_join 4 = .ok (.getfield 7, 3) := by decide +kernel
theorem dX5_join_7 : decode cX5_join 7 = .ok (.iconst 0, 1) := by decide +kernel
theorem dX5_join_8 : decode cX5_join 8 = .ok (.iaload, 1) := by decide +kernel
theorem dX5_join_9 : decode cX5_join 9 = .ok (.if_icmp .ge 110, 3) := by decide +kernel
theorem dX5_join_12 : decode cX5_join 12 = .ok (.aload_n 0, 1) := by decide +kernel
theorem dX5_join_13 : decode cX5_join 13 = .ok (.iload_n 1, 1) := by decide +kernel
theorem dX5_join_14 : decode cX5_join 14 = .ok (.invokevirtual 63, 3) := by decide +kernel
theorem dX5_join_17 : decode cX5_join 17 = .ok (.ifCond .eq 96, 3) := by decide +kernel
theorem dX5_join_20 : decode cX5_join 20 = .ok (.aload_n 0, 1) := by decide +kernel
theorem dX5_join_21 : decode cX5_join 21 = .ok (.iload_n 1, 1) := by decide +kernel
theorem dX5_join_22 : decode cX5_join 22 = .ok (.invokevirtual 85, 3) := by decide +kernel
theorem dX5_join_25 : decode cX5_join 25 = .ok (.ifCond .ne 88, 3) := by decide +kernel
theorem dX5_join_28 : decode cX5_join 28 = .ok (.aload_n 0, 1) := by decide +kernel
theorem dX5_join_29 : decode cX5_join 29 = .ok (.iload_n 1, 1) := by decide +kernel
theorem dX5_join_30 : decode cX5_join 30 = .ok (.invokevirtual 91, 3) := by decide +kernel
theorem dX5_join_33 : decode cX5_join 33 = .ok (.istore_n 2, 1) := by decide +kernel
theorem dX5_join_34 : decode cX5_join 34 = .ok (.iconst 0, 1) := by decide +kernel
theorem dX5_join_35 : decode cX5_join 35 = .ok (.istore_n 3, 1) := by decide +kernel
theorem dX5_join_36 : decode cX5_join 36 = .ok (.iconst 0, 1) := by decide +kernel
theorem dX5_join_37 : decode cX5_join 37 = .ok (.istore 4, 2) := by decide +kernel
theorem dX5_join_39 : decode cX5_join 39 = .ok (.iload 4, 2) := by decide +kernel
theorem dX5_join_41 : decode cX5_join 41 = .ok (.iload_n 1, 1) := by decide +kernel
theorem dX5_join_42 : decode cX5_join 42 = .ok (.if_icmp .ge 44, 3) := by decide +kernel
theorem dX5_join_45 : decode cX5_join 45 = .ok (.iload_n 2, 1) := by decide +kernel
theorem dX5_join_46 : decode cX5_join 46 = .ok (.bipush (-9), 2) := by decide +kernel
theorem dX5_join_48 : decode cX5_join 48 = .ok (.if_icmp .eq 38, 3) := by decide +kernel
theorem dX5_join_51 : decode cX5_join 51 = .ok (.iload_n 3, 1) := by decide +kernel
theorem dX5_join_52 : decode cX5_join 52 = .ok (.aload_n 0, 1) := by decide +kernel
theorem dX5_join_53 : decode cX5_join 53 = .ok (.iload 4, 2) := by decide +kernel
theorem dX5_join_55 : decode cX5_join 55 = .ok (.invokevirtual 85, 3) := by decide +kernel
theorem dX5_join_58 : decode cX5_join 58 = .ok (.ifCond .ne 19, 3) := by decide +kernel
theorem dX5_join_61 : decode cX5_join 61 = .ok (.aload_n 0, 1) := by decide +kernel
theorem dX5_join_62 : decode cX5_join 62 = .ok (.iload 4, 2) := by decide +kernel
theorem dX5_join_64 : decode cX5_join 64 = .ok (.bipush 7, 2) := by decide +kernel
theorem dX5_join_66 : decode cX5_join 66 = .ok (.invokevirtual 43, 3) := by decide +kernel
theorem dX5_join_69 : decode cX5_join 69 = .ok (.iload_n 2, 1) := by decide +kernel
theorem dX5_join_70 : decode cX5_join 70 = .ok (.if_icmp .ne 7, 3) := by decide +kernel
theorem dX5_join_73 : decode cX5_join 73 = .ok (.iconst 1, 1) := by decide +kernel
theorem dX5_join_74 : decode cX5_join 74 = .ok (.goto 4, 3) := by decide +kernel
theorem dX5_join_77 : decode cX5_join 77 = .ok (.iconst 0, 1) := by decide +kernel
theorem dX5_join_78 : decode cX5_join 78 = .ok (.iadd, 1) := by decide +kernel
theorem dX5_join_79 : decode cX5_join 79 = .ok (.istore_n 3, 1) := by decide +kernel
theorem dX5_join_80 : decode cX5_join 80 = .ok (.iinc 4 1, 3) := by decide +kernel
theorem dX5_join_83 : decode cX5_join 83 = .ok (.goto (-44), 3) := by decide +kernel
theorem dX5_join_86 : decode cX5_join 86 = .ok (.aload_n 0, 1) := by decide +kernel
theorem dX5_join_87 : decode cX5_join 87 = .ok (.iload_n 1, 1) := by decide +kernel
theorem dX5_join_88 : decode cX5_join 88 = .ok (.bipush 7, 2) := by decide +kernel
theorem dX5_join_90 : decode cX5_join 90 = .ok (.iload_n 2, 1) := by decide +kernel
theorem dX5_join_91 : decode cX5_join 91 = .ok (.invokevirtual 51, 3) := by decide +kernel
theorem dX5_join_94 : decode cX5_join 94 = .ok (.aload_n 0, 1) := by decide +kernel
theorem dX5_join_95 : decode cX5_join 95 = .ok (.iload_n 1, 1) := by decide +kernel
theorem dX5_join_96 : decode cX5_join 96 = .ok (.bipush 8, 2) := by decide +kernel
theorem dX5_join_98 : decode cX5_join 98 = .ok (.iload_n 2, 1) := by decide +kernel
theorem dX5_join_99 : decode cX5_join 99 = .ok (.bipush (-9), 2) := by decide +kernel
theorem dX5_join_101 : decode cX5_join 101 = .ok (.if_icmp .ne 8, 3) := by decide +kernel
theorem dX5_join_104 : decode cX5_join 104 = .ok (.bipush (-9), 2) := by decide +kernel
theorem dX5_join_106 : decode cX5_join 106 = .ok (.goto 4, 3) := by decide +kernel
theorem dX5_join_109 : decode cX5_join 109 = .ok (.iload_n 3, 1) := by decide +kernel
theorem dX5_join_110 : decode cX5_join 110 = .ok (.invokevirtual 51, 3) := by decide +kernel
theorem dX5_join_113 : decode cX5_join 113 = .ok (.iinc 1 1, 3) := by decide +kernel
theorem dX5_join_116 : decode cX5_join 116 = .ok (.goto (-114), 3) := by decide +kernel
theorem dX5_join_119 : decode cX5_join 119 = .ok (.return_, 1) := by decide +kernel
set_option maxRecDepth 20000 in
theorem ggX5_report_X5_isHead : GoodIn wsX5_report wsX5_isHead := goodIn_r _ [7, 8, 9, 10, 6, 11, 1, 44, 45, 46, 47, 48, 49, 50, 51, 52] (by decide +kernel) (by decide +kernel)
set_option maxRecDepth 20000 in
theorem gX5_report_X5_isHead : GoodIn wsX5_report (wsV RX5 85 RX5 yX5_isHead wsX5_isHead) := goodIn_app (goodIn_of _ (by decide +kernel)) ggX5_report_X5_isHead
set_option maxRecDepth 20000 in
theorem ggX5_report_X5_of : GoodIn wsX5_report wsX5_of := goodIn_r _ [11, 1, 44, 45, 46, 47, 48, 49, 50, 51, 52] (by decide +kernel) (by decide +kernel)
set_option maxRecDepth 20000 in
theorem gX5_report_X5_of : GoodIn wsX5_report (wsV RX5 43 RX5 yX5_of wsX5_of) := goodIn_app (goodIn_of _ (by decide +kernel)) ggX5_report_X5_of
set_option maxRecDepth 20000 in
theorem ggX5_report_X5_lives : GoodIn wsX5_report wsX5_lives := goodIn_r _ [15, 8, 9, 10, 6, 11, 1, 44, 45, 46, 47, 48, 49, 50, 51, 52] (by decide +kernel) (by decide +kernel)
set_option maxRecDepth 20000 in
theorem gX5_report_X5_lives : GoodIn wsX5_report (wsV RX5 63 RX5 yX5_lives wsX5_lives) := goodIn_app (goodIn_of _ (by decide +kernel)) ggX5_report_X5_lives
set_option maxRecDepth 20000 in
theorem ggX5_report_X5_distance : GoodIn wsX5_report wsX5_distance := goodIn_r _ [19, 8, 9, 10, 6, 11, 1, 20, 21, 22, 23, 44, 45, 46, 47, 48, 49, 50, 51, 52] (by decide +kernel) (by decide +kernel)
set_option maxRecDepth 20000 in
theorem gX5_report_X5_distance : GoodIn wsX5_report (wsV RX5 88 RX5 yX5_distance wsX5_distance) := goodIn_app (goodIn_of _ (by decide +kernel)) ggX5_report_X5_distance
set_option maxRecDepth 20000 in
theorem ggX5_report_X5_sendingCost : GoodIn wsX5_report wsX5_sendingCost := goodIn_r _ [27, 28, 29, 30, 6, 31, 1, 44, 45, 46, 47, 48, 49, 50, 51, 52] (by decide +kernel) (by decide +kernel)
set_option maxRecDepth 20000 in
theorem gX5_report_X5_sendingCost : GoodIn wsX5_report (wsV RX5 94 RX5 yX5_sendingCost wsX5_sendingCost) := goodIn_app (goodIn_of _ (by decide +kernel)) ggX5_report_X5_sendingCost
set_option maxRecDepth 20000 in
theorem ggX5_report_X5_pays : GoodIn wsX5_report wsX5_pays := goodIn_r _ [35, 1, 8, 9, 10, 6, 11, 36, 37, 38, 39, 44, 45, 46, 47, 48, 49, 50, 51, 52] (by decide +kernel) (by decide +kernel)
set_option maxRecDepth 20000 in
theorem gX5_report_X5_pays : GoodIn wsX5_report (wsV RX5 75 RX5 yX5_pays wsX5_pays) := goodIn_app (goodIn_of _ (by decide +kernel)) ggX5_report_X5_pays
set_option maxRecDepth 20000 in
theorem ggX5_report_X5_takesIn : GoodIn wsX5_report wsX5_takesIn := goodIn_r _ [43, 12, 13, 14, 6, 15, 8, 9, 10, 11, 1, 28, 29, 30, 31, 32, 33, 34, 35, 36, 37, 38, 39, 44, 45, 46, 47, 48, 49, 50, 51, 52] (by decide +kernel) (by decide +kernel)
set_option maxRecDepth 20000 in
theorem gX5_report_X5_takesIn : GoodIn wsX5_report (wsV RX5 97 RX5 yX5_takesIn wsX5_takesIn) := goodIn_app (goodIn_of _ (by decide +kernel)) ggX5_report_X5_takesIn
set_option maxRecDepth 20000 in
theorem ggX5_report_X5_setting : GoodIn wsX5_report wsX5_setting := goodIn_r _ [31, 1, 44, 45, 46, 47, 48, 49, 50, 51, 52] (by decide +kernel) (by decide +kernel)
set_option maxRecDepth 20000 in
theorem gX5_report_X5_setting : GoodIn wsX5_report (wsV RX5 71 RX5 yX5_setting wsX5_setting) := goodIn_app (goodIn_of _ (by decide +kernel)) ggX5_report_X5_setting
theorem dX5_report_0 : decode cX5_report 0 = .ok (.iconst 0, 1) := by decide +kernel
theorem dX5_report_1 : decode cX5_report 1 = .ok (.istore_n 1, 1) := by decide +kernel
theorem dX5_report_2 : decode cX5_report 2 = .ok (.iload_n 1, 1) := by decide +kernel
theorem dX5_report_3 : decode cX5_report 3 = .ok (.aload_n 0, 1) := by decide +kernel
theorem dX5_report_4 : decode cX5_report 4 = .ok (.getfield 7, 3) := by decide +kernel
theorem dX5_report_7 : decode cX5_report 7 = .ok (.iconst 0, 1) := by decide +kernel
theorem dX5_report_8 : decode cX5_report 8 = .ok (.iaload, 1) := by decide +kernel
theorem dX5_report_9 : decode cX5_report 9 = .ok (.if_icmp .ge 105, 3) := by decide +kernel
theorem dX5_report_12 : decode cX5_report 12 = .ok (.iconst 0, 1) := by decide +kernel
theorem dX5_report_13 : decode cX5_report 13 = .ok (.istore_n 2, 1) := by decide +kernel
theorem dX5_report_14 : decode cX5_report 14 = .ok (.iload_n 2, 1) := by decide +kernel
theorem dX5_report_15 : decode cX5_report 15 = .ok (.aload_n 0, 1) := by decide +kernel
theorem dX5_report_16 : decode cX5_report 16 = .ok (.getfield 7, 3) := by decide +kernel
theorem dX5_report_19 : decode cX5_report 19 = .ok (.iconst 0, 1) := by decide +kernel
theorem dX5_report_20 : decode cX5_report 20 = .ok (.iaload, 1) := by decide +kernel
theorem dX5_report_21 : decode cX5_report 21 = .ok (.if_icmp .ge 87, 3) := by decide +kernel
theorem dX5_report_24 : decode cX5_report 24 = .ok (.aload_n 0, 1) := by decide +kernel
theorem dX5_report_25 : decode cX5_report 25 = .ok (.iload_n 1, 1) := by decide +kernel
theorem dX5_report_26 : decode cX5_report 26 = .ok (.invokevirtual 85, 3) := by decide +kernel
theorem dX5_report_29 : decode cX5_report 29 = .ok (.ifCond .eq 79, 3) := by decide +kernel
theorem dX5_report_32 : decode cX5_report 32 = .ok (.iload_n 2, 1) := by decide +kernel
theorem dX5_report_33 : decode cX5_report 33 = .ok (.iload_n 1, 1) := by decide +kernel
theorem dX5_report_34 : decode cX5_report 34 = .ok (.if_icmp .eq 44, 3) := by decide +kernel
theorem dX5_report_37 : decode cX5_report 37 = .ok (.aload_n 0, 1) := by decide +kernel
theorem dX5_report_38 : decode cX5_report 38 = .ok (.iload_n 2, 1) := by decide +kernel
theorem dX5_report_39 : decode cX5_report 39 = .ok (.bipush 7, 2) := by decide +kernel
theorem dX5_report_41 : decode cX5_report 41 = .ok (.invokevirtual 43, 3) := by decide +kernel
theorem dX5_report_44 : decode cX5_report 44 = .ok (.iload_n 1, 1) := by decide +kernel
theorem dX5_report_45 : decode cX5_report 45 = .ok (.if_icmp .ne 33, 3) := by decide +kernel
theorem dX5_report_48 : decode cX5_report 48 = .ok (.aload_n 0, 1) := by decide +kernel
theorem dX5_report_49 : decode cX5_report 49 = .ok (.iload_n 2, 1) := by decide +kernel
theorem dX5_report_50 : decode cX5_report 50 = .ok (.invokevirtual 63, 3) := by decide +kernel
theorem dX5_report_53 : decode cX5_report 53 = .ok (.ifCond .eq 25, 3) := by decide +kernel
theorem dX5_report_56 : decode cX5_report 56 = .ok (.aload_n 0, 1) := by decide +kernel
theorem dX5_report_57 : decode cX5_report 57 = .ok (.iload_n 2, 1) := by decide +kernel
theorem dX5_report_58 : decode cX5_report 58 = .ok (.aload_n 0, 1) := by decide +kernel
theorem dX5_report_59 : decode cX5_report 59 = .ok (.aload_n 0, 1) := by decide +kernel
theorem dX5_report_60 : decode cX5_report 60 = .ok (.iload_n 2, 1) := by decide +kernel
theorem dX5_report_61 : decode cX5_report 61 = .ok (.iload_n 1, 1) := by decide +kernel
theorem dX5_report_62 : decode cX5_report 62 = .ok (.invokevirtual 88, 3) := by decide +kernel
theorem dX5_report_65 : decode cX5_report 65 = .ok (.invokevirtual 94, 3) := by decide +kernel
theorem dX5_report_68 : decode cX5_report 68 = .ok (.invokevirtual 75, 3) := by decide +kernel
theorem dX5_report_71 : decode cX5_report 71 = .ok (.ifCond .eq 7, 3) := by decide +kernel
theorem dX5_report_74 : decode cX5_report 74 = .ok (.iconst 1, 1) := by decide +kernel
theorem dX5_report_75 : decode cX5_report 75 = .ok (.goto 4, 3) := by decide +kernel
theorem dX5_report_78 : decode cX5_report 78 = .ok (.iconst 0, 1) := by decide +kernel
theorem dX5_report_79 : decode cX5_report 79 = .ok (.istore_n 3, 1) := by decide +kernel
theorem dX5_report_80 : decode cX5_report 80 = .ok (.iload_n 3, 1) := by decide +kernel
theorem dX5_report_81 : decode cX5_report 81 = .ok (.ifCond .eq 21, 3) := by decide +kernel
theorem dX5_report_84 : decode cX5_report 84 = .ok (.aload_n 0, 1) := by decide +kernel
theorem dX5_report_85 : decode cX5_report 85 = .ok (.iload_n 1, 1) := by decide +kernel
theorem dX5_report_86 : decode cX5_report 86 = .ok (.invokevirtual 97, 3) := by decide +kernel
theorem dX5_report_89 : decode cX5_report 89 = .ok (.ifCond .eq 13, 3) := by decide +kernel
theorem dX5_report_92 : decode cX5_report 92 = .ok (.aload_n 0, 1) := by decide +kernel
theorem dX5_report_93 : decode cX5_report 93 = .ok (.getfield 29, 3) := by decide +kernel
theorem dX5_report_96 : decode cX5_report 96 = .ok (.iload_n 1, 1) := by decide +kernel
theorem dX5_report_97 : decode cX5_report 97 = .ok (.dup2, 1) := by decide +kernel
theorem dX5_report_98 : decode cX5_report 98 = .ok (.iaload, 1) := by decide +kernel
theorem dX5_report_99 : decode cX5_report 99 = .ok (.iconst 1, 1) := by decide +kernel
theorem dX5_report_100 : decode cX5_report 100 = .ok (.iadd, 1) := by decide +kernel
theorem dX5_report_101 : decode cX5_report 101 = .ok (.iastore, 1) := by decide +kernel
theorem dX5_report_102 : decode cX5_report 102 = .ok (.iinc 2 1, 3) := by decide +kernel
theorem dX5_report_105 : decode cX5_report 105 = .ok (.goto (-91), 3) := by decide +kernel
theorem dX5_report_108 : decode cX5_report 108 = .ok (.iinc 1 1, 3) := by decide +kernel
theorem dX5_report_111 : decode cX5_report 111 = .ok (.goto (-109), 3) := by decide +kernel
theorem dX5_report_114 : decode cX5_report 114 = .ok (.iconst 0, 1) := by decide +kernel
theorem dX5_report_115 : decode cX5_report 115 = .ok (.istore_n 1, 1) := by decide +kernel
theorem dX5_report_116 : decode cX5_report 116 = .ok (.iload_n 1, 1) := by decide +kernel
theorem dX5_report_117 : decode cX5_report 117 = .ok (.aload_n 0, 1) := by decide +kernel
theorem dX5_report_118 : decode cX5_report 118 = .ok (.getfield 7, 3) := by decide +kernel
theorem dX5_report_121 : decode cX5_report 121 = .ok (.iconst 0, 1) := by decide +kernel
theorem dX5_report_122 : decode cX5_report 122 = .ok (.iaload, 1) := by decide +kernel
theorem dX5_report_123 : decode cX5_report 123 = .ok (.if_icmp .ge 48, 3) := by decide +kernel
theorem dX5_report_126 : decode cX5_report 126 = .ok (.aload_n 0, 1) := by decide +kernel
theorem dX5_report_127 : decode cX5_report 127 = .ok (.iload_n 1, 1) := by decide +kernel
theorem dX5_report_128 : decode cX5_report 128 = .ok (.invokevirtual 85, 3) := by decide +kernel
theorem dX5_report_131 : decode cX5_report 131 = .ok (.ifCond .eq 34, 3) := by decide +kernel
theorem dX5_report_134 : decode cX5_report 134 = .ok (.aload_n 0, 1) := by decide +kernel
theorem dX5_report_135 : decode cX5_report 135 = .ok (.iload_n 1, 1) := by decide +kernel
theorem dX5_report_136 : decode cX5_report 136 = .ok (.invokevirtual 63, 3) := by decide +kernel
theorem dX5_report_139 : decode cX5_report 139 = .ok (.ifCond .eq 26, 3) := by decide +kernel
theorem dX5_report_142 : decode cX5_report 142 = .ok (.aload_n 0, 1) := by decide +kernel
theorem dX5_report_143 : decode cX5_report 143 = .ok (.iload_n 1, 1) := by decide +kernel
theorem dX5_report_144 : decode cX5_report 144 = .ok (.aload_n 0, 1) := by decide +kernel
theorem dX5_report_145 : decode cX5_report 145 = .ok (.iconst 3, 1) := by decide +kernel
theorem dX5_report_146 : decode cX5_report 146 = .ok (.invokevirtual 71, 3) := by decide +kernel
theorem dX5_report_149 : decode cX5_report 149 = .ok (.invokevirtual 75, 3) := by decide +kernel
theorem dX5_report_152 : decode cX5_report 152 = .ok (.ifCond .eq 13, 3) := by decide +kernel
theorem dX5_report_155 : decode cX5_report 155 = .ok (.aload_n 0, 1) := by decide +kernel
theorem dX5_report_156 : decode cX5_report 156 = .ok (.getfield 29, 3) := by decide +kernel
theorem dX5_report_159 : decode cX5_report 159 = .ok (.iload_n 1, 1) := by decide +kernel
theorem dX5_report_160 : decode cX5_report 160 = .ok (.dup2, 1) := by decide +kernel
theorem dX5_report_161 : decode cX5_report 161 = .ok (.iaload, 1) := by decide +kernel
theorem dX5_report_162 : decode cX5_report 162 = .ok (.iconst 1, 1) := by decide +kernel
theorem dX5_report_163 : decode cX5_report 163 = .ok (.iadd, 1) := by decide +kernel
theorem dX5_report_164 : decode cX5_report 164 = .ok (.iastore, 1) := by decide +kernel
theorem dX5_report_165 : decode cX5_report 165 = .ok (.iinc 1 1, 3) := by decide +kernel
theorem dX5_report_168 : decode cX5_report 168 = .ok (.goto (-52), 3) := by decide +kernel
theorem dX5_report_171 : decode cX5_report 171 = .ok (.return_, 1) := by decide +kernel
set_option maxRecDepth 20000 in
theorem ggX5_deliver_X5_lives : GoodIn wsX5_deliver wsX5_lives := goodIn_r _ [7, 8, 9, 10, 6, 11, 1, 36, 37, 38, 39, 40, 41, 42, 43, 44] (by decide +kernel) (by decide +kernel)
set_option maxRecDepth 20000 in
theorem gX5_deliver_X5_lives : GoodIn wsX5_deliver (wsV RX5 63 RX5 yX5_lives wsX5_lives) := goodIn_app (goodIn_of _ (by decide +kernel)) ggX5_deliver_X5_lives
set_option maxRecDepth 20000 in
theorem ggX5_deliver_X5_distanceToBase : GoodIn wsX5_deliver wsX5_distanceToBase := goodIn_r _ [15, 1, 16, 17, 18, 6, 19, 8, 9, 10, 11, 36, 37, 38, 39, 40, 41, 42, 43, 44] (by decide +kernel) (by decide +kernel)
set_option maxRecDepth 20000 in
theorem gX5_deliver_X5_distanceToBase : GoodIn wsX5_deliver (wsV RX5 100 RX5 yX5_distanceToBase wsX5_distanceToBase) := goodIn_app (goodIn_of _ (by decide +kernel)) ggX5_deliver_X5_distanceToBase
set_option maxRecDepth 20000 in
theorem ggX5_deliver_X5_sendingCost : GoodIn wsX5_deliver wsX5_sendingCost := goodIn_r _ [23, 24, 25, 26, 6, 27, 1, 36, 37, 38, 39, 40, 41, 42, 43, 44] (by decide +kernel) (by decide +kernel)
set_option maxRecDepth 20000 in
theorem gX5_deliver_X5_sendingCost : GoodIn wsX5_deliver (wsV RX5 94 RX5 yX5_sendingCost wsX5_sendingCost) := goodIn_app (goodIn_of _ (by decide +kernel)) ggX5_deliver_X5_sendingCost
set_option maxRecDepth 20000 in
theorem ggX5_deliver_X5_pays : GoodIn wsX5_deliver wsX5_pays := goodIn_r _ [31, 1, 8, 9, 10, 6, 11, 32, 33, 34, 35, 36, 37, 38, 39, 40, 41, 42, 43, 44] (by decide +kernel) (by decide +kernel)
set_option maxRecDepth 20000 in
theorem gX5_deliver_X5_pays : GoodIn wsX5_deliver (wsV RX5 75 RX5 yX5_pays wsX5_pays) := goodIn_app (goodIn_of _ (by decide +kernel)) ggX5_deliver_X5_pays
theorem dX5_deliver_0 : decode cX5_deliver 0 = .ok (.aload_n 0, 1) := by decide +kernel
theorem dX5_deliver_1 : decode cX5_deliver 1 = .ok (.iload_n 1, 1) := by decide +kernel
theorem dX5_deliver_2 : decode cX5_deliver 2 = .ok (.invokevirtual 63, 3) := by decide +kernel
theorem dX5_deliver_5 : decode cX5_deliver 5 = .ok (.ifCond .eq 36, 3) := by decide +kernel
theorem dX5_deliver_8 : decode cX5_deliver 8 = .ok (.aload_n 0, 1) := by decide +kernel
theorem dX5_deliver_9 : decode cX5_deliver 9 = .ok (.iload_n 1, 1) := by decide +kernel
theorem dX5_deliver_10 : decode cX5_deliver 10 = .ok (.aload_n 0, 1) := by decide +kernel
theorem dX5_deliver_11 : decode cX5_deliver 11 = .ok (.aload_n 0, 1) := by decide +kernel
theorem dX5_deliver_12 : decode cX5_deliver 12 = .ok (.iload_n 1, 1) := by decide +kernel
theorem dX5_deliver_13 : decode cX5_deliver 13 = .ok (.invokevirtual 100, 3) := by decide +kernel
theorem dX5_deliver_16 : decode cX5_deliver 16 = .ok (.invokevirtual 94, 3) := by decide +kernel
theorem dX5_deliver_19 : decode cX5_deliver 19 = .ok (.invokevirtual 75, 3) := by decide +kernel
theorem dX5_deliver_22 : decode cX5_deliver 22 = .ok (.ifCond .eq 19, 3) := by decide +kernel
theorem dX5_deliver_25 : decode cX5_deliver 25 = .ok (.aload_n 0, 1) := by decide +kernel
theorem dX5_deliver_26 : decode cX5_deliver 26 = .ok (.getfield 7, 3) := by decide +kernel
theorem dX5_deliver_29 : decode cX5_deliver 29 = .ok (.bipush 12, 2) := by decide +kernel
theorem dX5_deliver_31 : decode cX5_deliver 31 = .ok (.dup2, 1) := by decide +kernel
theorem dX5_deliver_32 : decode cX5_deliver 32 = .ok (.iaload, 1) := by decide +kernel
theorem dX5_deliver_33 : decode cX5_deliver 33 = .ok (.aload_n 0, 1) := by decide +kernel
theorem dX5_deliver_34 : decode cX5_deliver 34 = .ok (.getfield 29, 3) := by decide +kernel
theorem dX5_deliver_37 : decode cX5_deliver 37 = .ok (.iload_n 1, 1) := by decide +kernel
theorem dX5_deliver_38 : decode cX5_deliver 38 = .ok (.iaload, 1) := by decide +kernel
theorem dX5_deliver_39 : decode cX5_deliver 39 = .ok (.iadd, 1) := by decide +kernel
theorem dX5_deliver_40 : decode cX5_deliver 40 = .ok (.iastore, 1) := by decide +kernel
theorem dX5_deliver_41 : decode cX5_deliver 41 = .ok (.return_, 1) := by decide +kernel
set_option maxRecDepth 20000 in
theorem ggX5_relay_X5_isHead : GoodIn wsX5_relay wsX5_isHead := goodIn_r _ [6, 7, 8, 9, 5, 10, 1, 23, 24, 25, 26, 27, 28, 29, 30, 31] (by decide +kernel) (by decide +kernel)
set_option maxRecDepth 20000 in
theorem gX5_relay_X5_isHead : GoodIn wsX5_relay (wsV RX5 85 RX5 yX5_isHead wsX5_isHead) := goodIn_app (goodIn_of _ (by decide +kernel)) ggX5_relay_X5_isHead
set_option maxRecDepth 20000 in
theorem ggX5_relay_X5_lives : GoodIn wsX5_relay wsX5_lives := goodIn_r _ [14, 7, 8, 9, 5, 10, 1, 23, 24, 25, 26, 27, 28, 29, 30, 31] (by decide +kernel) (by decide +kernel)
set_option maxRecDepth 20000 in
theorem gX5_relay_X5_lives : GoodIn wsX5_relay (wsV RX5 63 RX5 yX5_lives wsX5_lives) := goodIn_app (goodIn_of _ (by decide +kernel)) ggX5_relay_X5_lives
set_option maxRecDepth 20000 in
theorem ggX5_relay_X5_distanceToBase : GoodIn wsX5_relay wsX5_distanceToBase := goodIn_r _ [18, 1, 19, 20, 21, 5, 22, 7, 8, 9, 10, 23, 24, 25, 26, 27, 28, 29, 30, 31] (by decide +kernel) (by decide +kernel)
set_option maxRecDepth 20000 in
theorem gX5_relay_X5_distanceToBase : GoodIn wsX5_relay (wsV RX5 100 RX5 yX5_distanceToBase wsX5_distanceToBase) := goodIn_app (goodIn_of _ (by decide +kernel)) ggX5_relay_X5_distanceToBase
theorem dX5_relay_0 : decode cX5_relay 0 = .ok (.bipush (-9), 2) := by decide +kernel
theorem dX5_relay_2 : decode cX5_relay 2 = .ok (.istore_n 1, 1) := by decide +kernel
theorem dX5_relay_3 : decode cX5_relay 3 = .ok (.iconst 0, 1) := by decide +kernel
theorem dX5_relay_4 : decode cX5_relay 4 = .ok (.istore_n 2, 1) := by decide +kernel
theorem dX5_relay_5 : decode cX5_relay 5 = .ok (.iload_n 2, 1) := by decide +kernel
theorem dX5_relay_6 : decode cX5_relay 6 = .ok (.aload_n 0, 1) := by decide +kernel
theorem dX5_relay_7 : decode cX5_relay 7 = .ok (.getfield 7, 3) := by decide +kernel
theorem dX5_relay_10 : decode cX5_relay 10 = .ok (.iconst 0, 1) := by decide +kernel
theorem dX5_relay_11 : decode cX5_relay 11 = .ok (.iaload, 1) := by decide +kernel
theorem dX5_relay_12 : decode cX5_relay 12 = .ok (.if_icmp .ge 46, 3) := by decide +kernel
theorem dX5_relay_15 : decode cX5_relay 15 = .ok (.aload_n 0, 1) := by decide +kernel
theorem dX5_relay_16 : decode cX5_relay 16 = .ok (.iload_n 2, 1) := by decide +kernel
theorem dX5_relay_17 : decode cX5_relay 17 = .ok (.invokevirtual 85, 3) := by decide +kernel
theorem dX5_relay_20 : decode cX5_relay 20 = .ok (.ifCond .eq 32, 3) := by decide +kernel
theorem dX5_relay_23 : decode cX5_relay 23 = .ok (.aload_n 0, 1) := by decide +kernel
theorem dX5_relay_24 : decode cX5_relay 24 = .ok (.iload_n 2, 1) := by decide +kernel
theorem dX5_relay_25 : decode cX5_relay 25 = .ok (.invokevirtual 63, 3) := by decide +kernel
theorem dX5_relay_28 : decode cX5_relay 28 = .ok (.ifCond .eq 24, 3) := by decide +kernel
theorem dX5_relay_31 : decode cX5_relay 31 = .ok (.iload_n 1, 1) := by decide +kernel
theorem dX5_relay_32 : decode cX5_relay 32 = .ok (.bipush (-9), 2) := by decide +kernel
theorem dX5_relay_34 : decode cX5_relay 34 = .ok (.if_icmp .eq 16, 3) := by decide +kernel
theorem dX5_relay_37 : decode cX5_relay 37 = .ok (.aload_n 0, 1) := by decide +kernel
theorem dX5_relay_38 : decode cX5_relay 38 = .ok (.iload_n 2, 1) := by decide +kernel
theorem dX5_relay_39 : decode cX5_relay 39 = .ok (.invokevirtual 100, 3) := by decide +kernel
theorem dX5_relay_42 : decode cX5_relay 42 = .ok (.aload_n 0, 1) := by decide +kernel
theorem dX5_relay_43 : decode cX5_relay 43 = .ok (.iload_n 1, 1) := by decide +kernel
theorem dX5_relay_44 : decode cX5_relay 44 = .ok (.invokevirtual 100, 3) := by decide +kernel
theorem dX5_relay_47 : decode cX5_relay 47 = .ok (.if_icmp .ge 5, 3) := by decide +kernel
theorem dX5_relay_50 : decode cX5_relay 50 = .ok (.iload_n 2, 1) := by decide +kernel
theorem dX5_relay_51 : decode cX5_relay 51 = .ok (.istore_n 1, 1) := by decide +kernel
theorem dX5_relay_52 : decode cX5_relay 52 = .ok (.iinc 2 1, 3) := by decide +kernel
theorem dX5_relay_55 : decode cX5_relay 55 = .ok (.goto (-50), 3) := by decide +kernel
theorem dX5_relay_58 : decode cX5_relay 58 = .ok (.iload_n 1, 1) := by decide +kernel
theorem dX5_relay_59 : decode cX5_relay 59 = .ok (.ireturn, 1) := by decide +kernel
set_option maxRecDepth 20000 in
theorem ggX5_deliverByRelay_X5_relay : GoodIn wsX5_deliverByRelay wsX5_relay := goodIn_r _ [7, 1, 8, 9, 10, 6, 11, 12, 13, 14, 15, 16, 17, 18, 19, 20, 21, 22, 23, 24, 25, 26, 27, 56, 57, 58, 59, 60, 61, 62, 63, 64] (by decide +kernel) (by decide +kernel)
set_option maxRecDepth 20000 in
theorem gX5_deliverByRelay_X5_relay : GoodIn wsX5_deliverByRelay (wsV RX5 103 RX5 yX5_relay wsX5_relay) := goodIn_app (goodIn_of _ (by decide +kernel)) ggX5_deliverByRelay_X5_relay
set_option maxRecDepth 20000 in
theorem ggX5_deliverByRelay_X5_isHead : GoodIn wsX5_deliverByRelay wsX5_isHead := goodIn_r _ [11, 12, 13, 14, 6, 15, 1, 56, 57, 58, 59, 60, 61, 62, 63, 64] (by decide +kernel) (by decide +kernel)
set_option maxRecDepth 20000 in
theorem gX5_deliverByRelay_X5_isHead : GoodIn wsX5_deliverByRelay (wsV RX5 85 RX5 yX5_isHead wsX5_isHead) := goodIn_app (goodIn_of _ (by decide +kernel)) ggX5_deliverByRelay_X5_isHead
set_option maxRecDepth 20000 in
theorem ggX5_deliverByRelay_X5_lives : GoodIn wsX5_deliverByRelay wsX5_lives := goodIn_r _ [19, 12, 13, 14, 6, 15, 1, 56, 57, 58, 59, 60, 61, 62, 63, 64] (by decide +kernel) (by decide +kernel)
set_option maxRecDepth 20000 in
theorem gX5_deliverByRelay_X5_lives : GoodIn wsX5_deliverByRelay (wsV RX5 63 RX5 yX5_lives wsX5_lives) := goodIn_app (goodIn_of _ (by decide +kernel)) ggX5_deliverByRelay_X5_lives
set_option maxRecDepth 20000 in
theorem ggX5_deliverByRelay_X5_distance : GoodIn wsX5_deliverByRelay wsX5_distance := goodIn_r _ [31, 12, 13, 14, 6, 15, 1, 24, 25, 26, 27, 56, 57, 58, 59, 60, 61, 62, 63, 64] (by decide +kernel) (by decide +kernel)
set_option maxRecDepth 20000 in
theorem gX5_deliverByRelay_X5_distance : GoodIn wsX5_deliverByRelay (wsV RX5 88 RX5 yX5_distance wsX5_distance) := goodIn_app (goodIn_of _ (by decide +kernel)) ggX5_deliverByRelay_X5_distance
set_option maxRecDepth 20000 in
theorem ggX5_deliverByRelay_X5_sendingCost : GoodIn wsX5_deliverByRelay wsX5_sendingCost := goodIn_r _ [35, 36, 37, 38, 6, 39, 1, 56, 57, 58, 59, 60, 61, 62, 63, 64] (by decide +kernel) (by decide +kernel)
set_option maxRecDepth 20000 in
theorem gX5_deliverByRelay_X5_sendingCost : GoodIn wsX5_deliverByRelay (wsV RX5 94 RX5 yX5_sendingCost wsX5_sendingCost) := goodIn_app (goodIn_of _ (by decide +kernel)) ggX5_deliverByRelay_X5_sendingCost
set_option maxRecDepth 20000 in
theorem ggX5_deliverByRelay_X5_pays : GoodIn wsX5_deliverByRelay wsX5_pays := goodIn_r _ [43, 1, 12, 13, 14, 6, 15, 44, 45, 46, 47, 56, 57, 58, 59, 60, 61, 62, 63, 64] (by decide +kernel) (by decide +kernel)
set_option maxRecDepth 20000 in
theorem gX5_deliverByRelay_X5_pays : GoodIn wsX5_deliverByRelay (wsV RX5 75 RX5 yX5_pays wsX5_pays) := goodIn_app (goodIn_of _ (by decide +kernel)) ggX5_deliverByRelay_X5_pays
set_option maxRecDepth 20000 in
theorem ggX5_deliverByRelay_X5_takesIn : GoodIn wsX5_deliverByRelay wsX5_takesIn := goodIn_r _ [51, 16, 17, 18, 6, 19, 12, 13, 14, 15, 1, 36, 37, 38, 39, 40, 41, 42, 43, 44, 45, 46, 47, 56, 57, 58, 59, 60, 61, 62, 63, 64] (by decide +kernel) (by decide +kernel)
set_option maxRecDepth 20000 in
theorem gX5_deliverByRelay_X5_takesIn : GoodIn wsX5_deliverByRelay (wsV RX5 97 RX5 yX5_takesIn wsX5_takesIn) := goodIn_app (goodIn_of _ (by decide +kernel)) ggX5_deliverByRelay_X5_takesIn
set_option maxRecDepth 20000 in
theorem ggX5_deliverByRelay_X5_deliver : GoodIn wsX5_deliverByRelay wsX5_deliver := goodIn_r _ [55, 1, 2, 16, 17, 18, 6, 19, 12, 13, 14, 15, 20, 21, 22, 23, 24, 25, 26, 27, 32, 33, 34, 35, 36, 37, 38, 39, 40, 41, 42, 43, 44, 45, 46, 47, 56, 57, 58, 59, 60, 61, 62, 63, 64] (by decide +kernel) (by decide +kernel)
set_option maxRecDepth 20000 in
theorem gX5_deliverByRelay_X5_deliver : GoodIn wsX5_deliverByRelay (wsV RX5 106 RX5 yX5_deliver wsX5_deliver) := goodIn_app (goodIn_of _ (by decide +kernel)) ggX5_deliverByRelay_X5_deliver
theorem dX5_deliverByRelay_0 : decode cX5_deliverByRelay 0 = .ok (.aload_n 0, 1) := by decide +kernel
theorem dX5_deliverByRelay_1 : decode cX5_deliverByRelay 1 = .ok (.invokevirtual 103, 3) := by decide +kernel
theorem dX5_deliverByRelay_4 : decode cX5_deliverByRelay 4 = .ok (.istore_n 1, 1) := by decide +kernel
theorem dX5_deliverByRelay_5 : decode cX5_deliverByRelay 5 = .ok (.iload_n 1, 1) := by decide +kernel
theorem dX5_deliverByRelay_6 : decode cX5_deliverByRelay 6 = .ok (.bipush (-9), 2) := by decide +kernel
theorem dX5_deliverByRelay_8 : decode cX5_deliverByRelay 8 = .ok (.if_icmp .ne 4, 3) := by decide +kernel
theorem dX5_deliverByRelay_11 : decode cX5_deliverByRelay 11 = .ok (.return_, 1) := by decide +kernel
theorem dX5_deliverByRelay_12 : decode cX5_deliverByRelay 12 = .ok (.iconst 0, 1) := by decide +kernel
theorem dX5_deliverByRelay_13 : decode cX5_deliverByRelay 13 = .ok (.istore_n 2, 1) := by decide +kernel
theorem dX5_deliverByRelay_14 : decode cX5_deliverByRelay 14 = .ok (.iload_n 2, 1) := by decide +kernel
theorem dX5_deliverByRelay_15 : decode cX5_deliverByRelay 15 = .ok (.aload_n 0, 1) := by decide +kernel
theorem dX5_deliverByRelay_16 : decode cX5_deliverByRelay 16 = .ok (.getfield 7, 3) := by decide +kernel
theorem dX5_deliverByRelay_19 : decode cX5_deliverByRelay 19 = .ok (.iconst 0, 1) := by decide +kernel
theorem dX5_deliverByRelay_20 : decode cX5_deliverByRelay 20 = .ok (.iaload, 1) := by decide +kernel
theorem dX5_deliverByRelay_21 : decode cX5_deliverByRelay 21 = .ok (.if_icmp .ge 81, 3) := by decide +kernel
theorem dX5_deliverByRelay_24 : decode cX5_deliverByRelay 24 = .ok (.aload_n 0, 1) := by decide +kernel
theorem dX5_deliverByRelay_25 : decode cX5_deliverByRelay 25 = .ok (.iload_n 2, 1) := by decide +kernel
theorem dX5_deliverByRelay_26 : decode cX5_deliverByRelay 26 = .ok (.invokevirtual 85, 3) := by decide +kernel
theorem dX5_deliverByRelay_29 : decode cX5_deliverByRelay 29 = .ok (.ifCond .eq 38, 3) := by decide +kernel
theorem dX5_deliverByRelay_32 : decode cX5_deliverByRelay 32 = .ok (.iload_n 2, 1) := by decide +kernel
theorem dX5_deliverByRelay_33 : decode cX5_deliverByRelay 33 = .ok (.iload_n 1, 1) := by decide +kernel
theorem dX5_deliverByRelay_34 : decode cX5_deliverByRelay 34 = .ok (.if_icmp .eq 33, 3) := by decide +kernel
theorem dX5_deliverByRelay_37 : decode cX5_deliverByRelay 37 = .ok (.aload_n 0, 1) := by decide +kernel
theorem dX5_deliverByRelay_38 : decode cX5_deliverByRelay 38 = .ok (.iload_n 2, 1) := by decide +kernel
theorem dX5_deliverByRelay_39 : decode cX5_deliverByRelay 39 = .ok (.invokevirtual 63, 3) := by decide +kernel
theorem dX5_deliverByRelay_42 : decode cX5_deliverByRelay 42 = .ok (.ifCond .eq 25, 3) := by decide +kernel
theorem dX5_deliverByRelay_45 : decode cX5_deliverByRelay 45 = .ok (.aload_n 0, 1) := by decide +kernel
theorem dX5_deliverByRelay_46 : decode cX5_deliverByRelay 46 = .ok (.iload_n 2, 1) := by decide +kernel
theorem dX5_deliverByRelay_47 : decode cX5_deliverByRelay 47 = .ok (.aload_n 0, 1) := by decide +kernel
theorem dX5_deliverByRelay_48 : decode cX5_deliverByRelay 48 = .ok (.aload_n 0, 1) := by decide +kernel
theorem dX5_deliverByRelay_49 : decode cX5_deliverByRelay 49 = .ok (.iload_n 2, 1) := by decide +kernel
theorem dX5_deliverByRelay_50 : decode cX5_deliverByRelay 50 = .ok (.iload_n 1, 1) := by decide +kernel
theorem dX5_deliverByRelay_51 : decode cX5_deliverByRelay 51 = .ok (.invokevirtual 88, 3) := by decide +kernel
theorem dX5_deliverByRelay_54 : decode cX5_deliverByRelay 54 = .ok (.invokevirtual 94, 3) := by decide +kernel
theorem dX5_deliverByRelay_57 : decode cX5_deliverByRelay 57 = .ok (.invokevirtual 75, 3) := by decide +kernel
theorem dX5_deliverByRelay_60 : decode cX5_deliverByRelay 60 = .ok (.ifCond .eq 7, 3) := by decide +kernel
theorem dX5_deliverByRelay_63 : decode cX5_deliverByRelay 63 = .ok (.iconst 1, 1) := by decide +kernel
theorem dX5_deliverByRelay_64 : decode cX5_deliverByRelay 64 = .ok (.goto 4, 3) := by decide +kernel
theorem dX5_deliverByRelay_67 : decode cX5_deliverByRelay 67 = .ok (.iconst 0, 1) := by decide +kernel
theorem dX5_deliverByRelay_68 : decode cX5_deliverByRelay 68 = .ok (.istore_n 3, 1) := by decide +kernel
theorem dX5_deliverByRelay_69 : decode cX5_deliverByRelay 69 = .ok (.iload_n 3, 1) := by decide +kernel
theorem dX5_deliverByRelay_70 : decode cX5_deliverByRelay 70 = .ok (.ifCond .eq 26, 3) := by decide +kernel
theorem dX5_deliverByRelay_73 : decode cX5_deliverByRelay 73 = .ok (.aload_n 0, 1) := by decide +kernel
theorem dX5_deliverByRelay_74 : decode cX5_deliverByRelay 74 = .ok (.iload_n 1, 1) := by decide +kernel
theorem dX5_deliverByRelay_75 : decode cX5_deliverByRelay 75 = .ok (.invokevirtual 97, 3) := by decide +kernel
theorem dX5_deliverByRelay_78 : decode cX5_deliverByRelay 78 = .ok (.ifCond .eq 18, 3) := by decide +kernel
theorem dX5_deliverByRelay_81 : decode cX5_deliverByRelay 81 = .ok (.aload_n 0, 1) := by decide +kernel
theorem dX5_deliverByRelay_82 : decode cX5_deliverByRelay 82 = .ok (.getfield 29, 3) := by decide +kernel
theorem dX5_deliverByRelay_85 : decode cX5_deliverByRelay 85 = .ok (.iload_n 1, 1) := by decide +kernel
theorem dX5_deliverByRelay_86 : decode cX5_deliverByRelay 86 = .ok (.dup2, 1) := by decide +kernel
theorem dX5_deliverByRelay_87 : decode cX5_deliverByRelay 87 = .ok (.iaload, 1) := by decide +kernel
theorem dX5_deliverByRelay_88 : decode cX5_deliverByRelay 88 = .ok (.aload_n 0, 1) := by decide +kernel
theorem dX5_deliverByRelay_89 : decode cX5_deliverByRelay 89 = .ok (.getfield 29, 3) := by decide +kernel
theorem dX5_deliverByRelay_92 : decode cX5_deliverByRelay 92 = .ok (.iload_n 2, 1) := by decide +kernel
theorem dX5_deliverByRelay_93 : decode cX5_deliverByRelay 93 = .ok (.iaload, 1) := by decide +kernel
theorem dX5_deliverByRelay_94 : decode cX5_deliverByRelay 94 = .ok (.iadd, 1) := by decide +kernel
theorem dX5_deliverByRelay_95 : decode cX5_deliverByRelay 95 = .ok (.iastore, 1) := by decide +kernel
theorem dX5_deliverByRelay_96 : decode cX5_deliverByRelay 96 = .ok (.iinc 2 1, 3) := by decide +kernel
theorem dX5_deliverByRelay_99 : decode cX5_deliverByRelay 99 = .ok (.goto (-85), 3) := by decide +kernel
theorem dX5_deliverByRelay_102 : decode cX5_deliverByRelay 102 = .ok (.aload_n 0, 1) := by decide +kernel
theorem dX5_deliverByRelay_103 : decode cX5_deliverByRelay 103 = .ok (.iload_n 1, 1) := by decide +kernel
theorem dX5_deliverByRelay_104 : decode cX5_deliverByRelay 104 = .ok (.invokevirtual 106, 3) := by decide +kernel
theorem dX5_deliverByRelay_107 : decode cX5_deliverByRelay 107 = .ok (.return_, 1) := by decide +kernel
set_option maxRecDepth 20000 in
theorem ggX5_deliverAlone_X5_deliver : GoodIn wsX5_deliverAlone wsX5_deliver := goodIn_r _ [7, 1, 2, 8, 9, 10, 6, 11, 12, 13, 14, 15, 16, 17, 18, 19, 20, 21, 22, 23, 24, 25, 26, 27, 28, 29, 30, 31, 32, 33, 34, 35, 36, 37, 38, 39, 40, 41, 42, 43, 44, 45, 46, 47, 48] (by decide +kernel) (by decide +kernel)
set_option maxRecDepth 20000 in
theorem gX5_deliverAlone_X5_deliver : GoodIn wsX5_deliverAlone (wsV RX5 106 RX5 yX5_deliver wsX5_deliver) := goodIn_app (goodIn_of _ (by decide +kernel)) ggX5_deliverAlone_X5_deliver
theorem dX5_deliverAlone_0 : decode cX5_deliverAlone 0 = .ok (.iconst 0, 1) := by decide +kernel
theorem dX5_deliverAlone_1 : decode cX5_deliverAlone 1 = .ok (.istore_n 1, 1) := by decide +kernel
theorem dX5_deliverAlone_2 : decode cX5_deliverAlone 2 = .ok (.iload_n 1, 1) := by decide +kernel
theorem dX5_deliverAlone_3 : decode cX5_deliverAlone 3 = .ok (.aload_n 0, 1) := by decide +kernel
theorem dX5_deliverAlone_4 : decode cX5_deliverAlone 4 = .ok (.getfield 7, 3) := by decide +kernel
theorem dX5_deliverAlone_7 : decode cX5_deliverAlone 7 = .ok (.iconst 0, 1) := by decide +kernel
theorem dX5_deliverAlone_8 : decode cX5_deliverAlone 8 = .ok (.iaload, 1) := by decide +kernel
theorem dX5_deliverAlone_9 : decode cX5_deliverAlone 9 = .ok (.if_icmp .ge 21, 3) := by decide +kernel
theorem dX5_deliverAlone_12 : decode cX5_deliverAlone 12 = .ok (.aload_n 0, 1) := by decide +kernel
theorem dX5_deliverAlone_13 : decode cX5_deliverAlone 13 = .ok (.getfield 29, 3) := by decide +kernel
theorem dX5_deliverAlone_16 : decode cX5_deliverAlone 16 = .ok (.iload_n 1, 1) := by decide +kernel
theorem dX5_deliverAlone_17 : decode cX5_deliverAlone 17 = .ok (.iconst 1, 1) := by decide +kernel
theorem dX5_deliverAlone_18 : decode cX5_deliverAlone 18 = .ok (.iastore, 1) := by decide +kernel
theorem dX5_deliverAlone_19 : decode cX5_deliverAlone 19 = .ok (.aload_n 0, 1) := by decide +kernel
theorem dX5_deliverAlone_20 : decode cX5_deliverAlone 20 = .ok (.iload_n 1, 1) := by decide +kernel
theorem dX5_deliverAlone_21 : decode cX5_deliverAlone 21 = .ok (.invokevirtual 106, 3) := by decide +kernel
theorem dX5_deliverAlone_24 : decode cX5_deliverAlone 24 = .ok (.iinc 1 1, 3) := by decide +kernel
theorem dX5_deliverAlone_27 : decode cX5_deliverAlone 27 = .ok (.goto (-25), 3) := by decide +kernel
theorem dX5_deliverAlone_30 : decode cX5_deliverAlone 30 = .ok (.return_, 1) := by decide +kernel
set_option maxRecDepth 20000 in
theorem ggX5_deliverAll_X5_isHead : GoodIn wsX5_deliverAll wsX5_isHead := goodIn_r _ [6, 7, 8, 9, 5, 10, 1, 44, 45, 46, 47, 48, 49, 50, 51, 52] (by decide +kernel) (by decide +kernel)
set_option maxRecDepth 20000 in
theorem gX5_deliverAll_X5_isHead : GoodIn wsX5_deliverAll (wsV RX5 85 RX5 yX5_isHead wsX5_isHead) := goodIn_app (goodIn_of _ (by decide +kernel)) ggX5_deliverAll_X5_isHead
set_option maxRecDepth 20000 in
theorem ggX5_deliverAll_X5_deliver : GoodIn wsX5_deliverAll wsX5_deliver := goodIn_r _ [14, 1, 15, 16, 17, 18, 5, 19, 7, 8, 9, 10, 20, 21, 22, 23, 24, 25, 26, 27, 28, 29, 30, 31, 32, 33, 34, 35, 36, 37, 38, 39, 40, 41, 42, 43, 44, 45, 46, 47, 48, 49, 50, 51, 52] (by decide +kernel) (by decide +kernel)
set_option maxRecDepth 20000 in
theorem gX5_deliverAll_X5_deliver : GoodIn wsX5_deliverAll (wsV RX5 106 RX5 yX5_deliver wsX5_deliver) := goodIn_app (goodIn_of _ (by decide +kernel)) ggX5_deliverAll_X5_deliver
theorem dX5_deliverAll_0 : decode cX5_deliverAll 0 = .ok (.iconst 0, 1) := by decide +kernel
theorem dX5_deliverAll_1 : decode cX5_deliverAll 1 = .ok (.istore_n 1, 1) := by decide +kernel
theorem dX5_deliverAll_2 : decode cX5_deliverAll 2 = .ok (.iload_n 1, 1) := by decide +kernel
theorem dX5_deliverAll_3 : decode cX5_deliverAll 3 = .ok (.aload_n 0, 1) := by decide +kernel
theorem dX5_deliverAll_4 : decode cX5_deliverAll 4 = .ok (.getfield 7, 3) := by decide +kernel
theorem dX5_deliverAll_7 : decode cX5_deliverAll 7 = .ok (.iconst 0, 1) := by decide +kernel
theorem dX5_deliverAll_8 : decode cX5_deliverAll 8 = .ok (.iaload, 1) := by decide +kernel
theorem dX5_deliverAll_9 : decode cX5_deliverAll 9 = .ok (.if_icmp .ge 22, 3) := by decide +kernel
theorem dX5_deliverAll_12 : decode cX5_deliverAll 12 = .ok (.aload_n 0, 1) := by decide +kernel
theorem dX5_deliverAll_13 : decode cX5_deliverAll 13 = .ok (.iload_n 1, 1) := by decide +kernel
theorem dX5_deliverAll_14 : decode cX5_deliverAll 14 = .ok (.invokevirtual 85, 3) := by decide +kernel
theorem dX5_deliverAll_17 : decode cX5_deliverAll 17 = .ok (.ifCond .eq 8, 3) := by decide +kernel
theorem dX5_deliverAll_20 : decode cX5_deliverAll 20 = .ok (.aload_n 0, 1) := by decide +kernel
theorem dX5_deliverAll_21 : decode cX5_deliverAll 21 = .ok (.iload_n 1, 1) := by decide +kernel
theorem dX5_deliverAll_22 : decode cX5_deliverAll 22 = .ok (.invokevirtual 106, 3) := by decide +kernel
theorem dX5_deliverAll_25 : decode cX5_deliverAll 25 = .ok (.iinc 1 1, 3) := by decide +kernel
theorem dX5_deliverAll_28 : decode cX5_deliverAll 28 = .ok (.goto (-26), 3) := by decide +kernel
theorem dX5_deliverAll_31 : decode cX5_deliverAll 31 = .ok (.return_, 1) := by decide +kernel
set_option maxRecDepth 20000 in
theorem ggX5_perform_X5_elect : GoodIn wsX5_perform wsX5_elect := goodIn_r _ [6, 1, 7, 8, 9, 10, 11, 5, 12, 13, 14, 15, 16, 17, 18, 19, 20, 21, 22, 23, 24, 25, 26, 27, 28, 29, 30, 31, 96, 97, 98, 99, 100, 101, 102, 103, 104] (by decide +kernel) (by decide +kernel)
set_option maxRecDepth 20000 in
theorem gX5_perform_X5_elect : GoodIn wsX5_perform (wsV RX5 110 RX5 yX5_elect wsX5_elect) := goodIn_app (goodIn_of _ (by decide +kernel)) ggX5_perform_X5_elect
set_option maxRecDepth 20000 in
theorem ggX5_perform_X5_announce : GoodIn wsX5_perform wsX5_announce := goodIn_r _ [35, 1, 8, 9, 10, 11, 5, 12, 36, 37, 38, 39, 13, 14, 15, 16, 17, 18, 19, 20, 96, 97, 98, 99, 100, 101, 102, 103, 104] (by decide +kernel) (by decide +kernel)
set_option maxRecDepth 20000 in
theorem gX5_perform_X5_announce : GoodIn wsX5_perform (wsV RX5 113 RX5 yX5_announce wsX5_announce) := goodIn_app (goodIn_of _ (by decide +kernel)) ggX5_perform_X5_announce
set_option maxRecDepth 20000 in
theorem ggX5_perform_X5_join : GoodIn wsX5_perform wsX5_join := goodIn_r _ [43, 1, 21, 22, 23, 5, 24, 13, 14, 15, 16, 44, 45, 46, 47, 48, 49, 50, 51, 52, 53, 54, 55, 56, 57, 58, 59, 17, 18, 19, 20, 96, 97, 98, 99, 100, 101, 102, 103, 104] (by decide +kernel) (by decide +kernel)
set_option maxRecDepth 20000 in
theorem gX5_perform_X5_join : GoodIn wsX5_perform (wsV RX5 116 RX5 yX5_join wsX5_join) := goodIn_app (goodIn_of _ (by decide +kernel)) ggX5_perform_X5_join
set_option maxRecDepth 20000 in
theorem ggX5_perform_X5_deliverAlone : GoodIn wsX5_perform wsX5_deliverAlone := goodIn_r _ [63, 1, 7, 64, 65, 66, 5, 67, 21, 22, 23, 24, 13, 14, 15, 16, 68, 69, 70, 71, 56, 57, 58, 59, 72, 73, 74, 75, 9, 10, 11, 12, 36, 37, 38, 39, 17, 18, 19, 20, 96, 97, 98, 99, 100, 101, 102, 103, 104] (by decide +kernel) (by decide +kernel)
set_option maxRecDepth 20000 in
theorem gX5_perform_X5_deliverAlone : GoodIn wsX5_perform (wsV RX5 119 RX5 yX5_deliverAlone wsX5_deliverAlone) := goodIn_app (goodIn_of _ (by decide +kernel)) ggX5_perform_X5_deliverAlone
set_option maxRecDepth 20000 in
theorem ggX5_perform_X5_report : GoodIn wsX5_perform wsX5_report := goodIn_r _ [79, 1, 7, 44, 45, 46, 5, 47, 13, 14, 15, 16, 21, 22, 23, 24, 52, 53, 54, 55, 56, 57, 58, 59, 72, 73, 74, 75, 9, 10, 11, 12, 36, 37, 38, 39, 17, 18, 19, 20, 80, 81, 82, 83, 96, 97, 98, 99, 100, 101, 102, 103, 104] (by decide +kernel) (by decide +kernel)
set_option maxRecDepth 20000 in
theorem gX5_perform_X5_report : GoodIn wsX5_perform (wsV RX5 122 RX5 yX5_report wsX5_report) := goodIn_app (goodIn_of _ (by decide +kernel)) ggX5_perform_X5_report
set_option maxRecDepth 20000 in
theorem ggX5_perform_X5_setting : GoodIn wsX5_perform wsX5_setting := goodIn_r _ [12, 1, 96, 97, 98, 99, 100, 101, 102, 103, 104] (by decide +kernel) (by decide +kernel)
set_option maxRecDepth 20000 in
theorem gX5_perform_X5_setting : GoodIn wsX5_perform (wsV RX5 71 RX5 yX5_setting wsX5_setting) := goodIn_app (goodIn_of _ (by decide +kernel)) ggX5_perform_X5_setting
set_option maxRecDepth 20000 in
theorem ggX5_perform_X5_deliverByRelay : GoodIn wsX5_perform wsX5_deliverByRelay := goodIn_r _ [87, 1, 7, 88, 89, 90, 5, 91, 44, 45, 46, 47, 13, 14, 15, 16, 21, 22, 23, 24, 68, 69, 70, 71, 56, 57, 58, 59, 52, 53, 54, 55, 72, 73, 74, 75, 9, 10, 11, 12, 36, 37, 38, 39, 17, 18, 19, 20, 80, 81, 82, 83, 64, 65, 66, 67, 96, 97, 98, 99, 100, 101, 102, 103, 104] (by decide +kernel) (by decide +kernel)
set_option maxRecDepth 20000 in
theorem gX5_perform_X5_deliverByRelay : GoodIn wsX5_perform (wsV RX5 125 RX5 yX5_deliverByRelay wsX5_deliverByRelay) := goodIn_app (goodIn_of _ (by decide +kernel)) ggX5_perform_X5_deliverByRelay
set_option maxRecDepth 20000 in
theorem ggX5_perform_X5_deliverAll : GoodIn wsX5_perform wsX5_deliverAll := goodIn_r _ [95, 1, 44, 45, 46, 5, 47, 13, 14, 15, 16, 64, 65, 66, 67, 7, 21, 22, 23, 24, 68, 69, 70, 71, 56, 57, 58, 59, 72, 73, 74, 75, 9, 10, 11, 12, 36, 37, 38, 39, 17, 18, 19, 20, 96, 97, 98, 99, 100, 101, 102, 103, 104] (by decide +kernel) (by decide +kernel)
set_option maxRecDepth 20000 in
theorem gX5_perform_X5_deliverAll : GoodIn wsX5_perform (wsV RX5 128 RX5 yX5_deliverAll wsX5_deliverAll) := goodIn_app (goodIn_of _ (by decide +kernel)) ggX5_perform_X5_deliverAll
theorem dX5_perform_0 : decode cX5_perform 0 = .ok (.aload_n 0, 1) := by decide +kernel
theorem dX5_perform_1 : decode cX5_perform 1 = .ok (.invokevirtual 110, 3) := by decide +kernel
theorem dX5_perform_4 : decode cX5_perform 4 = .ok (.aload_n 0, 1) := by decide +kernel
theorem dX5_perform_5 : decode cX5_perform 5 = .ok (.invokevirtual 113, 3) := by decide +kernel
theorem dX5_perform_8 : decode cX5_perform 8 = .ok (.aload_n 0, 1) := by decide +kernel
theorem dX5_perform_9 : decode cX5_perform 9 = .ok (.invokevirtual 116, 3) := by decide +kernel
theorem dX5_perform_12 : decode cX5_perform 12 = .ok (.aload_n 0, 1) := by decide +kernel
theorem dX5_perform_13 : decode cX5_perform 13 = .ok (.getfield 7, 3) := by decide +kernel
theorem dX5_perform_16 : decode cX5_perform 16 = .ok (.bipush 12, 2) := by decide +kernel
theorem dX5_perform_18 : decode cX5_perform 18 = .ok (.iconst 0, 1) := by decide +kernel
theorem dX5_perform_19 : decode cX5_perform 19 = .ok (.iastore, 1) := by decide +kernel
theorem dX5_perform_20 : decode cX5_perform 20 = .ok (.aload_n 0, 1) := by decide +kernel
theorem dX5_perform_21 : decode cX5_perform 21 = .ok (.getfield 7, 3) := by decide +kernel
theorem dX5_perform_24 : decode cX5_perform 24 = .ok (.bipush 11, 2) := by decide +kernel
theorem dX5_perform_26 : decode cX5_perform 26 = .ok (.iaload, 1) := by decide +kernel
theorem dX5_perform_27 : decode cX5_perform 27 = .ok (.ifCond .ne 10, 3) := by decide +kernel
theorem dX5_perform_30 : decode cX5_perform 30 = .ok (.aload_n 0, 1) := by decide +kernel
theorem dX5_perform_31 : decode cX5_perform 31 = .ok (.invokevirtual 119, 3) := by decide +kernel
theorem dX5_perform_34 : decode cX5_perform 34 = .ok (.goto 27, 3) := by decide +kernel
theorem dX5_perform_37 : decode cX5_perform 37 = .ok (.aload_n 0, 1) := by decide +kernel
theorem dX5_perform_38 : decode cX5_perform 38 = .ok (.invokevirtual 122, 3) := by decide +kernel
theorem dX5_perform_41 : decode cX5_perform 41 = .ok (.aload_n 0, 1) := by decide +kernel
theorem dX5_perform_42 : decode cX5_perform 42 = .ok (.iconst 5, 1) := by decide +kernel
theorem dX5_perform_43 : decode cX5_perform 43 = .ok (.invokevirtual 71, 3) := by decide +kernel
theorem dX5_perform_46 : decode cX5_perform 46 = .ok (.iconst 1, 1) := by decide +kernel
theorem dX5_perform_47 : decode cX5_perform 47 = .ok (.if_icmp .ne 10, 3) := by decide +kernel
theorem dX5_perform_50 : decode cX5_perform 50 = .ok (.aload_n 0, 1) := by decide +kernel
theorem dX5_perform_51 : decode cX5_perform 51 = .ok (.invokevirtual 125, 3) := by decide +kernel
theorem dX5_perform_54 : decode cX5_perform 54 = .ok (.goto 7, 3) := by decide +kernel
theorem dX5_perform_57 : decode cX5_perform 57 = .ok (.aload_n 0, 1) := by decide +kernel
theorem dX5_perform_58 : decode cX5_perform 58 = .ok (.invokevirtual 128, 3) := by decide +kernel
theorem dX5_perform_61 : decode cX5_perform 61 = .ok (.aload_n 0, 1) := by decide +kernel
theorem dX5_perform_62 : decode cX5_perform 62 = .ok (.getfield 7, 3) := by decide +kernel
theorem dX5_perform_65 : decode cX5_perform 65 = .ok (.bipush 13, 2) := by decide +kernel
theorem dX5_perform_67 : decode cX5_perform 67 = .ok (.dup2, 1) := by decide +kernel
theorem dX5_perform_68 : decode cX5_perform 68 = .ok (.iaload, 1) := by decide +kernel
theorem dX5_perform_69 : decode cX5_perform 69 = .ok (.aload_n 0, 1) := by decide +kernel
theorem dX5_perform_70 : decode cX5_perform 70 = .ok (.getfield 7, 3) := by decide +kernel
theorem dX5_perform_73 : decode cX5_perform 73 = .ok (.bipush 12, 2) := by decide +kernel
theorem dX5_perform_75 : decode cX5_perform 75 = .ok (.iaload, 1) := by decide +kernel
theorem dX5_perform_76 : decode cX5_perform 76 = .ok (.iadd, 1) := by decide +kernel
theorem dX5_perform_77 : decode cX5_perform 77 = .ok (.iastore, 1) := by decide +kernel
theorem dX5_perform_78 : decode cX5_perform 78 = .ok (.aload_n 0, 1) := by decide +kernel
theorem dX5_perform_79 : decode cX5_perform 79 = .ok (.getfield 7, 3) := by decide +kernel
theorem dX5_perform_82 : decode cX5_perform 82 = .ok (.bipush 10, 2) := by decide +kernel
theorem dX5_perform_84 : decode cX5_perform 84 = .ok (.dup2, 1) := by decide +kernel
theorem dX5_perform_85 : decode cX5_perform 85 = .ok (.iaload, 1) := by decide +kernel
theorem dX5_perform_86 : decode cX5_perform 86 = .ok (.iconst 1, 1) := by decide +kernel
theorem dX5_perform_87 : decode cX5_perform 87 = .ok (.iadd, 1) := by decide +kernel
theorem dX5_perform_88 : decode cX5_perform 88 = .ok (.iastore, 1) := by decide +kernel
theorem dX5_perform_89 : decode cX5_perform 89 = .ok (.return_, 1) := by decide +kernel
set_option maxRecDepth 20000 in
theorem ggX5_alive_X5_of : GoodIn wsX5_alive wsX5_of := goodIn_r _ [6, 1, 7, 8, 9, 10, 11, 12, 13, 14, 15] (by decide +kernel) (by decide +kernel)
set_option maxRecDepth 20000 in
theorem gX5_alive_X5_of : GoodIn wsX5_alive (wsV RX5 43 RX5 yX5_of wsX5_of) := goodIn_app (goodIn_of _ (by decide +kernel)) ggX5_alive_X5_of
theorem dX5_alive_0 : decode cX5_alive 0 = .ok (.iconst 0, 1) := by decide +kernel
theorem dX5_alive_1 : decode cX5_alive 1 = .ok (.istore_n 1, 1) := by decide +kernel
theorem dX5_alive_2 : decode cX5_alive 2 = .ok (.iconst 0, 1) := by decide +kernel
theorem dX5_alive_3 : decode cX5_alive 3 = .ok (.istore_n 2, 1) := by decide +kernel
theorem dX5_alive_4 : decode cX5_alive 4 = .ok (.iload_n 2, 1) := by decide +kernel
theorem dX5_alive_5 : decode cX5_alive 5 = .ok (.aload_n 0, 1) := by decide +kernel
theorem dX5_alive_6 : decode cX5_alive 6 = .ok (.getfield 7, 3) := by decide +kernel
theorem dX5_alive_9 : decode cX5_alive 9 = .ok (.iconst 0, 1) := by decide +kernel
theorem dX5_alive_10 : decode cX5_alive 10 = .ok (.iaload, 1) := by decide +kernel
theorem dX5_alive_11 : decode cX5_alive 11 = .ok (.if_icmp .ge 18, 3) := by decide +kernel
theorem dX5_alive_14 : decode cX5_alive 14 = .ok (.iload_n 1, 1) := by decide +kernel
theorem dX5_alive_15 : decode cX5_alive 15 = .ok (.aload_n 0, 1) := by decide +kernel
theorem dX5_alive_16 : decode cX5_alive 16 = .ok (.iload_n 2, 1) := by decide +kernel
theorem dX5_alive_17 : decode cX5_alive 17 = .ok (.iconst 3, 1) := by decide +kernel
theorem dX5_alive_18 : decode cX5_alive 18 = .ok (.invokevirtual 43, 3) := by decide +kernel
theorem dX5_alive_21 : decode cX5_alive 21 = .ok (.iadd, 1) := by decide +kernel
theorem dX5_alive_22 : decode cX5_alive 22 = .ok (.istore_n 1, 1) := by decide +kernel
theorem dX5_alive_23 : decode cX5_alive 23 = .ok (.iinc 2 1, 3) := by decide +kernel
theorem dX5_alive_26 : decode cX5_alive 26 = .ok (.goto (-22), 3) := by decide +kernel
theorem dX5_alive_29 : decode cX5_alive 29 = .ok (.iload_n 1, 1) := by decide +kernel
theorem dX5_alive_30 : decode cX5_alive 30 = .ok (.ireturn, 1) := by decide +kernel
set_option maxRecDepth 20000 in
theorem ggX5_performMany_X5_alive : GoodIn wsX5_performMany wsX5_alive := goodIn_r _ [5, 6, 7, 8, 9, 4, 10, 104, 105, 106, 107, 108, 109, 110, 111, 112] (by decide +kernel) (by decide +kernel)
set_option maxRecDepth 20000 in
theorem gX5_performMany_X5_alive : GoodIn wsX5_performMany (wsV RX5 131 RX5 yX5_alive wsX5_alive) := goodIn_app (goodIn_of _ (by decide +kernel)) ggX5_performMany_X5_alive
set_option maxRecDepth 20000 in
theorem ggX5_performMany_X5_perform : GoodIn wsX5_performMany wsX5_perform := goodIn_r _ [14, 6, 15, 16, 17, 4, 18, 19, 20, 21, 22, 23, 24, 7, 8, 9, 10, 25, 26, 27, 28, 29, 30, 31, 32, 33, 34, 35, 36, 37, 38, 39, 40, 41, 42, 43, 44, 45, 46, 47, 48, 49, 50, 51, 52, 53, 54, 55, 56, 57, 58, 59, 60, 61, 62, 63, 64, 65, 66, 67, 68, 69, 70, 71, 72, 73, 74, 75, 76, 77, 78, 79, 80, 81, 82, 83, 84, 85, 86, 87, 88, 89, 90, 91, 92, 93, 94, 95, 96, 97, 98, 99, 100, 101, 102, 103, 104, 105, 106, 107, 108, 109, 110, 111, 112] (by decide +kernel) (by decide +kernel)
set_option maxRecDepth 20000 in
theorem gX5_performMany_X5_perform : GoodIn wsX5_performMany (wsV RX5 134 RX5 yX5_perform wsX5_perform) := goodIn_app (goodIn_of _ (by decide +kernel)) ggX5_performMany_X5_perform
theorem dX5_performMany_0 : decode cX5_performMany 0 = .ok (.iconst 0, 1) := by decide +kernel
theorem dX5_performMany_1 : decode cX5_performMany 1 = .ok (.istore_n 2, 1) := by decide +kernel
theorem dX5_performMany_2 : decode cX5_performMany 2 = .ok (.iload_n 2, 1) := by decide +kernel
theorem dX5_performMany_3 : decode cX5_performMany 3 = .ok (.iload_n 1, 1) := by decide +kernel
theorem dX5_performMany_4 : decode cX5_performMany 4 = .ok (.if_icmp .ge 20, 3) := by decide +kernel
theorem dX5_performMany_7 : decode cX5_performMany 7 = .ok (.aload_n 0, 1) := by decide +kernel
theorem dX5_performMany_8 : decode cX5_performMany 8 = .ok (.invokevirtual 131, 3) := by decide +kernel
theorem dX5_performMany_11 : decode cX5_performMany 11 = .ok (.ifCond .le 13, 3) := by decide +kernel
theorem dX5_performMany_14 : decode cX5_performMany 14 = .ok (.aload_n 0, 1) := by decide +kernel
theorem dX5_performMany_15 : decode cX5_performMany 15 = .ok (.invokevirtual 134, 3) := by decide +kernel
theorem dX5_performMany_18 : decode cX5_performMany 18 = .ok (.iinc 2 1, 3) := by decide +kernel
theorem dX5_performMany_21 : decode cX5_performMany 21 = .ok (.goto (-19), 3) := by decide +kernel
theorem dX5_performMany_24 : decode cX5_performMany 24 = .ok (.iload_n 2, 1) := by decide +kernel
theorem dX5_performMany_25 : decode cX5_performMany 25 = .ok (.ireturn, 1) := by decide +kernel
set_option maxRecDepth 20000 in
theorem ggX5_run_X5_in : GoodIn wsX5_run wsX5_in := goodIn_r _ [5] (by decide +kernel) (by decide +kernel)
set_option maxRecDepth 20000 in
theorem gX5_run_X5_in : GoodIn wsX5_run (va_wsS RX5 39 yX5_in wsX5_in) := goodIn_app (goodIn_of _ (by decide +kernel)) ggX5_run_X5_in
set_option maxRecDepth 20000 in
theorem ggX5_run_X5_alive : GoodIn wsX5_run wsX5_alive := goodIn_r _ [9, 10, 11, 12, 13, 4, 14, 118, 119, 120, 121, 122, 123, 124, 125, 126] (by decide +kernel) (by decide +kernel)
set_option maxRecDepth 20000 in
theorem gX5_run_X5_alive : GoodIn wsX5_run (wsV RX5 131 RX5 yX5_alive wsX5_alive) := goodIn_app (goodIn_of _ (by decide +kernel)) ggX5_run_X5_alive
set_option maxRecDepth 20000 in
theorem ggX5_run_X5_keep : GoodIn wsX5_run wsX5_keep := goodIn_r _ [18, 19, 20, 10, 118, 119, 120, 121, 122, 123, 124, 125, 126] (by decide +kernel) (by decide +kernel)
set_option maxRecDepth 20000 in
theorem gX5_run_X5_keep : GoodIn wsX5_run (wsV RX5 48 RX5 yX5_keep wsX5_keep) := goodIn_app (goodIn_of _ (by decide +kernel)) ggX5_run_X5_keep
set_option maxRecDepth 20000 in
theorem ggX5_run_X5_performMany : GoodIn wsX5_run wsX5_performMany := goodIn_r _ [24, 6, 7, 8, 4, 9, 10, 11, 12, 13, 14, 25, 26, 27, 28, 29, 30, 31, 32, 33, 34, 35, 36, 37, 38, 39, 40, 41, 42, 43, 44, 45, 46, 47, 48, 49, 50, 51, 52, 53, 54, 55, 56, 57, 58, 59, 60, 61, 62, 63, 64, 65, 66, 67, 68, 69, 70, 71, 72, 73, 74, 75, 76, 77, 78, 79, 80, 81, 82, 83, 84, 85, 86, 87, 88, 89, 90, 91, 92, 93, 94, 95, 96, 97, 98, 99, 100, 101, 102, 103, 104, 105, 106, 107, 108, 109, 110, 111, 112, 113, 114, 115, 116, 117, 118, 119, 120, 121, 122, 123, 124, 125, 126] (by decide +kernel) (by decide +kernel)
set_option maxRecDepth 20000 in
theorem gX5_run_X5_performMany : GoodIn wsX5_run (wsV RX5 137 RX5 yX5_performMany wsX5_performMany) := goodIn_app (goodIn_of _ (by decide +kernel)) ggX5_run_X5_performMany
theorem dX5_run_0 : decode cX5_run 0 = .ok (.aload_n 0, 1) := by decide +kernel
theorem dX5_run_1 : decode cX5_run 1 = .ok (.iconst 0, 1) := by decide +kernel
theorem dX5_run_2 : decode cX5_run 2 = .ok (.putfield 32, 3) := by decide +kernel
theorem dX5_run_5 : decode cX5_run 5 = .ok (.iload_n 1, 1) := by decide +kernel
theorem dX5_run_6 : decode cX5_run 6 = .ok (.iconst 1, 1) := by decide +kernel
theorem dX5_run_7 : decode cX5_run 7 = .ok (.bipush 50, 2) := by decide +kernel
theorem dX5_run_9 : decode cX5_run 9 = .ok (.invokestatic 39, 3) := by decide +kernel
theorem dX5_run_12 : decode cX5_run 12 = .ok (.ifCond .ne 5, 3) := by decide +kernel
theorem dX5_run_15 : decode cX5_run 15 = .ok (.iconst (-1), 1) := by decide +kernel
theorem dX5_run_16 : decode cX5_run 16 = .ok (.ireturn, 1) := by decide +kernel
theorem dX5_run_17 : decode cX5_run 17 = .ok (.aload_n 0, 1) := by decide +kernel
theorem dX5_run_18 : decode cX5_run 18 = .ok (.invokevirtual 131, 3) := by decide +kernel
theorem dX5_run_21 : decode cX5_run 21 = .ok (.ifCond .ne 6, 3) := by decide +kernel
theorem dX5_run_24 : decode cX5_run 24 = .ok (.bipush (-2), 2) := by decide +kernel
theorem dX5_run_26 : decode cX5_run 26 = .ok (.ireturn, 1) := by decide +kernel
theorem dX5_run_27 : decode cX5_run 27 = .ok (.aload_n 0, 1) := by decide +kernel
theorem dX5_run_28 : decode cX5_run 28 = .ok (.invokevirtual 48, 3) := by decide +kernel
theorem dX5_run_31 : decode cX5_run 31 = .ok (.aload_n 0, 1) := by decide +kernel
theorem dX5_run_32 : decode cX5_run 32 = .ok (.iload_n 1, 1) := by decide +kernel
theorem dX5_run_33 : decode cX5_run 33 = .ok (.invokevirtual 137, 3) := by decide +kernel
theorem dX5_run_36 : decode cX5_run 36 = .ok (.ireturn, 1) := by decide +kernel
theorem dX5_roundNumber_0 : decode cX5_roundNumber 0 = .ok (.aload_n 0, 1) := by decide +kernel
theorem dX5_roundNumber_1 : decode cX5_roundNumber 1 = .ok (.iconst 0, 1) := by decide +kernel
theorem dX5_roundNumber_2 : decode cX5_roundNumber 2 = .ok (.putfield 32, 3) := by decide +kernel
theorem dX5_roundNumber_5 : decode cX5_roundNumber 5 = .ok (.aload_n 0, 1) := by decide +kernel
theorem dX5_roundNumber_6 : decode cX5_roundNumber 6 = .ok (.getfield 7, 3) := by decide +kernel
theorem dX5_roundNumber_9 : decode cX5_roundNumber 9 = .ok (.bipush 10, 2) := by decide +kernel
theorem dX5_roundNumber_11 : decode cX5_roundNumber 11 = .ok (.iaload, 1) := by decide +kernel
theorem dX5_roundNumber_12 : decode cX5_roundNumber 12 = .ok (.ireturn, 1) := by decide +kernel
theorem dX5_sensorCount_0 : decode cX5_sensorCount 0 = .ok (.aload_n 0, 1) := by decide +kernel
theorem dX5_sensorCount_1 : decode cX5_sensorCount 1 = .ok (.iconst 0, 1) := by decide +kernel
theorem dX5_sensorCount_2 : decode cX5_sensorCount 2 = .ok (.putfield 32, 3) := by decide +kernel
theorem dX5_sensorCount_5 : decode cX5_sensorCount 5 = .ok (.aload_n 0, 1) := by decide +kernel
theorem dX5_sensorCount_6 : decode cX5_sensorCount 6 = .ok (.getfield 7, 3) := by decide +kernel
theorem dX5_sensorCount_9 : decode cX5_sensorCount 9 = .ok (.iconst 0, 1) := by decide +kernel
theorem dX5_sensorCount_10 : decode cX5_sensorCount 10 = .ok (.iaload, 1) := by decide +kernel
theorem dX5_sensorCount_11 : decode cX5_sensorCount 11 = .ok (.ireturn, 1) := by decide +kernel
set_option maxRecDepth 20000 in
theorem ggX5_aliveCount_X5_alive : GoodIn wsX5_aliveCount wsX5_alive := goodIn_r _ [6, 7, 8, 9, 10, 5, 11, 12, 13, 14, 15, 16, 17, 18, 19, 20] (by decide +kernel) (by decide +kernel)
set_option maxRecDepth 20000 in
theorem gX5_aliveCount_X5_alive : GoodIn wsX5_aliveCount (wsV RX5 131 RX5 yX5_alive wsX5_alive) := goodIn_app (goodIn_of _ (by decide +kernel)) ggX5_aliveCount_X5_alive
theorem dX5_aliveCount_0 : decode cX5_aliveCount 0 = .ok (.aload_n 0, 1) := by decide +kernel
theorem dX5_aliveCount_1 : decode cX5_aliveCount 1 = .ok (.iconst 0, 1) := by decide +kernel
theorem dX5_aliveCount_2 : decode cX5_aliveCount 2 = .ok (.putfield 32, 3) := by decide +kernel
theorem dX5_aliveCount_5 : decode cX5_aliveCount 5 = .ok (.aload_n 0, 1) := by decide +kernel
theorem dX5_aliveCount_6 : decode cX5_aliveCount 6 = .ok (.invokevirtual 131, 3) := by decide +kernel
theorem dX5_aliveCount_9 : decode cX5_aliveCount 9 = .ok (.ireturn, 1) := by decide +kernel
set_option maxRecDepth 20000 in
theorem ggX5_value_X5_isSensor : GoodIn wsX5_value wsX5_isSensor := goodIn_r _ [5, 6, 7, 8, 4, 9, 14, 15, 16, 17, 18, 19, 20, 21, 22] (by decide +kernel) (by decide +kernel)
set_option maxRecDepth 20000 in
theorem gX5_value_X5_isSensor : GoodIn wsX5_value (wsV RX5 59 RX5 yX5_isSensor wsX5_isSensor) := goodIn_app (goodIn_of _ (by decide +kernel)) ggX5_value_X5_isSensor
set_option maxRecDepth 20000 in
theorem ggX5_value_X5_of : GoodIn wsX5_value wsX5_of := goodIn_r _ [13, 6, 14, 15, 16, 17, 18, 19, 20, 21, 22] (by decide +kernel) (by decide +kernel)
set_option maxRecDepth 20000 in
theorem gX5_value_X5_of : GoodIn wsX5_value (wsV RX5 43 RX5 yX5_of wsX5_of) := goodIn_app (goodIn_of _ (by decide +kernel)) ggX5_value_X5_of
theorem dX5_value_0 : decode cX5_value 0 = .ok (.aload_n 0, 1) := by decide +kernel
theorem dX5_value_1 : decode cX5_value 1 = .ok (.iload_n 1, 1) := by decide +kernel
theorem dX5_value_2 : decode cX5_value 2 = .ok (.invokevirtual 59, 3) := by decide +kernel
theorem dX5_value_5 : decode cX5_value 5 = .ok (.ifCond .eq 12, 3) := by decide +kernel
theorem dX5_value_8 : decode cX5_value 8 = .ok (.aload_n 0, 1) := by decide +kernel
theorem dX5_value_9 : decode cX5_value 9 = .ok (.iload_n 1, 1) := by decide +kernel
theorem dX5_value_10 : decode cX5_value 10 = .ok (.iload_n 2, 1) := by decide +kernel
theorem dX5_value_11 : decode cX5_value 11 = .ok (.invokevirtual 43, 3) := by decide +kernel
theorem dX5_value_14 : decode cX5_value 14 = .ok (.goto 4, 3) := by decide +kernel
theorem dX5_value_17 : decode cX5_value 17 = .ok (.iconst (-1), 1) := by decide +kernel
theorem dX5_value_18 : decode cX5_value 18 = .ok (.ireturn, 1) := by decide +kernel
set_option maxRecDepth 20000 in
theorem ggX5_isAlive_X5_value : GoodIn wsX5_isAlive wsX5_value := goodIn_r _ [6, 7, 8, 9, 5, 10, 11, 12, 13, 14, 15, 16, 17, 18, 19, 20, 21, 22, 23, 24, 25, 26, 27] (by decide +kernel) (by decide +kernel)
set_option maxRecDepth 20000 in
theorem gX5_isAlive_X5_value : GoodIn wsX5_isAlive (wsV RX5 140 RX5 yX5_value wsX5_value) := goodIn_app (goodIn_of _ (by decide +kernel)) ggX5_isAlive_X5_value
theorem dX5_isAlive_0 : decode cX5_isAlive 0 = .ok (.aload_n 0, 1) := by decide +kernel
theorem dX5_isAlive_1 : decode cX5_isAlive 1 = .ok (.iconst 0, 1) := by decide +kernel
theorem dX5_isAlive_2 : decode cX5_isAlive 2 = .ok (.putfield 32, 3) := by decide +kernel
theorem dX5_isAlive_5 : decode cX5_isAlive 5 = .ok (.aload_n 0, 1) := by decide +kernel
theorem dX5_isAlive_6 : decode cX5_isAlive 6 = .ok (.iload_n 1, 1) := by decide +kernel
theorem dX5_isAlive_7 : decode cX5_isAlive 7 = .ok (.iconst 3, 1) := by decide +kernel
theorem dX5_isAlive_8 : decode cX5_isAlive 8 = .ok (.invokevirtual 140, 3) := by decide +kernel
theorem dX5_isAlive_11 : decode cX5_isAlive 11 = .ok (.ireturn, 1) := by decide +kernel
set_option maxRecDepth 20000 in
theorem ggX5_battery_X5_value : GoodIn wsX5_battery wsX5_value := goodIn_r _ [6, 7, 8, 9, 5, 10, 11, 12, 13, 14, 15, 16, 17, 18, 19, 20, 21, 22, 23, 24, 25, 26, 27] (by decide +kernel) (by decide +kernel)
set_option maxRecDepth 20000 in
theorem gX5_battery_X5_value : GoodIn wsX5_battery (wsV RX5 140 RX5 yX5_value wsX5_value) := goodIn_app (goodIn_of _ (by decide +kernel)) ggX5_battery_X5_value
theorem dX5_battery_0 : decode cX5_battery 0 = .ok (.aload_n 0, 1) := by decide +kernel
theorem dX5_battery_1 : decode cX5_battery 1 = .ok (.iconst 0, 1) := by decide +kernel
theorem dX5_battery_2 : decode cX5_battery 2 = .ok (.putfield 32, 3) := by decide +kernel
theorem dX5_battery_5 : decode cX5_battery 5 = .ok (.aload_n 0, 1) := by decide +kernel
theorem dX5_battery_6 : decode cX5_battery 6 = .ok (.iload_n 1, 1) := by decide +kernel
theorem dX5_battery_7 : decode cX5_battery 7 = .ok (.iconst 2, 1) := by decide +kernel
theorem dX5_battery_8 : decode cX5_battery 8 = .ok (.invokevirtual 140, 3) := by decide +kernel
theorem dX5_battery_11 : decode cX5_battery 11 = .ok (.ireturn, 1) := by decide +kernel
set_option maxRecDepth 20000 in
theorem ggX5_isEligible_X5_isSensor : GoodIn wsX5_isEligible wsX5_isSensor := goodIn_r _ [7, 2, 8, 9, 6, 10, 23, 24, 25, 26, 27, 28, 29, 30, 31] (by decide +kernel) (by decide +kernel)
set_option maxRecDepth 20000 in
theorem gX5_isEligible_X5_isSensor : GoodIn wsX5_isEligible (wsV RX5 59 RX5 yX5_isSensor wsX5_isSensor) := goodIn_app (goodIn_of _ (by decide +kernel)) ggX5_isEligible_X5_isSensor
set_option maxRecDepth 20000 in
theorem ggX5_isEligible_X5_lives : GoodIn wsX5_isEligible wsX5_lives := goodIn_r _ [14, 15, 16, 17, 6, 18, 2, 23, 24, 25, 26, 27, 28, 29, 30, 31] (by decide +kernel) (by decide +kernel)
set_option maxRecDepth 20000 in
theorem gX5_isEligible_X5_lives : GoodIn wsX5_isEligible (wsV RX5 63 RX5 yX5_lives wsX5_lives) := goodIn_app (goodIn_of _ (by decide +kernel)) ggX5_isEligible_X5_lives
set_option maxRecDepth 20000 in
theorem ggX5_isEligible_X5_of : GoodIn wsX5_isEligible wsX5_of := goodIn_r _ [18, 2, 23, 24, 25, 26, 27, 28, 29, 30, 31] (by decide +kernel) (by decide +kernel)
set_option maxRecDepth 20000 in
theorem gX5_isEligible_X5_of : GoodIn wsX5_isEligible (wsV RX5 43 RX5 yX5_of wsX5_of) := goodIn_app (goodIn_of _ (by decide +kernel)) ggX5_isEligible_X5_of
set_option maxRecDepth 20000 in
theorem ggX5_isEligible_X5_setting : GoodIn wsX5_isEligible wsX5_setting := goodIn_r _ [22, 2, 23, 24, 25, 26, 27, 28, 29, 30, 31] (by decide +kernel) (by decide +kernel)
set_option maxRecDepth 20000 in
theorem gX5_isEligible_X5_setting : GoodIn wsX5_isEligible (wsV RX5 71 RX5 yX5_setting wsX5_setting) := goodIn_app (goodIn_of _ (by decide +kernel)) ggX5_isEligible_X5_setting
theorem dX5_isEligible_0 : decode cX5_isEligible 0 = .ok (.aload_n 0, 1) := by decide +kernel
theorem dX5_isEligible_1 : decode cX5_isEligible 1 = .ok (.iconst 0, 1) := by decide +kernel
theorem dX5_isEligible_2 : decode cX5_isEligible 2 = .ok (.putfield 32, 3) := by decide +kernel
theorem dX5_isEligible_5 : decode cX5_isEligible 5 = .ok (.aload_n 0, 1) := by decide +kernel
theorem dX5_isEligible_6 : decode cX5_isEligible 6 = .ok (.iload_n 1, 1) := by decide +kernel
theorem dX5_isEligible_7 : decode cX5_isEligible 7 = .ok (.invokevirtual 59, 3) := by decide +kernel
theorem dX5_isEligible_10 : decode cX5_isEligible 10 = .ok (.ifCond .ne 5, 3) := by decide +kernel
theorem dX5_isEligible_13 : decode cX5_isEligible 13 = .ok (.iconst (-1), 1) := by decide +kernel
theorem dX5_isEligible_14 : decode cX5_isEligible 14 = .ok (.ireturn, 1) := by decide +kernel
theorem dX5_isEligible_15 : decode cX5_isEligible 15 = .ok (.aload_n 0, 1) := by decide +kernel
theorem dX5_isEligible_16 : decode cX5_isEligible 16 = .ok (.iload_n 1, 1) := by decide +kernel
theorem dX5_isEligible_17 : decode cX5_isEligible 17 = .ok (.invokevirtual 63, 3) := by decide +kernel
theorem dX5_isEligible_20 : decode cX5_isEligible 20 = .ok (.ifCond .eq 33, 3) := by decide +kernel
theorem dX5_isEligible_23 : decode cX5_isEligible 23 = .ok (.aload_n 0, 1) := by decide +kernel
theorem dX5_isEligible_24 : decode cX5_isEligible 24 = .ok (.iload_n 1, 1) := by decide +kernel
theorem dX5_isEligible_25 : decode cX5_isEligible 25 = .ok (.iconst 4, 1) := by decide +kernel
theorem dX5_isEligible_26 : decode cX5_isEligible 26 = .ok (.invokevirtual 43, 3) := by decide +kernel
theorem dX5_isEligible_29 : decode cX5_isEligible 29 = .ok (.iconst 1, 1) := by decide +kernel
theorem dX5_isEligible_30 : decode cX5_isEligible 30 = .ok (.if_icmp .eq 19, 3) := by decide +kernel
theorem dX5_isEligible_33 : decode cX5_isEligible 33 = .ok (.aload_n 0, 1) := by decide +kernel
theorem dX5_isEligible_34 : decode cX5_isEligible 34 = .ok (.getfield 7, 3) := by decide +kernel
theorem dX5_isEligible_37 : decode cX5_isEligible 37 = .ok (.bipush 10, 2) := by decide +kernel
theorem dX5_isEligible_39 : decode cX5_isEligible 39 = .ok (.iaload, 1) := by decide +kernel
theorem dX5_isEligible_40 : decode cX5_isEligible 40 = .ok (.aload_n 0, 1) := by decide +kernel
theorem dX5_isEligible_41 : decode cX5_isEligible 41 = .ok (.iconst 0, 1) := by decide +kernel
theorem dX5_isEligible_42 : decode cX5_isEligible 42 = .ok (.invokevirtual 71, 3) := by decide +kernel
theorem dX5_isEligible_45 : decode cX5_isEligible 45 = .ok (.irem, 1) := by decide +kernel
theorem dX5_isEligible_46 : decode cX5_isEligible 46 = .ok (.ifCond .ne 7, 3) := by decide +kernel
theorem dX5_isEligible_49 : decode cX5_isEligible 49 = .ok (.iconst 1, 1) := by decide +kernel
theorem dX5_isEligible_50 : decode cX5_isEligible 50 = .ok (.goto 4, 3) := by decide +kernel
theorem dX5_isEligible_53 : decode cX5_isEligible 53 = .ok (.iconst 0, 1) := by decide +kernel
theorem dX5_isEligible_54 : decode cX5_isEligible 54 = .ok (.istore_n 2, 1) := by decide +kernel
theorem dX5_isEligible_55 : decode cX5_isEligible 55 = .ok (.iload_n 2, 1) := by decide +kernel
theorem dX5_isEligible_56 : decode cX5_isEligible 56 = .ok (.ifCond .eq 7, 3) := by decide +kernel
theorem dX5_isEligible_59 : decode cX5_isEligible 59 = .ok (.iconst 1, 1) := by decide +kernel
theorem dX5_isEligible_60 : decode cX5_isEligible 60 = .ok (.goto 4, 3) := by decide +kernel
theorem dX5_isEligible_63 : decode cX5_isEligible 63 = .ok (.iconst 0, 1) := by decide +kernel
theorem dX5_isEligible_64 : decode cX5_isEligible 64 = .ok (.ireturn, 1) := by decide +kernel
set_option maxRecDepth 20000 in
theorem ggX5_headRounds_X5_value : GoodIn wsX5_headRounds wsX5_value := goodIn_r _ [6, 7, 8, 9, 5, 10, 11, 12, 13, 14, 15, 16, 17, 18, 19, 20, 21, 22, 23, 24, 25, 26, 27] (by decide +kernel) (by decide +kernel)
set_option maxRecDepth 20000 in
theorem gX5_headRounds_X5_value : GoodIn wsX5_headRounds (wsV RX5 140 RX5 yX5_value wsX5_value) := goodIn_app (goodIn_of _ (by decide +kernel)) ggX5_headRounds_X5_value
theorem dX5_headRounds_0 : decode cX5_headRounds 0 = .ok (.aload_n 0, 1) := by decide +kernel
theorem dX5_headRounds_1 : decode cX5_headRounds 1 = .ok (.iconst 0, 1) := by decide +kernel
theorem dX5_headRounds_2 : decode cX5_headRounds 2 = .ok (.putfield 32, 3) := by decide +kernel
theorem dX5_headRounds_5 : decode cX5_headRounds 5 = .ok (.aload_n 0, 1) := by decide +kernel
theorem dX5_headRounds_6 : decode cX5_headRounds 6 = .ok (.iload_n 1, 1) := by decide +kernel
theorem dX5_headRounds_7 : decode cX5_headRounds 7 = .ok (.iconst 5, 1) := by decide +kernel
theorem dX5_headRounds_8 : decode cX5_headRounds 8 = .ok (.invokevirtual 140, 3) := by decide +kernel
theorem dX5_headRounds_11 : decode cX5_headRounds 11 = .ok (.ireturn, 1) := by decide +kernel
set_option maxRecDepth 20000 in
theorem ggX5_deathRound_X5_value : GoodIn wsX5_deathRound wsX5_value := goodIn_r _ [6, 7, 8, 9, 5, 10, 11, 12, 13, 14, 15, 16, 17, 18, 19, 20, 21, 22, 23, 24, 25, 26, 27] (by decide +kernel) (by decide +kernel)
set_option maxRecDepth 20000 in
theorem gX5_deathRound_X5_value : GoodIn wsX5_deathRound (wsV RX5 140 RX5 yX5_value wsX5_value) := goodIn_app (goodIn_of _ (by decide +kernel)) ggX5_deathRound_X5_value
theorem dX5_deathRound_0 : decode cX5_deathRound 0 = .ok (.aload_n 0, 1) := by decide +kernel
theorem dX5_deathRound_1 : decode cX5_deathRound 1 = .ok (.iconst 0, 1) := by decide +kernel
theorem dX5_deathRound_2 : decode cX5_deathRound 2 = .ok (.putfield 32, 3) := by decide +kernel
theorem dX5_deathRound_5 : decode cX5_deathRound 5 = .ok (.aload_n 0, 1) := by decide +kernel
theorem dX5_deathRound_6 : decode cX5_deathRound 6 = .ok (.iload_n 1, 1) := by decide +kernel
theorem dX5_deathRound_7 : decode cX5_deathRound 7 = .ok (.bipush 6, 2) := by decide +kernel
theorem dX5_deathRound_9 : decode cX5_deathRound 9 = .ok (.invokevirtual 140, 3) := by decide +kernel
theorem dX5_deathRound_12 : decode cX5_deathRound 12 = .ok (.ireturn, 1) := by decide +kernel
set_option maxRecDepth 20000 in
theorem ggX5_headOf_X5_value : GoodIn wsX5_headOf wsX5_value := goodIn_r _ [6, 7, 8, 9, 5, 10, 11, 12, 13, 14, 15, 16, 17, 18, 19, 20, 21, 22, 23, 24, 25, 26, 27] (by decide +kernel) (by decide +kernel)
set_option maxRecDepth 20000 in
theorem gX5_headOf_X5_value : GoodIn wsX5_headOf (wsV RX5 140 RX5 yX5_value wsX5_value) := goodIn_app (goodIn_of _ (by decide +kernel)) ggX5_headOf_X5_value
theorem dX5_headOf_0 : decode cX5_headOf 0 = .ok (.aload_n 0, 1) := by decide +kernel
theorem dX5_headOf_1 : decode cX5_headOf 1 = .ok (.iconst 0, 1) := by decide +kernel
theorem dX5_headOf_2 : decode cX5_headOf 2 = .ok (.putfield 32, 3) := by decide +kernel
theorem dX5_headOf_5 : decode cX5_headOf 5 = .ok (.aload_n 0, 1) := by decide +kernel
theorem dX5_headOf_6 : decode cX5_headOf 6 = .ok (.iload_n 1, 1) := by decide +kernel
theorem dX5_headOf_7 : decode cX5_headOf 7 = .ok (.bipush 7, 2) := by decide +kernel
theorem dX5_headOf_9 : decode cX5_headOf 9 = .ok (.invokevirtual 140, 3) := by decide +kernel
theorem dX5_headOf_12 : decode cX5_headOf 12 = .ok (.ireturn, 1) := by decide +kernel
set_option maxRecDepth 20000 in
theorem ggX5_slotOf_X5_value : GoodIn wsX5_slotOf wsX5_value := goodIn_r _ [6, 7, 8, 9, 5, 10, 11, 12, 13, 14, 15, 16, 17, 18, 19, 20, 21, 22, 23, 24, 25, 26, 27] (by decide +kernel) (by decide +kernel)
set_option maxRecDepth 20000 in
theorem gX5_slotOf_X5_value : GoodIn wsX5_slotOf (wsV RX5 140 RX5 yX5_value wsX5_value) := goodIn_app (goodIn_of _ (by decide +kernel)) ggX5_slotOf_X5_value
theorem dX5_slotOf_0 : decode cX5_slotOf 0 = .ok (.aload_n 0, 1) := by decide +kernel
theorem dX5_slotOf_1 : decode cX5_slotOf 1 = .ok (.iconst 0, 1) := by decide +kernel
theorem dX5_slotOf_2 : decode cX5_slotOf 2 = .ok (.putfield 32, 3) := by decide +kernel
theorem dX5_slotOf_5 : decode cX5_slotOf 5 = .ok (.aload_n 0, 1) := by decide +kernel
theorem dX5_slotOf_6 : decode cX5_slotOf 6 = .ok (.iload_n 1, 1) := by decide +kernel
theorem dX5_slotOf_7 : decode cX5_slotOf 7 = .ok (.bipush 8, 2) := by decide +kernel
theorem dX5_slotOf_9 : decode cX5_slotOf 9 = .ok (.invokevirtual 140, 3) := by decide +kernel
theorem dX5_slotOf_12 : decode cX5_slotOf 12 = .ok (.ireturn, 1) := by decide +kernel
theorem dX5_headCount_0 : decode cX5_headCount 0 = .ok (.aload_n 0, 1) := by decide +kernel
theorem dX5_headCount_1 : decode cX5_headCount 1 = .ok (.iconst 0, 1) := by decide +kernel
theorem dX5_headCount_2 : decode cX5_headCount 2 = .ok (.putfield 32, 3) := by decide +kernel
theorem dX5_headCount_5 : decode cX5_headCount 5 = .ok (.aload_n 0, 1) := by decide +kernel
theorem dX5_headCount_6 : decode cX5_headCount 6 = .ok (.getfield 7, 3) := by decide +kernel
theorem dX5_headCount_9 : decode cX5_headCount 9 = .ok (.bipush 11, 2) := by decide +kernel
theorem dX5_headCount_11 : decode cX5_headCount 11 = .ok (.iaload, 1) := by decide +kernel
theorem dX5_headCount_12 : decode cX5_headCount 12 = .ok (.ireturn, 1) := by decide +kernel
theorem dX5_lastDelivered_0 : decode cX5_lastDelivered 0 = .ok (.aload_n 0, 1) := by decide +kernel
theorem dX5_lastDelivered_1 : decode cX5_lastDelivered 1 = .ok (.iconst 0, 1) := by decide +kernel
theorem dX5_lastDelivered_2 : decode cX5_lastDelivered 2 = .ok (.putfield 32, 3) := by decide +kernel
theorem dX5_lastDelivered_5 : decode cX5_lastDelivered 5 = .ok (.aload_n 0, 1) := by decide +kernel
theorem dX5_lastDelivered_6 : decode cX5_lastDelivered 6 = .ok (.getfield 7, 3) := by decide +kernel
theorem dX5_lastDelivered_9 : decode cX5_lastDelivered 9 = .ok (.bipush 12, 2) := by decide +kernel
theorem dX5_lastDelivered_11 : decode cX5_lastDelivered 11 = .ok (.iaload, 1) := by decide +kernel
theorem dX5_lastDelivered_12 : decode cX5_lastDelivered 12 = .ok (.ireturn, 1) := by decide +kernel
theorem dX5_deliveredTotal_0 : decode cX5_deliveredTotal 0 = .ok (.aload_n 0, 1) := by decide +kernel
theorem dX5_deliveredTotal_1 : decode cX5_deliveredTotal 1 = .ok (.iconst 0, 1) := by decide +kernel
theorem dX5_deliveredTotal_2 : decode cX5_deliveredTotal 2 = .ok (.putfield 32, 3) := by decide +kernel
theorem dX5_deliveredTotal_5 : decode cX5_deliveredTotal 5 = .ok (.aload_n 0, 1) := by decide +kernel
theorem dX5_deliveredTotal_6 : decode cX5_deliveredTotal 6 = .ok (.getfield 7, 3) := by decide +kernel
theorem dX5_deliveredTotal_9 : decode cX5_deliveredTotal 9 = .ok (.bipush 13, 2) := by decide +kernel
theorem dX5_deliveredTotal_11 : decode cX5_deliveredTotal 11 = .ok (.iaload, 1) := by decide +kernel
theorem dX5_deliveredTotal_12 : decode cX5_deliveredTotal 12 = .ok (.ireturn, 1) := by decide +kernel
theorem dX5_energyPaid_0 : decode cX5_energyPaid 0 = .ok (.aload_n 0, 1) := by decide +kernel
theorem dX5_energyPaid_1 : decode cX5_energyPaid 1 = .ok (.iconst 0, 1) := by decide +kernel
theorem dX5_energyPaid_2 : decode cX5_energyPaid 2 = .ok (.putfield 32, 3) := by decide +kernel
theorem dX5_energyPaid_5 : decode cX5_energyPaid 5 = .ok (.aload_n 0, 1) := by decide +kernel
theorem dX5_energyPaid_6 : decode cX5_energyPaid 6 = .ok (.getfield 7, 3) := by decide +kernel
theorem dX5_energyPaid_9 : decode cX5_energyPaid 9 = .ok (.bipush 14, 2) := by decide +kernel
theorem dX5_energyPaid_11 : decode cX5_energyPaid 11 = .ok (.iaload, 1) := by decide +kernel
theorem dX5_energyPaid_12 : decode cX5_energyPaid 12 = .ok (.ireturn, 1) := by decide +kernel
set_option maxRecDepth 20000 in
theorem ggX5_sendCost_X5_isSensor : GoodIn wsX5_sendCost wsX5_isSensor := goodIn_r _ [6, 7, 8, 9, 5, 10, 35, 36, 37, 38, 39, 40, 41, 42, 43] (by decide +kernel) (by decide +kernel)
set_option maxRecDepth 20000 in
theorem gX5_sendCost_X5_isSensor : GoodIn wsX5_sendCost (wsV RX5 59 RX5 yX5_isSensor wsX5_isSensor) := goodIn_app (goodIn_of _ (by decide +kernel)) ggX5_sendCost_X5_isSensor
set_option maxRecDepth 20000 in
theorem ggX5_sendCost_X5_distanceToBase : GoodIn wsX5_sendCost wsX5_distanceToBase := goodIn_r _ [14, 7, 15, 16, 17, 5, 18, 19, 20, 21, 22, 35, 36, 37, 38, 39, 40, 41, 42, 43] (by decide +kernel) (by decide +kernel)
set_option maxRecDepth 20000 in
theorem gX5_sendCost_X5_distanceToBase : GoodIn wsX5_sendCost (wsV RX5 100 RX5 yX5_distanceToBase wsX5_distanceToBase) := goodIn_app (goodIn_of _ (by decide +kernel)) ggX5_sendCost_X5_distanceToBase
set_option maxRecDepth 20000 in
theorem ggX5_sendCost_X5_distance : GoodIn wsX5_sendCost wsX5_distance := goodIn_r _ [26, 19, 20, 21, 5, 22, 7, 15, 16, 17, 18, 35, 36, 37, 38, 39, 40, 41, 42, 43] (by decide +kernel) (by decide +kernel)
set_option maxRecDepth 20000 in
theorem gX5_sendCost_X5_distance : GoodIn wsX5_sendCost (wsV RX5 88 RX5 yX5_distance wsX5_distance) := goodIn_app (goodIn_of _ (by decide +kernel)) ggX5_sendCost_X5_distance
set_option maxRecDepth 20000 in
theorem ggX5_sendCost_X5_sendingCost : GoodIn wsX5_sendCost wsX5_sendingCost := goodIn_r _ [30, 31, 32, 33, 5, 34, 7, 35, 36, 37, 38, 39, 40, 41, 42, 43] (by decide +kernel) (by decide +kernel)
set_option maxRecDepth 20000 in
theorem gX5_sendCost_X5_sendingCost : GoodIn wsX5_sendCost (wsV RX5 94 RX5 yX5_sendingCost wsX5_sendingCost) := goodIn_app (goodIn_of _ (by decide +kernel)) ggX5_sendCost_X5_sendingCost
theorem dX5_sendCost_0 : decode cX5_sendCost 0 = .ok (.aload_n 0, 1) := by decide +kernel
theorem dX5_sendCost_1 : decode cX5_sendCost 1 = .ok (.iconst 0, 1) := by decide +kernel
theorem dX5_sendCost_2 : decode cX5_sendCost 2 = .ok (.putfield 32, 3) := by decide +kernel
theorem dX5_sendCost_5 : decode cX5_sendCost 5 = .ok (.aload_n 0, 1) := by decide +kernel
theorem dX5_sendCost_6 : decode cX5_sendCost 6 = .ok (.iload_n 1, 1) := by decide +kernel
theorem dX5_sendCost_7 : decode cX5_sendCost 7 = .ok (.invokevirtual 59, 3) := by decide +kernel
theorem dX5_sendCost_10 : decode cX5_sendCost 10 = .ok (.ifCond .eq 22, 3) := by decide +kernel
theorem dX5_sendCost_13 : decode cX5_sendCost 13 = .ok (.iload_n 2, 1) := by decide +kernel
theorem dX5_sendCost_14 : decode cX5_sendCost 14 = .ok (.bipush (-9), 2) := by decide +kernel
theorem dX5_sendCost_16 : decode cX5_sendCost 16 = .ok (.if_icmp .eq 11, 3) := by decide +kernel
theorem dX5_sendCost_19 : decode cX5_sendCost 19 = .ok (.aload_n 0, 1) := by decide +kernel
theorem dX5_sendCost_20 : decode cX5_sendCost 20 = .ok (.iload_n 2, 1) := by decide +kernel
theorem dX5_sendCost_21 : decode cX5_sendCost 21 = .ok (.invokevirtual 59, 3) := by decide +kernel
theorem dX5_sendCost_24 : decode cX5_sendCost 24 = .ok (.ifCond .eq 8, 3) := by decide +kernel
theorem dX5_sendCost_27 : decode cX5_sendCost 27 = .ok (.iload_n 1, 1) := by decide +kernel
theorem dX5_sendCost_28 : decode cX5_sendCost 28 = .ok (.iload_n 2, 1) := by decide +kernel
theorem dX5_sendCost_29 : decode cX5_sendCost 29 = .ok (.if_icmp .ne 5, 3) := by decide +kernel
theorem dX5_sendCost_32 : decode cX5_sendCost 32 = .ok (.iconst (-1), 1) := by decide +kernel
theorem dX5_sendCost_33 : decode cX5_sendCost 33 = .ok (.ireturn, 1) := by decide +kernel
theorem dX5_sendCost_34 : decode cX5_sendCost 34 = .ok (.aload_n 0, 1) := by decide +kernel
theorem dX5_sendCost_35 : decode cX5_sendCost 35 = .ok (.iload_n 2, 1) := by decide +kernel
theorem dX5_sendCost_36 : decode cX5_sendCost 36 = .ok (.bipush (-9), 2) := by decide +kernel
theorem dX5_sendCost_38 : decode cX5_sendCost 38 = .ok (.if_icmp .ne 11, 3) := by decide +kernel
theorem dX5_sendCost_41 : decode cX5_sendCost 41 = .ok (.aload_n 0, 1) := by decide +kernel
theorem dX5_sendCost_42 : decode cX5_sendCost 42 = .ok (.iload_n 1, 1) := by decide +kernel
theorem dX5_sendCost_43 : decode cX5_sendCost 43 = .ok (.invokevirtual 100, 3) := by decide +kernel
theorem dX5_sendCost_46 : decode cX5_sendCost 46 = .ok (.goto 9, 3) := by decide +kernel
theorem dX5_sendCost_49 : decode cX5_sendCost 49 = .ok (.aload_n 0, 1) := by decide +kernel
theorem dX5_sendCost_50 : decode cX5_sendCost 50 = .ok (.iload_n 1, 1) := by decide +kernel
theorem dX5_sendCost_51 : decode cX5_sendCost 51 = .ok (.iload_n 2, 1) := by decide +kernel
theorem dX5_sendCost_52 : decode cX5_sendCost 52 = .ok (.invokevirtual 88, 3) := by decide +kernel
theorem dX5_sendCost_55 : decode cX5_sendCost 55 = .ok (.invokevirtual 94, 3) := by decide +kernel
theorem dX5_sendCost_58 : decode cX5_sendCost 58 = .ok (.ireturn, 1) := by decide +kernel
theorem dX5_takeCopy_0 : decode cX5_takeCopy 0 = .ok (.iconst 0, 1) := by decide +kernel
theorem dX5_takeCopy_1 : decode cX5_takeCopy 1 = .ok (.istore_n 1, 1) := by decide +kernel
theorem dX5_takeCopy_2 : decode cX5_takeCopy 2 = .ok (.iload_n 1, 1) := by decide +kernel
theorem dX5_takeCopy_3 : decode cX5_takeCopy 3 = .ok (.bipush 123, 2) := by decide +kernel
theorem dX5_takeCopy_5 : decode cX5_takeCopy 5 = .ok (.if_icmp .ge 21, 3) := by decide +kernel
theorem dX5_takeCopy_8 : decode cX5_takeCopy 8 = .ok (.aload_n 0, 1) := by decide +kernel
theorem dX5_takeCopy_9 : decode cX5_takeCopy 9 = .ok (.getfield 13, 3) := by decide +kernel
theorem dX5_takeCopy_12 : decode cX5_takeCopy 12 = .ok (.iload_n 1, 1) := by decide +kernel
theorem dX5_takeCopy_13 : decode cX5_takeCopy 13 = .ok (.aload_n 0, 1) := by decide +kernel
theorem dX5_takeCopy_14 : decode cX5_takeCopy 14 = .ok (.getfield 7, 3) := by decide +kernel
theorem dX5_takeCopy_17 : decode cX5_takeCopy 17 = .ok (.iload_n 1, 1) := by decide +kernel
theorem dX5_takeCopy_18 : decode cX5_takeCopy 18 = .ok (.iaload, 1) := by decide +kernel
theorem dX5_takeCopy_19 : decode cX5_takeCopy 19 = .ok (.iastore, 1) := by decide +kernel
theorem dX5_takeCopy_20 : decode cX5_takeCopy 20 = .ok (.iinc 1 1, 3) := by decide +kernel
theorem dX5_takeCopy_23 : decode cX5_takeCopy 23 = .ok (.goto (-21), 3) := by decide +kernel
theorem dX5_takeCopy_26 : decode cX5_takeCopy 26 = .ok (.return_, 1) := by decide +kernel
theorem dX5_putBack_0 : decode cX5_putBack 0 = .ok (.iconst 0, 1) := by decide +kernel
theorem dX5_putBack_1 : decode cX5_putBack 1 = .ok (.istore_n 1, 1) := by decide +kernel
theorem dX5_putBack_2 : decode cX5_putBack 2 = .ok (.iload_n 1, 1) := by decide +kernel
theorem dX5_putBack_3 : decode cX5_putBack 3 = .ok (.bipush 123, 2) := by decide +kernel
theorem dX5_putBack_5 : decode cX5_putBack 5 = .ok (.if_icmp .ge 21, 3) := by decide +kernel
theorem dX5_putBack_8 : decode cX5_putBack 8 = .ok (.aload_n 0, 1) := by decide +kernel
theorem dX5_putBack_9 : decode cX5_putBack 9 = .ok (.getfield 7, 3) := by decide +kernel
theorem dX5_putBack_12 : decode cX5_putBack 12 = .ok (.iload_n 1, 1) := by decide +kernel
theorem dX5_putBack_13 : decode cX5_putBack 13 = .ok (.aload_n 0, 1) := by decide +kernel
theorem dX5_putBack_14 : decode cX5_putBack 14 = .ok (.getfield 13, 3) := by decide +kernel
theorem dX5_putBack_17 : decode cX5_putBack 17 = .ok (.iload_n 1, 1) := by decide +kernel
theorem dX5_putBack_18 : decode cX5_putBack 18 = .ok (.iaload, 1) := by decide +kernel
theorem dX5_putBack_19 : decode cX5_putBack 19 = .ok (.iastore, 1) := by decide +kernel
theorem dX5_putBack_20 : decode cX5_putBack 20 = .ok (.iinc 1 1, 3) := by decide +kernel
theorem dX5_putBack_23 : decode cX5_putBack 23 = .ok (.goto (-21), 3) := by decide +kernel
theorem dX5_putBack_26 : decode cX5_putBack 26 = .ok (.return_, 1) := by decide +kernel
set_option maxRecDepth 20000 in
theorem ggX5_forecastDeath_X5_isSensor : GoodIn wsX5_forecastDeath wsX5_isSensor := goodIn_r _ [6, 7, 8, 9, 5, 10, 125, 126, 127, 128, 129, 130, 131, 132, 133] (by decide +kernel) (by decide +kernel)
set_option maxRecDepth 20000 in
theorem gX5_forecastDeath_X5_isSensor : GoodIn wsX5_forecastDeath (wsV RX5 59 RX5 yX5_isSensor wsX5_isSensor) := goodIn_app (goodIn_of _ (by decide +kernel)) ggX5_forecastDeath_X5_isSensor
set_option maxRecDepth 20000 in
theorem ggX5_forecastDeath_X5_in : GoodIn wsX5_forecastDeath wsX5_in := goodIn_r _ [10] (by decide +kernel) (by decide +kernel)
set_option maxRecDepth 20000 in
theorem gX5_forecastDeath_X5_in : GoodIn wsX5_forecastDeath (va_wsS RX5 39 yX5_in wsX5_in) := goodIn_app (goodIn_of _ (by decide +kernel)) ggX5_forecastDeath_X5_in
set_option maxRecDepth 20000 in
theorem ggX5_forecastDeath_X5_lives : GoodIn wsX5_forecastDeath wsX5_lives := goodIn_r _ [14, 15, 16, 17, 5, 18, 7, 125, 126, 127, 128, 129, 130, 131, 132, 133] (by decide +kernel) (by decide +kernel)
set_option maxRecDepth 20000 in
theorem gX5_forecastDeath_X5_lives : GoodIn wsX5_forecastDeath (wsV RX5 63 RX5 yX5_lives wsX5_lives) := goodIn_app (goodIn_of _ (by decide +kernel)) ggX5_forecastDeath_X5_lives
set_option maxRecDepth 20000 in
theorem ggX5_forecastDeath_X5_takeCopy : GoodIn wsX5_forecastDeath wsX5_takeCopy := goodIn_r _ [22, 23, 7, 125, 126, 127, 128, 129, 130, 131, 132, 133] (by decide +kernel) (by decide +kernel)
set_option maxRecDepth 20000 in
theorem gX5_forecastDeath_X5_takeCopy : GoodIn wsX5_forecastDeath (wsV RX5 143 RX5 yX5_takeCopy wsX5_takeCopy) := goodIn_app (goodIn_of _ (by decide +kernel)) ggX5_forecastDeath_X5_takeCopy
set_option maxRecDepth 20000 in
theorem ggX5_forecastDeath_X5_performMany : GoodIn wsX5_forecastDeath wsX5_performMany := goodIn_r _ [27, 28, 29, 30, 5, 31, 7, 15, 16, 17, 18, 32, 33, 34, 35, 36, 37, 38, 39, 40, 41, 42, 43, 44, 45, 46, 47, 48, 49, 11, 12, 13, 14, 50, 51, 52, 53, 54, 55, 56, 57, 58, 59, 60, 61, 62, 63, 64, 65, 66, 67, 68, 69, 70, 71, 72, 73, 74, 75, 76, 77, 78, 79, 80, 81, 82, 83, 84, 85, 86, 87, 88, 89, 90, 91, 92, 93, 94, 95, 96, 97, 98, 99, 100, 101, 102, 103, 104, 105, 106, 107, 108, 109, 110, 111, 112, 113, 114, 115, 116, 117, 118, 119, 120, 125, 126, 127, 128, 129, 130, 131, 132, 133] (by decide +kernel) (by decide +kernel)
set_option maxRecDepth 20000 in
theorem gX5_forecastDeath_X5_performMany : GoodIn wsX5_forecastDeath (wsV RX5 137 RX5 yX5_performMany wsX5_performMany) := goodIn_app (goodIn_of _ (by decide +kernel)) ggX5_forecastDeath_X5_performMany
set_option maxRecDepth 20000 in
theorem ggX5_forecastDeath_X5_of : GoodIn wsX5_forecastDeath wsX5_of := goodIn_r _ [18, 7, 125, 126, 127, 128, 129, 130, 131, 132, 133] (by decide +kernel) (by decide +kernel)
set_option maxRecDepth 20000 in
theorem gX5_forecastDeath_X5_of : GoodIn wsX5_forecastDeath (wsV RX5 43 RX5 yX5_of wsX5_of) := goodIn_app (goodIn_of _ (by decide +kernel)) ggX5_forecastDeath_X5_of
set_option maxRecDepth 20000 in
theorem ggX5_forecastDeath_X5_putBack : GoodIn wsX5_forecastDeath wsX5_putBack := goodIn_r _ [124, 7, 23, 125, 126, 127, 128, 129, 130, 131, 132, 133] (by decide +kernel) (by decide +kernel)
set_option maxRecDepth 20000 in
theorem gX5_forecastDeath_X5_putBack : GoodIn wsX5_forecastDeath (wsV RX5 146 RX5 yX5_putBack wsX5_putBack) := goodIn_app (goodIn_of _ (by decide +kernel)) ggX5_forecastDeath_X5_putBack
theorem dX5_forecastDeath_0 : decode cX5_forecastDeath 0 = .ok (.aload_n 0, 1) := by decide +kernel
theorem dX5_forecastDeath_1 : decode cX5_forecastDeath 1 = .ok (.iconst 0, 1) := by decide +kernel
theorem dX5_forecastDeath_2 : decode cX5_forecastDeath 2 = .ok (.putfield 32, 3) := by decide +kernel
theorem dX5_forecastDeath_5 : decode cX5_forecastDeath 5 = .ok (.aload_n 0, 1) := by decide +kernel
theorem dX5_forecastDeath_6 : decode cX5_forecastDeath 6 = .ok (.iload_n 1, 1) := by decide +kernel
theorem dX5_forecastDeath_7 : decode cX5_forecastDeath 7 = .ok (.invokevirtual 59, 3) := by decide +kernel
theorem dX5_forecastDeath_10 : decode cX5_forecastDeath 10 = .ok (.ifCond .eq 14, 3) := by decide +kernel
theorem dX5_forecastDeath_13 : decode cX5_forecastDeath 13 = .ok (.iload_n 2, 1) := by decide +kernel
theorem dX5_forecastDeath_14 : decode cX5_forecastDeath 14 = .ok (.iconst 1, 1) := by decide +kernel
theorem dX5_forecastDeath_15 : decode cX5_forecastDeath 15 = .ok (.sipush 300, 3) := by decide +kernel
theorem dX5_forecastDeath_18 : decode cX5_forecastDeath 18 = .ok (.invokestatic 39, 3) := by decide +kernel
theorem dX5_forecastDeath_21 : decode cX5_forecastDeath 21 = .ok (.ifCond .ne 5, 3) := by decide +kernel
theorem dX5_forecastDeath_24 : decode cX5_forecastDeath 24 = .ok (.iconst (-1), 1) := by decide +kernel
theorem dX5_forecastDeath_25 : decode cX5_forecastDeath 25 = .ok (.ireturn, 1) := by decide +kernel
theorem dX5_forecastDeath_26 : decode cX5_forecastDeath 26 = .ok (.aload_n 0, 1) := by decide +kernel
theorem dX5_forecastDeath_27 : decode cX5_forecastDeath 27 = .ok (.iload_n 1, 1) := by decide +kernel
theorem dX5_forecastDeath_28 : decode cX5_forecastDeath 28 = .ok (.invokevirtual 63, 3) := by decide +kernel
theorem dX5_forecastDeath_31 : decode cX5_forecastDeath 31 = .ok (.ifCond .ne 6, 3) := by decide +kernel
theorem dX5_forecastDeath_34 : decode cX5_forecastDeath 34 = .ok (.bipush (-2), 2) := by decide +kernel
theorem dX5_forecastDeath_36 : decode cX5_forecastDeath 36 = .ok (.ireturn, 1) := by decide +kernel
theorem dX5_forecastDeath_37 : decode cX5_forecastDeath 37 = .ok (.aload_n 0, 1) := by decide +kernel
theorem dX5_forecastDeath_38 : decode cX5_forecastDeath 38 = .ok (.invokevirtual 143, 3) := by decide +kernel
theorem dX5_forecastDeath_41 : decode cX5_forecastDeath 41 = .ok (.aload_n 0, 1) := by decide +kernel
theorem dX5_forecastDeath_42 : decode cX5_forecastDeath 42 = .ok (.iload_n 2, 1) := by decide +kernel
theorem dX5_forecastDeath_43 : decode cX5_forecastDeath 43 = .ok (.invokevirtual 137, 3) := by decide +kernel
theorem dX5_forecastDeath_46 : decode cX5_forecastDeath 46 = .ok (.pop, 1) := by decide +kernel
theorem dX5_forecastDeath_47 : decode cX5_forecastDeath 47 = .ok (.aload_n 0, 1) := by decide +kernel
theorem dX5_forecastDeath_48 : decode cX5_forecastDeath 48 = .ok (.iload_n 1, 1) := by decide +kernel
theorem dX5_forecastDeath_49 : decode cX5_forecastDeath 49 = .ok (.bipush 6, 2) := by decide +kernel
theorem dX5_forecastDeath_51 : decode cX5_forecastDeath 51 = .ok (.invokevirtual 43, 3) := by decide +kernel
theorem dX5_forecastDeath_54 : decode cX5_forecastDeath 54 = .ok (.istore_n 3, 1) := by decide +kernel
theorem dX5_forecastDeath_55 : decode cX5_forecastDeath 55 = .ok (.aload_n 0, 1) := by decide +kernel
theorem dX5_forecastDeath_56 : decode cX5_forecastDeath 56 = .ok (.invokevirtual 146, 3) := by decide +kernel
theorem dX5_forecastDeath_59 : decode cX5_forecastDeath 59 = .ok (.iload_n 3, 1) := by decide +kernel
theorem dX5_forecastDeath_60 : decode cX5_forecastDeath 60 = .ok (.ireturn, 1) := by decide +kernel
set_option maxRecDepth 20000 in
theorem ggX5_forecastDelivered_X5_in : GoodIn wsX5_forecastDelivered wsX5_in := goodIn_r _ [7] (by decide +kernel) (by decide +kernel)
set_option maxRecDepth 20000 in
theorem gX5_forecastDelivered_X5_in : GoodIn wsX5_forecastDelivered (va_wsS RX5 39 yX5_in wsX5_in) := goodIn_app (goodIn_of _ (by decide +kernel)) ggX5_forecastDelivered_X5_in
set_option maxRecDepth 20000 in
theorem ggX5_forecastDelivered_X5_takeCopy : GoodIn wsX5_forecastDelivered wsX5_takeCopy := goodIn_r _ [11, 3, 2, 121, 122, 123, 124, 125, 126, 127, 128, 129] (by decide +kernel) (by decide +kernel)
set_option maxRecDepth 20000 in
theorem gX5_forecastDelivered_X5_takeCopy : GoodIn wsX5_forecastDelivered (wsV RX5 143 RX5 yX5_takeCopy wsX5_takeCopy) := goodIn_app (goodIn_of _ (by decide +kernel)) ggX5_forecastDelivered_X5_takeCopy
set_option maxRecDepth 20000 in
theorem ggX5_forecastDelivered_X5_performMany : GoodIn wsX5_forecastDelivered wsX5_performMany := goodIn_r _ [15, 16, 17, 18, 6, 19, 2, 20, 21, 22, 23, 24, 25, 26, 27, 28, 29, 30, 31, 32, 33, 34, 35, 36, 37, 38, 39, 40, 41, 42, 43, 44, 45, 46, 47, 48, 49, 50, 51, 52, 53, 54, 55, 56, 57, 58, 59, 60, 61, 62, 63, 64, 65, 66, 67, 68, 69, 70, 71, 72, 73, 74, 75, 76, 77, 78, 79, 80, 81, 82, 83, 84, 85, 86, 87, 88, 89, 90, 91, 92, 93, 94, 95, 96, 97, 98, 99, 100, 101, 102, 103, 104, 105, 106, 107, 108, 109, 110, 111, 112, 113, 114, 115, 116, 121, 122, 123, 124, 125, 126, 127, 128, 129] (by decide +kernel) (by decide +kernel)
set_option maxRecDepth 20000 in
theorem gX5_forecastDelivered_X5_performMany : GoodIn wsX5_forecastDelivered (wsV RX5 137 RX5 yX5_performMany wsX5_performMany) := goodIn_app (goodIn_of _ (by decide +kernel)) ggX5_forecastDelivered_X5_performMany
set_option maxRecDepth 20000 in
theorem ggX5_forecastDelivered_X5_putBack : GoodIn wsX5_forecastDelivered wsX5_putBack := goodIn_r _ [120, 2, 3, 121, 122, 123, 124, 125, 126, 127, 128, 129] (by decide +kernel) (by decide +kernel)
set_option maxRecDepth 20000 in
theorem gX5_forecastDelivered_X5_putBack : GoodIn wsX5_forecastDelivered (wsV RX5 146 RX5 yX5_putBack wsX5_putBack) := goodIn_app (goodIn_of _ (by decide +kernel)) ggX5_forecastDelivered_X5_putBack
theorem dX5_forecastDelivered_0 : decode cX5_forecastDelivered 0 = .ok (.aload_n 0, 1) := by decide +kernel
theorem dX5_forecastDelivered_1 : decode cX5_forecastDelivered 1 = .ok (.iconst 0, 1) := by decide +kernel
theorem dX5_forecastDelivered_2 : decode cX5_forecastDelivered 2 = .ok (.putfield 32, 3) := by decide +kernel
theorem dX5_forecastDelivered_5 : decode cX5_forecastDelivered 5 = .ok (.iload_n 1, 1) := by decide +kernel
theorem dX5_forecastDelivered_6 : decode cX5_forecastDelivered 6 = .ok (.iconst 1, 1) := by decide +kernel
theorem dX5_forecastDelivered_7 : decode cX5_forecastDelivered 7 = .ok (.sipush 300, 3) := by decide +kernel
theorem dX5_forecastDelivered_10 : decode cX5_forecastDelivered 10 = .ok (.invokestatic 39, 3) := by decide +kernel
theorem dX5_forecastDelivered_13 : decode cX5_forecastDelivered 13 = .ok (.ifCond .ne 5, 3) := by decide +kernel
theorem dX5_forecastDelivered_16 : decode cX5_forecastDelivered 16 = .ok (.iconst (-1), 1) := by decide +kernel
theorem dX5_forecastDelivered_17 : decode cX5_forecastDelivered 17 = .ok (.ireturn, 1) := by decide +kernel
theorem dX5_forecastDelivered_18 : decode cX5_forecastDelivered 18 = .ok (.aload_n 0, 1) := by decide +kernel
theorem dX5_forecastDelivered_19 : decode cX5_forecastDelivered 19 = .ok (.invokevirtual 143, 3) := by decide +kernel
theorem dX5_forecastDelivered_22 : decode cX5_forecastDelivered 22 = .ok (.aload_n 0, 1) := by decide +kernel
theorem dX5_forecastDelivered_23 : decode cX5_forecastDelivered 23 = .ok (.iload_n 1, 1) := by decide +kernel
theorem dX5_forecastDelivered_24 : decode cX5_forecastDelivered 24 = .ok (.invokevirtual 137, 3) := by decide +kernel
theorem dX5_forecastDelivered_27 : decode cX5_forecastDelivered 27 = .ok (.pop, 1) := by decide +kernel
theorem dX5_forecastDelivered_28 : decode cX5_forecastDelivered 28 = .ok (.aload_n 0, 1) := by decide +kernel
theorem dX5_forecastDelivered_29 : decode cX5_forecastDelivered 29 = .ok (.getfield 7, 3) := by decide +kernel
theorem dX5_forecastDelivered_32 : decode cX5_forecastDelivered 32 = .ok (.bipush 13, 2) := by decide +kernel
theorem dX5_forecastDelivered_34 : decode cX5_forecastDelivered 34 = .ok (.iaload, 1) := by decide +kernel
theorem dX5_forecastDelivered_35 : decode cX5_forecastDelivered 35 = .ok (.aload_n 0, 1) := by decide +kernel
theorem dX5_forecastDelivered_36 : decode cX5_forecastDelivered 36 = .ok (.getfield 13, 3) := by decide +kernel
theorem dX5_forecastDelivered_39 : decode cX5_forecastDelivered 39 = .ok (.bipush 13, 2) := by decide +kernel
theorem dX5_forecastDelivered_41 : decode cX5_forecastDelivered 41 = .ok (.iaload, 1) := by decide +kernel
theorem dX5_forecastDelivered_42 : decode cX5_forecastDelivered 42 = .ok (.isub, 1) := by decide +kernel
theorem dX5_forecastDelivered_43 : decode cX5_forecastDelivered 43 = .ok (.istore_n 2, 1) := by decide +kernel
theorem dX5_forecastDelivered_44 : decode cX5_forecastDelivered 44 = .ok (.aload_n 0, 1) := by decide +kernel
theorem dX5_forecastDelivered_45 : decode cX5_forecastDelivered 45 = .ok (.invokevirtual 146, 3) := by decide +kernel
theorem dX5_forecastDelivered_48 : decode cX5_forecastDelivered 48 = .ok (.iload_n 2, 1) := by decide +kernel
theorem dX5_forecastDelivered_49 : decode cX5_forecastDelivered 49 = .ok (.ireturn, 1) := by decide +kernel
theorem dX5_undo_0 : decode cX5_undo 0 = .ok (.aload_n 0, 1) := by decide +kernel
theorem dX5_undo_1 : decode cX5_undo 1 = .ok (.iconst 0, 1) := by decide +kernel
theorem dX5_undo_2 : decode cX5_undo 2 = .ok (.putfield 32, 3) := by decide +kernel
theorem dX5_undo_5 : decode cX5_undo 5 = .ok (.aload_n 0, 1) := by decide +kernel
theorem dX5_undo_6 : decode cX5_undo 6 = .ok (.getfield 36, 3) := by decide +kernel
theorem dX5_undo_9 : decode cX5_undo 9 = .ok (.ifCond .ne 6, 3) := by decide +kernel
theorem dX5_undo_12 : decode cX5_undo 12 = .ok (.bipush (-2), 2) := by decide +kernel
theorem dX5_undo_14 : decode cX5_undo 14 = .ok (.ireturn, 1) := by decide +kernel
theorem dX5_undo_15 : decode cX5_undo 15 = .ok (.aload_n 0, 1) := by decide +kernel
theorem dX5_undo_16 : decode cX5_undo 16 = .ok (.dup, 1) := by decide +kernel
theorem dX5_undo_17 : decode cX5_undo 17 = .ok (.getfield 36, 3) := by decide +kernel
theorem dX5_undo_20 : decode cX5_undo 20 = .ok (.iconst 1, 1) := by decide +kernel
theorem dX5_undo_21 : decode cX5_undo 21 = .ok (.isub, 1) := by decide +kernel
theorem dX5_undo_22 : decode cX5_undo 22 = .ok (.putfield 36, 3) := by decide +kernel
theorem dX5_undo_25 : decode cX5_undo 25 = .ok (.iconst 0, 1) := by decide +kernel
theorem dX5_undo_26 : decode cX5_undo 26 = .ok (.istore_n 1, 1) := by decide +kernel
theorem dX5_undo_27 : decode cX5_undo 27 = .ok (.iload_n 1, 1) := by decide +kernel
theorem dX5_undo_28 : decode cX5_undo 28 = .ok (.bipush 123, 2) := by decide +kernel
theorem dX5_undo_30 : decode cX5_undo 30 = .ok (.if_icmp .ge 29, 3) := by decide +kernel
theorem dX5_undo_33 : decode cX5_undo 33 = .ok (.aload_n 0, 1) := by decide +kernel
theorem dX5_undo_34 : decode cX5_undo 34 = .ok (.getfield 7, 3) := by decide +kernel
theorem dX5_undo_37 : decode cX5_undo 37 = .ok (.iload_n 1, 1) := by decide +kernel
theorem dX5_undo_38 : decode cX5_undo 38 = .ok (.aload_n 0, 1) := by decide +kernel
theorem dX5_undo_39 : decode cX5_undo 39 = .ok (.getfield 16, 3) := by decide +kernel
theorem dX5_undo_42 : decode cX5_undo 42 = .ok (.bipush 123, 2) := by decide +kernel
theorem dX5_undo_44 : decode cX5_undo 44 = .ok (.aload_n 0, 1) := by decide +kernel
theorem dX5_undo_45 : decode cX5_undo 45 = .ok (.getfield 36, 3) := by decide +kernel
theorem dX5_undo_48 : decode cX5_undo 48 = .ok (.imul, 1) := by decide +kernel
theorem dX5_undo_49 : decode cX5_undo 49 = .ok (.iload_n 1, 1) := by decide +kernel
theorem dX5_undo_50 : decode cX5_undo 50 = .ok (.iadd, 1) := by decide +kernel
theorem dX5_undo_51 : decode cX5_undo 51 = .ok (.iaload, 1) := by decide +kernel
theorem dX5_undo_52 : decode cX5_undo 52 = .ok (.iastore, 1) := by decide +kernel
theorem dX5_undo_53 : decode cX5_undo 53 = .ok (.iinc 1 1, 3) := by decide +kernel
theorem dX5_undo_56 : decode cX5_undo 56 = .ok (.goto (-29), 3) := by decide +kernel
theorem dX5_undo_59 : decode cX5_undo 59 = .ok (.aload_n 0, 1) := by decide +kernel
theorem dX5_undo_60 : decode cX5_undo 60 = .ok (.getfield 36, 3) := by decide +kernel
theorem dX5_undo_63 : decode cX5_undo 63 = .ok (.ireturn, 1) := by decide +kernel
theorem dX5_undoDepth_0 : decode cX5_undoDepth 0 = .ok (.aload_n 0, 1) := by decide +kernel
theorem dX5_undoDepth_1 : decode cX5_undoDepth 1 = .ok (.iconst 0, 1) := by decide +kernel
theorem dX5_undoDepth_2 : decode cX5_undoDepth 2 = .ok (.putfield 32, 3) := by decide +kernel
theorem dX5_undoDepth_5 : decode cX5_undoDepth 5 = .ok (.aload_n 0, 1) := by decide +kernel
theorem dX5_undoDepth_6 : decode cX5_undoDepth 6 = .ok (.getfield 36, 3) := by decide +kernel
theorem dX5_undoDepth_9 : decode cX5_undoDepth 9 = .ok (.ireturn, 1) := by decide +kernel
set_option maxRecDepth 20000 in
theorem ggX5_save_X5_in : GoodIn wsX5_save wsX5_in := goodIn_r _ [8] (by decide +kernel) (by decide +kernel)
set_option maxRecDepth 20000 in
theorem gX5_save_X5_in : GoodIn wsX5_save (va_wsS RX5 39 yX5_in wsX5_in) := goodIn_app (goodIn_of _ (by decide +kernel)) ggX5_save_X5_in
theorem dX5_save_0 : decode cX5_save 0 = .ok (.aload_n 0, 1) := by decide +kernel
theorem dX5_save_1 : decode cX5_save 1 = .ok (.iconst 0, 1) := by decide +kernel
theorem dX5_save_2 : decode cX5_save 2 = .ok (.putfield 32, 3) := by decide +kernel
theorem dX5_save_5 : decode cX5_save 5 = .ok (.iload_n 1, 1) := by decide +kernel
theorem dX5_save_6 : decode cX5_save 6 = .ok (.iconst 0, 1) := by decide +kernel
theorem dX5_save_7 : decode cX5_save 7 = .ok (.iconst 1, 1) := by decide +kernel
theorem dX5_save_8 : decode cX5_save 8 = .ok (.invokestatic 39, 3) := by decide +kernel
theorem dX5_save_11 : decode cX5_save 11 = .ok (.ifCond .ne 5, 3) := by decide +kernel
theorem dX5_save_14 : decode cX5_save 14 = .ok (.iconst (-1), 1) := by decide +kernel
theorem dX5_save_15 : decode cX5_save 15 = .ok (.ireturn, 1) := by decide +kernel
theorem dX5_save_16 : decode cX5_save 16 = .ok (.iconst 0, 1) := by decide +kernel
theorem dX5_save_17 : decode cX5_save 17 = .ok (.istore_n 2, 1) := by decide +kernel
theorem dX5_save_18 : decode cX5_save 18 = .ok (.iload_n 2, 1) := by decide +kernel
theorem dX5_save_19 : decode cX5_save 19 = .ok (.bipush 123, 2) := by decide +kernel
theorem dX5_save_21 : decode cX5_save 21 = .ok (.if_icmp .ge 26, 3) := by decide +kernel
theorem dX5_save_24 : decode cX5_save 24 = .ok (.aload_n 0, 1) := by decide +kernel
theorem dX5_save_25 : decode cX5_save 25 = .ok (.getfield 19, 3) := by decide +kernel
theorem dX5_save_28 : decode cX5_save 28 = .ok (.bipush 123, 2) := by decide +kernel
theorem dX5_save_30 : decode cX5_save 30 = .ok (.iload_n 1, 1) := by decide +kernel
theorem dX5_save_31 : decode cX5_save 31 = .ok (.imul, 1) := by decide +kernel
theorem dX5_save_32 : decode cX5_save 32 = .ok (.iload_n 2, 1) := by decide +kernel
theorem dX5_save_33 : decode cX5_save 33 = .ok (.iadd, 1) := by decide +kernel
theorem dX5_save_34 : decode cX5_save 34 = .ok (.aload_n 0, 1) := by decide +kernel
theorem dX5_save_35 : decode cX5_save 35 = .ok (.getfield 7, 3) := by decide +kernel
theorem dX5_save_38 : decode cX5_save 38 = .ok (.iload_n 2, 1) := by decide +kernel
theorem dX5_save_39 : decode cX5_save 39 = .ok (.iaload, 1) := by decide +kernel
theorem dX5_save_40 : decode cX5_save 40 = .ok (.iastore, 1) := by decide +kernel
theorem dX5_save_41 : decode cX5_save 41 = .ok (.iinc 2 1, 3) := by decide +kernel
theorem dX5_save_44 : decode cX5_save 44 = .ok (.goto (-26), 3) := by decide +kernel
theorem dX5_save_47 : decode cX5_save 47 = .ok (.aload_n 0, 1) := by decide +kernel
theorem dX5_save_48 : decode cX5_save 48 = .ok (.getfield 22, 3) := by decide +kernel
theorem dX5_save_51 : decode cX5_save 51 = .ok (.iload_n 1, 1) := by decide +kernel
theorem dX5_save_52 : decode cX5_save 52 = .ok (.iconst 1, 1) := by decide +kernel
theorem dX5_save_53 : decode cX5_save 53 = .ok (.bastore, 1) := by decide +kernel
theorem dX5_save_54 : decode cX5_save 54 = .ok (.aload_n 0, 1) := by decide +kernel
theorem dX5_save_55 : decode cX5_save 55 = .ok (.getfield 7, 3) := by decide +kernel
theorem dX5_save_58 : decode cX5_save 58 = .ok (.iconst 0, 1) := by decide +kernel
theorem dX5_save_59 : decode cX5_save 59 = .ok (.iaload, 1) := by decide +kernel
theorem dX5_save_60 : decode cX5_save 60 = .ok (.ireturn, 1) := by decide +kernel
set_option maxRecDepth 20000 in
theorem ggX5_restore_X5_in : GoodIn wsX5_restore wsX5_in := goodIn_r _ [9] (by decide +kernel) (by decide +kernel)
set_option maxRecDepth 20000 in
theorem gX5_restore_X5_in : GoodIn wsX5_restore (va_wsS RX5 39 yX5_in wsX5_in) := goodIn_app (goodIn_of _ (by decide +kernel)) ggX5_restore_X5_in
theorem dX5_restore_0 : decode cX5_restore 0 = .ok (.aload_n 0, 1) := by decide +kernel
theorem dX5_restore_1 : decode cX5_restore 1 = .ok (.iconst 0, 1) := by decide +kernel
theorem dX5_restore_2 : decode cX5_restore 2 = .ok (.putfield 32, 3) := by decide +kernel
theorem dX5_restore_5 : decode cX5_restore 5 = .ok (.iload_n 1, 1) := by decide +kernel
theorem dX5_restore_6 : decode cX5_restore 6 = .ok (.iconst 0, 1) := by decide +kernel
theorem dX5_restore_7 : decode cX5_restore 7 = .ok (.iconst 1, 1) := by decide +kernel
theorem dX5_restore_8 : decode cX5_restore 8 = .ok (.invokestatic 39, 3) := by decide +kernel
theorem dX5_restore_11 : decode cX5_restore 11 = .ok (.ifCond .ne 5, 3) := by decide +kernel
theorem dX5_restore_14 : decode cX5_restore 14 = .ok (.iconst (-1), 1) := by decide +kernel
theorem dX5_restore_15 : decode cX5_restore 15 = .ok (.ireturn, 1) := by decide +kernel
theorem dX5_restore_16 : decode cX5_restore 16 = .ok (.aload_n 0, 1) := by decide +kernel
theorem dX5_restore_17 : decode cX5_restore 17 = .ok (.getfield 22, 3) := by decide +kernel
theorem dX5_restore_20 : decode cX5_restore 20 = .ok (.iload_n 1, 1) := by decide +kernel
theorem dX5_restore_21 : decode cX5_restore 21 = .ok (.baload, 1) := by decide +kernel
theorem dX5_restore_22 : decode cX5_restore 22 = .ok (.ifCond .ne 6, 3) := by decide +kernel
theorem dX5_restore_25 : decode cX5_restore 25 = .ok (.bipush (-2), 2) := by decide +kernel
theorem dX5_restore_27 : decode cX5_restore 27 = .ok (.ireturn, 1) := by decide +kernel
theorem dX5_restore_28 : decode cX5_restore 28 = .ok (.iconst 0, 1) := by decide +kernel
theorem dX5_restore_29 : decode cX5_restore 29 = .ok (.istore_n 2, 1) := by decide +kernel
theorem dX5_restore_30 : decode cX5_restore 30 = .ok (.iload_n 2, 1) := by decide +kernel
theorem dX5_restore_31 : decode cX5_restore 31 = .ok (.bipush 123, 2) := by decide +kernel
theorem dX5_restore_33 : decode cX5_restore 33 = .ok (.if_icmp .ge 26, 3) := by decide +kernel
theorem dX5_restore_36 : decode cX5_restore 36 = .ok (.aload_n 0, 1) := by decide +kernel
theorem dX5_restore_37 : decode cX5_restore 37 = .ok (.getfield 7, 3) := by decide +kernel
theorem dX5_restore_40 : decode cX5_restore 40 = .ok (.iload_n 2, 1) := by decide +kernel
theorem dX5_restore_41 : decode cX5_restore 41 = .ok (.aload_n 0, 1) := by decide +kernel
theorem dX5_restore_42 : decode cX5_restore 42 = .ok (.getfield 19, 3) := by decide +kernel
theorem dX5_restore_45 : decode cX5_restore 45 = .ok (.bipush 123, 2) := by decide +kernel
theorem dX5_restore_47 : decode cX5_restore 47 = .ok (.iload_n 1, 1) := by decide +kernel
theorem dX5_restore_48 : decode cX5_restore 48 = .ok (.imul, 1) := by decide +kernel
theorem dX5_restore_49 : decode cX5_restore 49 = .ok (.iload_n 2, 1) := by decide +kernel
theorem dX5_restore_50 : decode cX5_restore 50 = .ok (.iadd, 1) := by decide +kernel
theorem dX5_restore_51 : decode cX5_restore 51 = .ok (.iaload, 1) := by decide +kernel
theorem dX5_restore_52 : decode cX5_restore 52 = .ok (.iastore, 1) := by decide +kernel
theorem dX5_restore_53 : decode cX5_restore 53 = .ok (.iinc 2 1, 3) := by decide +kernel
theorem dX5_restore_56 : decode cX5_restore 56 = .ok (.goto (-26), 3) := by decide +kernel
theorem dX5_restore_59 : decode cX5_restore 59 = .ok (.aload_n 0, 1) := by decide +kernel
theorem dX5_restore_60 : decode cX5_restore 60 = .ok (.iconst 0, 1) := by decide +kernel
theorem dX5_restore_61 : decode cX5_restore 61 = .ok (.putfield 36, 3) := by decide +kernel
theorem dX5_restore_64 : decode cX5_restore 64 = .ok (.aload_n 0, 1) := by decide +kernel
theorem dX5_restore_65 : decode cX5_restore 65 = .ok (.getfield 7, 3) := by decide +kernel
theorem dX5_restore_68 : decode cX5_restore 68 = .ok (.iconst 0, 1) := by decide +kernel
theorem dX5_restore_69 : decode cX5_restore 69 = .ok (.iaload, 1) := by decide +kernel
theorem dX5_restore_70 : decode cX5_restore 70 = .ok (.ireturn, 1) := by decide +kernel
