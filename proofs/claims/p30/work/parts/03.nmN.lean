set_option maxRecDepth 20000 in
theorem ggX0_init_X1_init : GoodIn wsX0_init wsX1_init := goodIn_r _ [10, 11, 2, 3, 12, 13, 14, 15, 16, 17, 18, 19, 20, 21, 22, 23, 24, 25, 26, 27, 28, 31, 32, 33, 34, 35, 36, 37, 38, 39, 40, 41, 42, 43, 44, 45, 46, 47, 48, 49, 50, 51, 52] (by decide +kernel) (by decide +kernel)
set_option maxRecDepth 20000 in
theorem gX0_init_X1_init : GoodIn wsX0_init (wsX1_init) := ggX0_init_X1_init
theorem dX0_init_0 : decode cX0_init 0 = .ok (.aload_n 0, 1) := by decide +kernel
theorem dX0_init_1 : decode cX0_init 1 = .ok (.invokespecial 1, 3) := by decide +kernel
theorem dX0_init_4 : decode cX0_init 4 = .ok (.aload_n 0, 1) := by decide +kernel
theorem dX0_init_5 : decode cX0_init 5 = .ok (.bipush 6, 2) := by decide +kernel
theorem dX0_init_7 : decode cX0_init 7 = .ok (.anewarray 9, 3) := by decide +kernel
theorem dX0_init_10 : decode cX0_init 10 = .ok (.putfield 11, 3) := by decide +kernel
theorem dX0_init_13 : decode cX0_init 13 = .ok (.iconst 0, 1) := by decide +kernel
theorem dX0_init_14 : decode cX0_init 14 = .ok (.istore_n 1, 1) := by decide +kernel
theorem dX0_init_15 : decode cX0_init 15 = .ok (.iload_n 1, 1) := by decide +kernel
theorem dX0_init_16 : decode cX0_init 16 = .ok (.bipush 6, 2) := by decide +kernel
theorem dX0_init_18 : decode cX0_init 18 = .ok (.if_icmp .ge 22, 3) := by decide +kernel
theorem dX0_init_21 : decode cX0_init 21 = .ok (.aload_n 0, 1) := by decide +kernel
theorem dX0_init_22 : decode cX0_init 22 = .ok (.getfield 11, 3) := by decide +kernel
theorem dX0_init_25 : decode cX0_init 25 = .ok (.iload_n 1, 1) := by decide +kernel
theorem dX0_init_26 : decode cX0_init 26 = .ok (.new 9, 3) := by decide +kernel
theorem dX0_init_29 : decode cX0_init 29 = .ok (.dup, 1) := by decide +kernel
theorem dX0_init_30 : decode cX0_init 30 = .ok (.invokespecial 15, 3) := by decide +kernel
theorem dX0_init_33 : decode cX0_init 33 = .ok (.aastore, 1) := by decide +kernel
theorem dX0_init_34 : decode cX0_init 34 = .ok (.iinc 1 1, 3) := by decide +kernel
theorem dX0_init_37 : decode cX0_init 37 = .ok (.goto (-22), 3) := by decide +kernel
theorem dX0_init_40 : decode cX0_init 40 = .ok (.return_, 1) := by decide +kernel
set_option maxRecDepth 20000 in
theorem ggX0_push_X0_dropOldest : GoodIn wsX0_push wsX0_dropOldest := goodIn_r _ [7, 2, 1, 42, 43] (by decide +kernel) (by decide +kernel)
set_option maxRecDepth 20000 in
theorem gX0_push_X0_dropOldest : GoodIn wsX0_push (wsV RX0 20 RX0 yX0_dropOldest wsX0_dropOldest) := goodIn_app (goodIn_of _ (by decide +kernel)) ggX0_push_X0_dropOldest
set_option maxRecDepth 20000 in
theorem ggX0_push_X1_copyFrom : GoodIn wsX0_push wsX1_copyFrom := goodIn_r _ [12, 13, 14, 15, 16, 17, 18, 19, 20, 21, 22, 23, 24, 25, 26, 27, 28, 29, 30, 31, 32, 33, 34, 35, 36, 37, 38, 39, 40, 41, 44, 45, 46, 47, 48, 49, 50, 51, 52, 53, 54, 55, 56, 57, 58, 59, 60, 61, 62, 63, 64, 65] (by decide +kernel) (by decide +kernel)
set_option maxRecDepth 20000 in
theorem gX0_push_X1_copyFrom : GoodIn wsX0_push (wsV RX0 23 RX1 yX1_copyFrom wsX1_copyFrom) := goodIn_app (goodIn_of _ (by decide +kernel)) ggX0_push_X1_copyFrom
theorem dX0_push_0 : decode cX0_push 0 = .ok (.aload_n 0, 1) := by decide +kernel
theorem dX0_push_1 : decode cX0_push 1 = .ok (.getfield 16, 3) := by decide +kernel
theorem dX0_push_4 : decode cX0_push 4 = .ok (.bipush 6, 2) := by decide +kernel
theorem dX0_push_6 : decode cX0_push 6 = .ok (.if_icmp .lt 7, 3) := by decide +kernel
theorem dX0_push_9 : decode cX0_push 9 = .ok (.aload_n 0, 1) := by decide +kernel
theorem dX0_push_10 : decode cX0_push 10 = .ok (.invokevirtual 20, 3) := by decide +kernel
theorem dX0_push_13 : decode cX0_push 13 = .ok (.aload_n 0, 1) := by decide +kernel
theorem dX0_push_14 : decode cX0_push 14 = .ok (.getfield 11, 3) := by decide +kernel
theorem dX0_push_17 : decode cX0_push 17 = .ok (.aload_n 0, 1) := by decide +kernel
theorem dX0_push_18 : decode cX0_push 18 = .ok (.getfield 16, 3) := by decide +kernel
theorem dX0_push_21 : decode cX0_push 21 = .ok (.aaload, 1) := by decide +kernel
theorem dX0_push_22 : decode cX0_push 22 = .ok (.aload_n 1, 1) := by decide +kernel
theorem dX0_push_23 : decode cX0_push 23 = .ok (.invokevirtual 23, 3) := by decide +kernel
theorem dX0_push_26 : decode cX0_push 26 = .ok (.aload_n 0, 1) := by decide +kernel
theorem dX0_push_27 : decode cX0_push 27 = .ok (.dup, 1) := by decide +kernel
theorem dX0_push_28 : decode cX0_push 28 = .ok (.getfield 16, 3) := by decide +kernel
theorem dX0_push_31 : decode cX0_push 31 = .ok (.iconst 1, 1) := by decide +kernel
theorem dX0_push_32 : decode cX0_push 32 = .ok (.iadd, 1) := by decide +kernel
theorem dX0_push_33 : decode cX0_push 33 = .ok (.putfield 16, 3) := by decide +kernel
theorem dX0_push_36 : decode cX0_push 36 = .ok (.return_, 1) := by decide +kernel
theorem dX0_dropOldest_0 : decode cX0_dropOldest 0 = .ok (.aload_n 0, 1) := by decide +kernel
theorem dX0_dropOldest_1 : decode cX0_dropOldest 1 = .ok (.getfield 11, 3) := by decide +kernel
theorem dX0_dropOldest_4 : decode cX0_dropOldest 4 = .ok (.iconst 0, 1) := by decide +kernel
theorem dX0_dropOldest_5 : decode cX0_dropOldest 5 = .ok (.aaload, 1) := by decide +kernel
theorem dX0_dropOldest_6 : decode cX0_dropOldest 6 = .ok (.astore_n 1, 1) := by decide +kernel
theorem dX0_dropOldest_7 : decode cX0_dropOldest 7 = .ok (.iconst 1, 1) := by decide +kernel
theorem dX0_dropOldest_8 : decode cX0_dropOldest 8 = .ok (.istore_n 2, 1) := by decide +kernel
theorem dX0_dropOldest_9 : decode cX0_dropOldest 9 = .ok (.iload_n 2, 1) := by decide +kernel
theorem dX0_dropOldest_10 : decode cX0_dropOldest 10 = .ok (.bipush 6, 2) := by decide +kernel
theorem dX0_dropOldest_12 : decode cX0_dropOldest 12 = .ok (.if_icmp .ge 23, 3) := by decide +kernel
theorem dX0_dropOldest_15 : decode cX0_dropOldest 15 = .ok (.aload_n 0, 1) := by decide +kernel
theorem dX0_dropOldest_16 : decode cX0_dropOldest 16 = .ok (.getfield 11, 3) := by decide +kernel
theorem dX0_dropOldest_19 : decode cX0_dropOldest 19 = .ok (.iload_n 2, 1) := by decide +kernel
theorem dX0_dropOldest_20 : decode cX0_dropOldest 20 = .ok (.iconst 1, 1) := by decide +kernel
theorem dX0_dropOldest_21 : decode cX0_dropOldest 21 = .ok (.isub, 1) := by decide +kernel
theorem dX0_dropOldest_22 : decode cX0_dropOldest 22 = .ok (.aload_n 0, 1) := by decide +kernel
theorem dX0_dropOldest_23 : decode cX0_dropOldest 23 = .ok (.getfield 11, 3) := by decide +kernel
theorem dX0_dropOldest_26 : decode cX0_dropOldest 26 = .ok (.iload_n 2, 1) := by decide +kernel
theorem dX0_dropOldest_27 : decode cX0_dropOldest 27 = .ok (.aaload, 1) := by decide +kernel
theorem dX0_dropOldest_28 : decode cX0_dropOldest 28 = .ok (.aastore, 1) := by decide +kernel
theorem dX0_dropOldest_29 : decode cX0_dropOldest 29 = .ok (.iinc 2 1, 3) := by decide +kernel
theorem dX0_dropOldest_32 : decode cX0_dropOldest 32 = .ok (.goto (-23), 3) := by decide +kernel
theorem dX0_dropOldest_35 : decode cX0_dropOldest 35 = .ok (.aload_n 0, 1) := by decide +kernel
theorem dX0_dropOldest_36 : decode cX0_dropOldest 36 = .ok (.getfield 11, 3) := by decide +kernel
theorem dX0_dropOldest_39 : decode cX0_dropOldest 39 = .ok (.iconst 5, 1) := by decide +kernel
theorem dX0_dropOldest_40 : decode cX0_dropOldest 40 = .ok (.aload_n 1, 1) := by decide +kernel
theorem dX0_dropOldest_41 : decode cX0_dropOldest 41 = .ok (.aastore, 1) := by decide +kernel
theorem dX0_dropOldest_42 : decode cX0_dropOldest 42 = .ok (.aload_n 0, 1) := by decide +kernel
theorem dX0_dropOldest_43 : decode cX0_dropOldest 43 = .ok (.iconst 5, 1) := by decide +kernel
theorem dX0_dropOldest_44 : decode cX0_dropOldest 44 = .ok (.putfield 16, 3) := by decide +kernel
theorem dX0_dropOldest_47 : decode cX0_dropOldest 47 = .ok (.return_, 1) := by decide +kernel
set_option maxRecDepth 20000 in
theorem ggX0_popInto_X1_copyFrom : GoodIn wsX0_popInto wsX1_copyFrom := goodIn_r _ [7, 8, 9, 10, 11, 12, 13, 14, 15, 16, 17, 18, 19, 20, 21, 22, 23, 24, 25, 26, 27, 28, 29, 30, 31, 32, 33, 34, 35, 36, 39, 40, 41, 42, 43, 44, 45, 46, 47, 48, 49, 50, 51, 52, 53, 54, 55, 56, 57, 58, 59, 60] (by decide +kernel) (by decide +kernel)
set_option maxRecDepth 20000 in
theorem gX0_popInto_X1_copyFrom : GoodIn wsX0_popInto (wsV RX0 23 RX1 yX1_copyFrom wsX1_copyFrom) := goodIn_app (goodIn_of _ (by decide +kernel)) ggX0_popInto_X1_copyFrom
theorem dX0_popInto_0 : decode cX0_popInto 0 = .ok (.aload_n 0, 1) := by decide +kernel
theorem dX0_popInto_1 : decode cX0_popInto 1 = .ok (.getfield 16, 3) := by decide +kernel
theorem dX0_popInto_4 : decode cX0_popInto 4 = .ok (.ifCond .le 26, 3) := by decide +kernel
theorem dX0_popInto_7 : decode cX0_popInto 7 = .ok (.aload_n 0, 1) := by decide +kernel
theorem dX0_popInto_8 : decode cX0_popInto 8 = .ok (.dup, 1) := by decide +kernel
theorem dX0_popInto_9 : decode cX0_popInto 9 = .ok (.getfield 16, 3) := by decide +kernel
theorem dX0_popInto_12 : decode cX0_popInto 12 = .ok (.iconst 1, 1) := by decide +kernel
theorem dX0_popInto_13 : decode cX0_popInto 13 = .ok (.isub, 1) := by decide +kernel
theorem dX0_popInto_14 : decode cX0_popInto 14 = .ok (.putfield 16, 3) := by decide +kernel
theorem dX0_popInto_17 : decode cX0_popInto 17 = .ok (.aload_n 1, 1) := by decide +kernel
theorem dX0_popInto_18 : decode cX0_popInto 18 = .ok (.aload_n 0, 1) := by decide +kernel
theorem dX0_popInto_19 : decode cX0_popInto 19 = .ok (.getfield 11, 3) := by decide +kernel
theorem dX0_popInto_22 : decode cX0_popInto 22 = .ok (.aload_n 0, 1) := by decide +kernel
theorem dX0_popInto_23 : decode cX0_popInto 23 = .ok (.getfield 16, 3) := by decide +kernel
theorem dX0_popInto_26 : decode cX0_popInto 26 = .ok (.aaload, 1) := by decide +kernel
theorem dX0_popInto_27 : decode cX0_popInto 27 = .ok (.invokevirtual 23, 3) := by decide +kernel
theorem dX0_popInto_30 : decode cX0_popInto 30 = .ok (.return_, 1) := by decide +kernel
set_option maxRecDepth 20000 in
theorem ggX1_init_X3_init : GoodIn wsX1_init wsX3_init := goodIn_r _ [19, 20, 2, 3] (by decide +kernel) (by decide +kernel)
set_option maxRecDepth 20000 in
theorem gX1_init_X3_init_n31 : GoodIn wsX1_init (wsX3_init) := ggX1_init_X3_init
theorem dX1_init_0 : decode cX1_init 0 = .ok (.aload_n 0, 1) := by decide +kernel
theorem dX1_init_1 : decode cX1_init 1 = .ok (.invokespecial 3, 3) := by decide +kernel
theorem dX1_init_4 : decode cX1_init 4 = .ok (.aload_n 0, 1) := by decide +kernel
theorem dX1_init_5 : decode cX1_init 5 = .ok (.bipush 12, 2) := by decide +kernel
theorem dX1_init_7 : decode cX1_init 7 = .ok (.anewarray 9, 3) := by decide +kernel
theorem dX1_init_10 : decode cX1_init 10 = .ok (.putfield 11, 3) := by decide +kernel
theorem dX1_init_13 : decode cX1_init 13 = .ok (.aload_n 0, 1) := by decide +kernel
theorem dX1_init_14 : decode cX1_init 14 = .ok (.bipush 6, 2) := by decide +kernel
theorem dX1_init_16 : decode cX1_init 16 = .ok (.newarray .int, 2) := by decide +kernel
theorem dX1_init_18 : decode cX1_init 18 = .ok (.putfield 17, 3) := by decide +kernel
theorem dX1_init_21 : decode cX1_init 21 = .ok (.aload_n 0, 1) := by decide +kernel
theorem dX1_init_22 : decode cX1_init 22 = .ok (.bipush 50, 2) := by decide +kernel
theorem dX1_init_24 : decode cX1_init 24 = .ok (.putfield 21, 3) := by decide +kernel
theorem dX1_init_27 : decode cX1_init 27 = .ok (.aload_n 0, 1) := by decide +kernel
theorem dX1_init_28 : decode cX1_init 28 = .ok (.sipush 150, 3) := by decide +kernel
theorem dX1_init_31 : decode cX1_init 31 = .ok (.putfield 25, 3) := by decide +kernel
theorem dX1_init_34 : decode cX1_init 34 = .ok (.aload_n 0, 1) := by decide +kernel
theorem dX1_init_35 : decode cX1_init 35 = .ok (.iconst 1, 1) := by decide +kernel
theorem dX1_init_36 : decode cX1_init 36 = .ok (.putfield 28, 3) := by decide +kernel
theorem dX1_init_39 : decode cX1_init 39 = .ok (.iconst 0, 1) := by decide +kernel
theorem dX1_init_40 : decode cX1_init 40 = .ok (.istore_n 1, 1) := by decide +kernel
theorem dX1_init_41 : decode cX1_init 41 = .ok (.iload_n 1, 1) := by decide +kernel
theorem dX1_init_42 : decode cX1_init 42 = .ok (.bipush 12, 2) := by decide +kernel
theorem dX1_init_44 : decode cX1_init 44 = .ok (.if_icmp .ge 22, 3) := by decide +kernel
theorem dX1_init_47 : decode cX1_init 47 = .ok (.aload_n 0, 1) := by decide +kernel
theorem dX1_init_48 : decode cX1_init 48 = .ok (.getfield 11, 3) := by decide +kernel
theorem dX1_init_51 : decode cX1_init 51 = .ok (.iload_n 1, 1) := by decide +kernel
theorem dX1_init_52 : decode cX1_init 52 = .ok (.new 9, 3) := by decide +kernel
theorem dX1_init_55 : decode cX1_init 55 = .ok (.dup, 1) := by decide +kernel
theorem dX1_init_56 : decode cX1_init 56 = .ok (.invokespecial 31, 3) := by decide +kernel
theorem dX1_init_59 : decode cX1_init 59 = .ok (.aastore, 1) := by decide +kernel
theorem dX1_init_60 : decode cX1_init 60 = .ok (.iinc 1 1, 3) := by decide +kernel
theorem dX1_init_63 : decode cX1_init 63 = .ok (.goto (-22), 3) := by decide +kernel
theorem dX1_init_66 : decode cX1_init 66 = .ok (.getstatic 32, 3) := by decide +kernel
theorem dX1_init_69 : decode cX1_init 69 = .ok (.iconst 0, 1) := by decide +kernel
theorem dX1_init_70 : decode cX1_init 70 = .ok (.aload_n 0, 1) := by decide +kernel
theorem dX1_init_71 : decode cX1_init 71 = .ok (.getfield 17, 3) := by decide +kernel
theorem dX1_init_74 : decode cX1_init 74 = .ok (.iconst 0, 1) := by decide +kernel
theorem dX1_init_75 : decode cX1_init 75 = .ok (.bipush 6, 2) := by decide +kernel
theorem dX1_init_77 : decode cX1_init 77 = .ok (.invokestatic 35, 3) := by decide +kernel
theorem dX1_init_80 : decode cX1_init 80 = .ok (.return_, 1) := by decide +kernel
set_option maxRecDepth 20000 in
theorem ggX1_copyFrom_X3_copyFrom : GoodIn wsX1_copyFrom wsX3_copyFrom := goodIn_r _ [20, 21, 22, 23, 24, 25, 26, 27, 28, 29, 41, 42, 43, 44, 45, 46, 47, 48, 49, 50, 51] (by decide +kernel) (by decide +kernel)
set_option maxRecDepth 20000 in
theorem gX1_copyFrom_X3_copyFrom : GoodIn wsX1_copyFrom (wsV RX1 44 RX3 yX3_copyFrom wsX3_copyFrom) := goodIn_app (goodIn_of _ (by decide +kernel)) ggX1_copyFrom_X3_copyFrom
theorem dX1_copyFrom_0 : decode cX1_copyFrom 0 = .ok (.aload_n 0, 1) := by decide +kernel
theorem dX1_copyFrom_1 : decode cX1_copyFrom 1 = .ok (.aload_n 1, 1) := by decide +kernel
theorem dX1_copyFrom_2 : decode cX1_copyFrom 2 = .ok (.getfield 41, 3) := by decide +kernel
theorem dX1_copyFrom_5 : decode cX1_copyFrom 5 = .ok (.putfield 41, 3) := by decide +kernel
theorem dX1_copyFrom_8 : decode cX1_copyFrom 8 = .ok (.iconst 0, 1) := by decide +kernel
theorem dX1_copyFrom_9 : decode cX1_copyFrom 9 = .ok (.istore_n 2, 1) := by decide +kernel
theorem dX1_copyFrom_10 : decode cX1_copyFrom 10 = .ok (.iload_n 2, 1) := by decide +kernel
theorem dX1_copyFrom_11 : decode cX1_copyFrom 11 = .ok (.aload_n 0, 1) := by decide +kernel
theorem dX1_copyFrom_12 : decode cX1_copyFrom 12 = .ok (.getfield 41, 3) := by decide +kernel
theorem dX1_copyFrom_15 : decode cX1_copyFrom 15 = .ok (.if_icmp .ge 24, 3) := by decide +kernel
theorem dX1_copyFrom_18 : decode cX1_copyFrom 18 = .ok (.aload_n 0, 1) := by decide +kernel
theorem dX1_copyFrom_19 : decode cX1_copyFrom 19 = .ok (.getfield 11, 3) := by decide +kernel
theorem dX1_copyFrom_22 : decode cX1_copyFrom 22 = .ok (.iload_n 2, 1) := by decide +kernel
theorem dX1_copyFrom_23 : decode cX1_copyFrom 23 = .ok (.aaload, 1) := by decide +kernel
theorem dX1_copyFrom_24 : decode cX1_copyFrom 24 = .ok (.aload_n 1, 1) := by decide +kernel
theorem dX1_copyFrom_25 : decode cX1_copyFrom 25 = .ok (.getfield 11, 3) := by decide +kernel
theorem dX1_copyFrom_28 : decode cX1_copyFrom 28 = .ok (.iload_n 2, 1) := by decide +kernel
theorem dX1_copyFrom_29 : decode cX1_copyFrom 29 = .ok (.aaload, 1) := by decide +kernel
theorem dX1_copyFrom_30 : decode cX1_copyFrom 30 = .ok (.invokevirtual 44, 3) := by decide +kernel
theorem dX1_copyFrom_33 : decode cX1_copyFrom 33 = .ok (.iinc 2 1, 3) := by decide +kernel
theorem dX1_copyFrom_36 : decode cX1_copyFrom 36 = .ok (.goto (-26), 3) := by decide +kernel
theorem dX1_copyFrom_39 : decode cX1_copyFrom 39 = .ok (.aload_n 1, 1) := by decide +kernel
theorem dX1_copyFrom_40 : decode cX1_copyFrom 40 = .ok (.getfield 17, 3) := by decide +kernel
theorem dX1_copyFrom_43 : decode cX1_copyFrom 43 = .ok (.iconst 0, 1) := by decide +kernel
theorem dX1_copyFrom_44 : decode cX1_copyFrom 44 = .ok (.aload_n 0, 1) := by decide +kernel
theorem dX1_copyFrom_45 : decode cX1_copyFrom 45 = .ok (.getfield 17, 3) := by decide +kernel
theorem dX1_copyFrom_48 : decode cX1_copyFrom 48 = .ok (.iconst 0, 1) := by decide +kernel
theorem dX1_copyFrom_49 : decode cX1_copyFrom 49 = .ok (.bipush 6, 2) := by decide +kernel
theorem dX1_copyFrom_51 : decode cX1_copyFrom 51 = .ok (.invokestatic 35, 3) := by decide +kernel
theorem dX1_copyFrom_54 : decode cX1_copyFrom 54 = .ok (.aload_n 0, 1) := by decide +kernel
theorem dX1_copyFrom_55 : decode cX1_copyFrom 55 = .ok (.aload_n 1, 1) := by decide +kernel
theorem dX1_copyFrom_56 : decode cX1_copyFrom 56 = .ok (.getfield 21, 3) := by decide +kernel
theorem dX1_copyFrom_59 : decode cX1_copyFrom 59 = .ok (.putfield 21, 3) := by decide +kernel
theorem dX1_copyFrom_62 : decode cX1_copyFrom 62 = .ok (.aload_n 0, 1) := by decide +kernel
theorem dX1_copyFrom_63 : decode cX1_copyFrom 63 = .ok (.aload_n 1, 1) := by decide +kernel
theorem dX1_copyFrom_64 : decode cX1_copyFrom 64 = .ok (.getfield 25, 3) := by decide +kernel
theorem dX1_copyFrom_67 : decode cX1_copyFrom 67 = .ok (.putfield 25, 3) := by decide +kernel
theorem dX1_copyFrom_70 : decode cX1_copyFrom 70 = .ok (.aload_n 0, 1) := by decide +kernel
theorem dX1_copyFrom_71 : decode cX1_copyFrom 71 = .ok (.aload_n 1, 1) := by decide +kernel
theorem dX1_copyFrom_72 : decode cX1_copyFrom 72 = .ok (.getfield 28, 3) := by decide +kernel
theorem dX1_copyFrom_75 : decode cX1_copyFrom 75 = .ok (.putfield 28, 3) := by decide +kernel
theorem dX1_copyFrom_78 : decode cX1_copyFrom 78 = .ok (.aload_n 0, 1) := by decide +kernel
theorem dX1_copyFrom_79 : decode cX1_copyFrom 79 = .ok (.aload_n 1, 1) := by decide +kernel
theorem dX1_copyFrom_80 : decode cX1_copyFrom 80 = .ok (.getfield 48, 3) := by decide +kernel
theorem dX1_copyFrom_83 : decode cX1_copyFrom 83 = .ok (.putfield 48, 3) := by decide +kernel
theorem dX1_copyFrom_86 : decode cX1_copyFrom 86 = .ok (.aload_n 0, 1) := by decide +kernel
theorem dX1_copyFrom_87 : decode cX1_copyFrom 87 = .ok (.aload_n 1, 1) := by decide +kernel
theorem dX1_copyFrom_88 : decode cX1_copyFrom 88 = .ok (.getfield 51, 3) := by decide +kernel
theorem dX1_copyFrom_91 : decode cX1_copyFrom 91 = .ok (.putfield 51, 3) := by decide +kernel
theorem dX1_copyFrom_94 : decode cX1_copyFrom 94 = .ok (.aload_n 0, 1) := by decide +kernel
theorem dX1_copyFrom_95 : decode cX1_copyFrom 95 = .ok (.aload_n 1, 1) := by decide +kernel
theorem dX1_copyFrom_96 : decode cX1_copyFrom 96 = .ok (.getfield 54, 3) := by decide +kernel
theorem dX1_copyFrom_99 : decode cX1_copyFrom 99 = .ok (.putfield 54, 3) := by decide +kernel
theorem dX1_copyFrom_102 : decode cX1_copyFrom 102 = .ok (.aload_n 0, 1) := by decide +kernel
theorem dX1_copyFrom_103 : decode cX1_copyFrom 103 = .ok (.aload_n 1, 1) := by decide +kernel
theorem dX1_copyFrom_104 : decode cX1_copyFrom 104 = .ok (.getfield 57, 3) := by decide +kernel
theorem dX1_copyFrom_107 : decode cX1_copyFrom 107 = .ok (.putfield 57, 3) := by decide +kernel
theorem dX1_copyFrom_110 : decode cX1_copyFrom 110 = .ok (.aload_n 0, 1) := by decide +kernel
theorem dX1_copyFrom_111 : decode cX1_copyFrom 111 = .ok (.aload_n 1, 1) := by decide +kernel
theorem dX1_copyFrom_112 : decode cX1_copyFrom 112 = .ok (.getfield 60, 3) := by decide +kernel
theorem dX1_copyFrom_115 : decode cX1_copyFrom 115 = .ok (.putfield 60, 3) := by decide +kernel
theorem dX1_copyFrom_118 : decode cX1_copyFrom 118 = .ok (.return_, 1) := by decide +kernel
theorem dX1_has_0 : decode cX1_has 0 = .ok (.iload_n 1, 1) := by decide +kernel
theorem dX1_has_1 : decode cX1_has 1 = .ok (.ifCond .lt 15, 3) := by decide +kernel
theorem dX1_has_4 : decode cX1_has 4 = .ok (.iload_n 1, 1) := by decide +kernel
theorem dX1_has_5 : decode cX1_has 5 = .ok (.aload_n 0, 1) := by decide +kernel
theorem dX1_has_6 : decode cX1_has 6 = .ok (.getfield 41, 3) := by decide +kernel
theorem dX1_has_9 : decode cX1_has 9 = .ok (.if_icmp .ge 7, 3) := by decide +kernel
theorem dX1_has_12 : decode cX1_has 12 = .ok (.iconst 1, 1) := by decide +kernel
theorem dX1_has_13 : decode cX1_has 13 = .ok (.goto 4, 3) := by decide +kernel
theorem dX1_has_16 : decode cX1_has 16 = .ok (.iconst 0, 1) := by decide +kernel
theorem dX1_has_17 : decode cX1_has 17 = .ok (.ireturn, 1) := by decide +kernel
theorem dX1_countAlive_0 : decode cX1_countAlive 0 = .ok (.iconst 0, 1) := by decide +kernel
theorem dX1_countAlive_1 : decode cX1_countAlive 1 = .ok (.istore_n 1, 1) := by decide +kernel
theorem dX1_countAlive_2 : decode cX1_countAlive 2 = .ok (.iconst 0, 1) := by decide +kernel
theorem dX1_countAlive_3 : decode cX1_countAlive 3 = .ok (.istore_n 2, 1) := by decide +kernel
theorem dX1_countAlive_4 : decode cX1_countAlive 4 = .ok (.iload_n 2, 1) := by decide +kernel
theorem dX1_countAlive_5 : decode cX1_countAlive 5 = .ok (.aload_n 0, 1) := by decide +kernel
theorem dX1_countAlive_6 : decode cX1_countAlive 6 = .ok (.getfield 41, 3) := by decide +kernel
theorem dX1_countAlive_9 : decode cX1_countAlive 9 = .ok (.if_icmp .ge 24, 3) := by decide +kernel
theorem dX1_countAlive_12 : decode cX1_countAlive 12 = .ok (.aload_n 0, 1) := by decide +kernel
theorem dX1_countAlive_13 : decode cX1_countAlive 13 = .ok (.getfield 11, 3) := by decide +kernel
theorem dX1_countAlive_16 : decode cX1_countAlive 16 = .ok (.iload_n 2, 1) := by decide +kernel
theorem dX1_countAlive_17 : decode cX1_countAlive 17 = .ok (.aaload, 1) := by decide +kernel
theorem dX1_countAlive_18 : decode cX1_countAlive 18 = .ok (.getfield 63, 3) := by decide +kernel
theorem dX1_countAlive_21 : decode cX1_countAlive 21 = .ok (.ifCond .eq 6, 3) := by decide +kernel
theorem dX1_countAlive_24 : decode cX1_countAlive 24 = .ok (.iinc 1 1, 3) := by decide +kernel
theorem dX1_countAlive_27 : decode cX1_countAlive 27 = .ok (.iinc 2 1, 3) := by decide +kernel
theorem dX1_countAlive_30 : decode cX1_countAlive 30 = .ok (.goto (-26), 3) := by decide +kernel
theorem dX1_countAlive_33 : decode cX1_countAlive 33 = .ok (.iload_n 1, 1) := by decide +kernel
theorem dX1_countAlive_34 : decode cX1_countAlive 34 = .ok (.ireturn, 1) := by decide +kernel
theorem dX1_phase_0 : decode cX1_phase 0 = .ok (.aload_n 0, 1) := by decide +kernel
theorem dX1_phase_1 : decode cX1_phase 1 = .ok (.getfield 17, 3) := by decide +kernel
theorem dX1_phase_4 : decode cX1_phase 4 = .ok (.iconst 0, 1) := by decide +kernel
theorem dX1_phase_5 : decode cX1_phase 5 = .ok (.iaload, 1) := by decide +kernel
theorem dX1_phase_6 : decode cX1_phase 6 = .ok (.istore_n 1, 1) := by decide +kernel
theorem dX1_phase_7 : decode cX1_phase 7 = .ok (.iload_n 1, 1) := by decide +kernel
theorem dX1_phase_8 : decode cX1_phase 8 = .ok (.ifCond .le 12, 3) := by decide +kernel
theorem dX1_phase_11 : decode cX1_phase 11 = .ok (.aload_n 0, 1) := by decide +kernel
theorem dX1_phase_12 : decode cX1_phase 12 = .ok (.getfield 48, 3) := by decide +kernel
theorem dX1_phase_15 : decode cX1_phase 15 = .ok (.iload_n 1, 1) := by decide +kernel
theorem dX1_phase_16 : decode cX1_phase 16 = .ok (.irem, 1) := by decide +kernel
theorem dX1_phase_17 : decode cX1_phase 17 = .ok (.goto 4, 3) := by decide +kernel
theorem dX1_phase_20 : decode cX1_phase 20 = .ok (.iconst 0, 1) := by decide +kernel
theorem dX1_phase_21 : decode cX1_phase 21 = .ok (.ireturn, 1) := by decide +kernel
theorem dX1_costOver_0 : decode cX1_costOver 0 = .ok (.aload_n 0, 1) := by decide +kernel
theorem dX1_costOver_1 : decode cX1_costOver 1 = .ok (.getfield 17, 3) := by decide +kernel
theorem dX1_costOver_4 : decode cX1_costOver 4 = .ok (.iconst 2, 1) := by decide +kernel
theorem dX1_costOver_5 : decode cX1_costOver 5 = .ok (.iaload, 1) := by decide +kernel
theorem dX1_costOver_6 : decode cX1_costOver 6 = .ok (.istore_n 2, 1) := by decide +kernel
theorem dX1_costOver_7 : decode cX1_costOver 7 = .ok (.aload_n 0, 1) := by decide +kernel
theorem dX1_costOver_8 : decode cX1_costOver 8 = .ok (.getfield 17, 3) := by decide +kernel
theorem dX1_costOver_11 : decode cX1_costOver 11 = .ok (.iconst 1, 1) := by decide +kernel
theorem dX1_costOver_12 : decode cX1_costOver 12 = .ok (.iaload, 1) := by decide +kernel
theorem dX1_costOver_13 : decode cX1_costOver 13 = .ok (.iload_n 2, 1) := by decide +kernel
theorem dX1_costOver_14 : decode cX1_costOver 14 = .ok (.ifCond .le 9, 3) := by decide +kernel
theorem dX1_costOver_17 : decode cX1_costOver 17 = .ok (.iload_n 1, 1) := by decide +kernel
theorem dX1_costOver_18 : decode cX1_costOver 18 = .ok (.iload_n 2, 1) := by decide +kernel
theorem dX1_costOver_19 : decode cX1_costOver 19 = .ok (.idiv, 1) := by decide +kernel
theorem dX1_costOver_20 : decode cX1_costOver 20 = .ok (.goto 4, 3) := by decide +kernel
theorem dX1_costOver_23 : decode cX1_costOver 23 = .ok (.iconst 0, 1) := by decide +kernel
theorem dX1_costOver_24 : decode cX1_costOver 24 = .ok (.iadd, 1) := by decide +kernel
theorem dX1_costOver_25 : decode cX1_costOver 25 = .ok (.ireturn, 1) := by decide +kernel
theorem dX2_init_0 : decode cX2_init 0 = .ok (.aload_n 0, 1) := by decide +kernel
theorem dX2_init_1 : decode cX2_init 1 = .ok (.invokespecial 3, 3) := by decide +kernel
theorem dX2_init_4 : decode cX2_init 4 = .ok (.aload_n 0, 1) := by decide +kernel
theorem dX2_init_5 : decode cX2_init 5 = .ok (.aload_n 1, 1) := by decide +kernel
theorem dX2_init_6 : decode cX2_init 6 = .ok (.putfield 9, 3) := by decide +kernel
theorem dX2_init_9 : decode cX2_init 9 = .ok (.return_, 1) := by decide +kernel
set_option maxRecDepth 20000 in
theorem ggX2_perform_X1_countAlive : GoodIn wsX2_perform wsX1_countAlive := goodIn_r _ [6, 7, 8, 9, 151, 152, 153, 154, 155, 156, 157, 158, 159, 160, 161, 162, 163, 164, 165, 166, 167, 168, 169, 170, 171, 172] (by decide +kernel) (by decide +kernel)
set_option maxRecDepth 20000 in
theorem gX2_perform_X1_countAlive : GoodIn wsX2_perform (wsV RX2 15 RX1 yX1_countAlive wsX1_countAlive) := goodIn_app (goodIn_of _ (by decide +kernel)) ggX2_perform_X1_countAlive
set_option maxRecDepth 20000 in
theorem ggX2_perform_X2_performOne : GoodIn wsX2_perform wsX2_performOne := goodIn_r _ [14, 1, 15, 16, 17, 18, 19, 20, 21, 13, 22, 23, 24, 25, 26, 27, 28, 5, 29, 30, 31, 32, 33, 34, 35, 36, 37, 38, 39, 40, 41, 42, 43, 44, 45, 46, 47, 48, 49, 50, 51, 52, 53, 54, 55, 56, 57, 58, 59, 60, 61, 62, 63, 64, 65, 66, 67, 68, 69, 70, 71, 72, 73, 74, 75, 76, 77, 78, 79, 80, 81, 82, 83, 84, 85, 86, 87, 88, 89, 90, 91, 92, 93, 94, 95, 96, 97, 98, 99, 100, 101, 102, 103, 104, 105, 106, 107, 108, 109, 110, 111, 112, 113, 114, 115, 116, 117, 118, 119, 120, 121, 122, 123, 124, 125, 126, 127, 128, 129, 130, 131, 132, 133, 134, 135, 136, 137, 138, 139, 140, 141, 142, 143, 144, 145, 7, 146, 147, 148, 149, 150, 151, 152, 153, 154, 155, 156, 157, 158, 159, 160, 161, 162, 163, 164, 165, 166, 167, 168, 169, 170, 171, 172] (by decide +kernel) (by decide +kernel)
set_option maxRecDepth 20000 in
theorem gX2_perform_X2_performOne : GoodIn wsX2_perform (wsV RX2 21 RX2 yX2_performOne wsX2_performOne) := goodIn_app (goodIn_of _ (by decide +kernel)) ggX2_perform_X2_performOne
theorem dX2_perform_0 : decode cX2_perform 0 = .ok (.iconst 0, 1) := by decide +kernel
theorem dX2_perform_1 : decode cX2_perform 1 = .ok (.istore_n 2, 1) := by decide +kernel
theorem dX2_perform_2 : decode cX2_perform 2 = .ok (.iload_n 2, 1) := by decide +kernel
theorem dX2_perform_3 : decode cX2_perform 3 = .ok (.iload_n 1, 1) := by decide +kernel
theorem dX2_perform_4 : decode cX2_perform 4 = .ok (.if_icmp .ge 23, 3) := by decide +kernel
theorem dX2_perform_7 : decode cX2_perform 7 = .ok (.aload_n 0, 1) := by decide +kernel
theorem dX2_perform_8 : decode cX2_perform 8 = .ok (.getfield 9, 3) := by decide +kernel
theorem dX2_perform_11 : decode cX2_perform 11 = .ok (.invokevirtual 15, 3) := by decide +kernel
theorem dX2_perform_14 : decode cX2_perform 14 = .ok (.ifCond .le 13, 3) := by decide +kernel
theorem dX2_perform_17 : decode cX2_perform 17 = .ok (.aload_n 0, 1) := by decide +kernel
theorem dX2_perform_18 : decode cX2_perform 18 = .ok (.invokevirtual 21, 3) := by decide +kernel
theorem dX2_perform_21 : decode cX2_perform 21 = .ok (.iinc 2 1, 3) := by decide +kernel
theorem dX2_perform_24 : decode cX2_perform 24 = .ok (.goto (-22), 3) := by decide +kernel
theorem dX2_perform_27 : decode cX2_perform 27 = .ok (.iload_n 2, 1) := by decide +kernel
theorem dX2_perform_28 : decode cX2_perform 28 = .ok (.ireturn, 1) := by decide +kernel
set_option maxRecDepth 20000 in
theorem ggX2_performOne_X2_begin : GoodIn wsX2_performOne wsX2_begin := goodIn_r _ [10, 1, 11, 12, 13, 2, 4, 14, 15, 16, 17, 18, 19, 20, 21, 22, 23, 24, 25, 26, 27, 28, 29, 140, 141, 142, 143, 144, 145, 146, 147, 148, 149, 150, 151, 152, 153, 154, 155, 156, 157, 158, 159, 160, 161, 162] (by decide +kernel) (by decide +kernel)
set_option maxRecDepth 20000 in
theorem gX2_performOne_X2_begin : GoodIn wsX2_performOne (wsV RX2 24 RX2 yX2_begin wsX2_begin) := goodIn_app (goodIn_of _ (by decide +kernel)) ggX2_performOne_X2_begin
set_option maxRecDepth 20000 in
theorem ggX2_performOne_X2_elect : GoodIn wsX2_performOne wsX2_elect := goodIn_r _ [33, 1, 34, 11, 12, 35, 13, 36, 14, 15, 16, 17, 18, 19, 20, 37, 38, 39, 9, 40, 41, 42, 43, 44, 45, 140, 141, 142, 143, 144, 145, 146, 147, 148, 149, 150, 151, 152, 153, 154, 155, 156, 157, 158, 159, 160, 161, 162] (by decide +kernel) (by decide +kernel)
set_option maxRecDepth 20000 in
theorem gX2_performOne_X2_elect : GoodIn wsX2_performOne (wsV RX2 27 RX2 yX2_elect wsX2_elect) := goodIn_app (goodIn_of _ (by decide +kernel)) ggX2_performOne_X2_elect
set_option maxRecDepth 20000 in
theorem ggX2_performOne_X2_announce : GoodIn wsX2_performOne wsX2_announce := goodIn_r _ [49, 1, 11, 12, 36, 34, 50, 13, 51, 2, 52, 53, 54, 9, 55, 56, 35, 5, 57, 58, 140, 141, 142, 143, 144, 145, 146, 147, 148, 149, 150, 151, 152, 153, 154, 155, 156, 157, 158, 159, 160, 161, 162] (by decide +kernel) (by decide +kernel)
set_option maxRecDepth 20000 in
theorem gX2_performOne_X2_announce : GoodIn wsX2_performOne (wsV RX2 30 RX2 yX2_announce wsX2_announce) := goodIn_app (goodIn_of _ (by decide +kernel)) ggX2_performOne_X2_announce
set_option maxRecDepth 20000 in
theorem ggX2_performOne_X2_reportToBase : GoodIn wsX2_performOne wsX2_reportToBase := goodIn_r _ [62, 1, 11, 12, 35, 63, 64, 65, 9, 66, 67, 68, 4, 69, 70, 71, 24, 72, 73, 74, 75, 76, 77, 17, 78, 19, 52, 53, 54, 55, 56, 5, 57, 58, 140, 141, 142, 143, 144, 145, 146, 147, 148, 149, 150, 151, 152, 153, 154, 155, 156, 157, 158, 159, 160, 161, 162] (by decide +kernel) (by decide +kernel)
set_option maxRecDepth 20000 in
theorem gX2_performOne_X2_reportToBase : GoodIn wsX2_performOne (wsV RX2 37 RX2 yX2_reportToBase wsX2_reportToBase) := goodIn_app (goodIn_of _ (by decide +kernel)) ggX2_performOne_X2_reportToBase
set_option maxRecDepth 20000 in
theorem ggX2_performOne_X2_join : GoodIn wsX2_performOne wsX2_join := goodIn_r _ [82, 1, 11, 12, 35, 50, 83, 84, 85, 86, 87, 9, 88, 89, 90, 91, 92, 69, 70, 71, 24, 72, 73, 74, 93, 94, 95, 96, 97, 98, 99, 100, 101, 102, 103, 104, 105, 140, 141, 142, 143, 144, 145, 146, 147, 148, 149, 150, 151, 152, 153, 154, 155, 156, 157, 158, 159, 160, 161, 162] (by decide +kernel) (by decide +kernel)
set_option maxRecDepth 20000 in
theorem gX2_performOne_X2_join : GoodIn wsX2_performOne (wsV RX2 40 RX2 yX2_join wsX2_join) := goodIn_app (goodIn_of _ (by decide +kernel)) ggX2_performOne_X2_join
set_option maxRecDepth 20000 in
theorem ggX2_performOne_X2_reportToHeads : GoodIn wsX2_performOne wsX2_reportToHeads := goodIn_r _ [109, 1, 11, 93, 94, 95, 9, 96, 12, 50, 110, 111, 112, 113, 35, 114, 102, 103, 104, 105, 115, 116, 117, 118, 83, 84, 34, 69, 70, 71, 24, 72, 73, 74, 75, 76, 77, 17, 78, 19, 52, 53, 54, 55, 56, 5, 57, 58, 140, 141, 142, 143, 144, 145, 146, 147, 148, 149, 150, 151, 152, 153, 154, 155, 156, 157, 158, 159, 160, 161, 162] (by decide +kernel) (by decide +kernel)
set_option maxRecDepth 20000 in
theorem gX2_performOne_X2_reportToHeads : GoodIn wsX2_performOne (wsV RX2 43 RX2 yX2_reportToHeads wsX2_reportToHeads) := goodIn_app (goodIn_of _ (by decide +kernel)) ggX2_performOne_X2_reportToHeads
set_option maxRecDepth 20000 in
theorem ggX2_performOne_X2_addOwnReadings : GoodIn wsX2_performOne wsX2_addOwnReadings := goodIn_r _ [122, 1, 11, 12, 34, 114, 89, 90, 91, 9, 92, 35, 50, 52, 53, 54, 55, 56, 5, 57, 58, 140, 141, 142, 143, 144, 145, 146, 147, 148, 149, 150, 151, 152, 153, 154, 155, 156, 157, 158, 159, 160, 161, 162] (by decide +kernel) (by decide +kernel)
set_option maxRecDepth 20000 in
theorem gX2_performOne_X2_addOwnReadings : GoodIn wsX2_performOne (wsV RX2 46 RX2 yX2_addOwnReadings wsX2_addOwnReadings) := goodIn_app (goodIn_of _ (by decide +kernel)) ggX2_performOne_X2_addOwnReadings
set_option maxRecDepth 20000 in
theorem ggX2_performOne_X2_deliver : GoodIn wsX2_performOne wsX2_deliver := goodIn_r _ [126, 1, 34, 127, 128, 129, 9, 130, 67, 68, 12, 11, 114, 35, 85, 86, 87, 88, 89, 90, 91, 92, 50, 69, 70, 71, 24, 72, 73, 74, 131, 132, 133, 17, 134, 135, 115, 116, 117, 118, 83, 84, 75, 76, 77, 78, 19, 52, 53, 54, 55, 56, 5, 57, 58, 63, 64, 65, 66, 4, 136, 137, 138, 139, 140, 141, 142, 143, 144, 145, 146, 147, 148, 149, 150, 151, 152, 153, 154, 155, 156, 157, 158, 159, 160, 161, 162] (by decide +kernel) (by decide +kernel)
set_option maxRecDepth 20000 in
theorem gX2_performOne_X2_deliver : GoodIn wsX2_performOne (wsV RX2 49 RX2 yX2_deliver wsX2_deliver) := goodIn_app (goodIn_of _ (by decide +kernel)) ggX2_performOne_X2_deliver
theorem dX2_performOne_0 : decode cX2_performOne 0 = .ok (.aload_n 0, 1) := by decide +kernel
theorem dX2_performOne_1 : decode cX2_performOne 1 = .ok (.invokevirtual 24, 3) := by decide +kernel
theorem dX2_performOne_4 : decode cX2_performOne 4 = .ok (.aload_n 0, 1) := by decide +kernel
theorem dX2_performOne_5 : decode cX2_performOne 5 = .ok (.invokevirtual 27, 3) := by decide +kernel
theorem dX2_performOne_8 : decode cX2_performOne 8 = .ok (.aload_n 0, 1) := by decide +kernel
theorem dX2_performOne_9 : decode cX2_performOne 9 = .ok (.invokevirtual 30, 3) := by decide +kernel
theorem dX2_performOne_12 : decode cX2_performOne 12 = .ok (.aload_n 0, 1) := by decide +kernel
theorem dX2_performOne_13 : decode cX2_performOne 13 = .ok (.getfield 9, 3) := by decide +kernel
theorem dX2_performOne_16 : decode cX2_performOne 16 = .ok (.getfield 33, 3) := by decide +kernel
theorem dX2_performOne_19 : decode cX2_performOne 19 = .ok (.ifCond .ne 10, 3) := by decide +kernel
theorem dX2_performOne_22 : decode cX2_performOne 22 = .ok (.aload_n 0, 1) := by decide +kernel
theorem dX2_performOne_23 : decode cX2_performOne 23 = .ok (.invokevirtual 37, 3) := by decide +kernel
theorem dX2_performOne_26 : decode cX2_performOne 26 = .ok (.goto 19, 3) := by decide +kernel
theorem dX2_performOne_29 : decode cX2_performOne 29 = .ok (.aload_n 0, 1) := by decide +kernel
theorem dX2_performOne_30 : decode cX2_performOne 30 = .ok (.invokevirtual 40, 3) := by decide +kernel
theorem dX2_performOne_33 : decode cX2_performOne 33 = .ok (.aload_n 0, 1) := by decide +kernel
theorem dX2_performOne_34 : decode cX2_performOne 34 = .ok (.invokevirtual 43, 3) := by decide +kernel
theorem dX2_performOne_37 : decode cX2_performOne 37 = .ok (.aload_n 0, 1) := by decide +kernel
theorem dX2_performOne_38 : decode cX2_performOne 38 = .ok (.invokevirtual 46, 3) := by decide +kernel
theorem dX2_performOne_41 : decode cX2_performOne 41 = .ok (.aload_n 0, 1) := by decide +kernel
theorem dX2_performOne_42 : decode cX2_performOne 42 = .ok (.invokevirtual 49, 3) := by decide +kernel
theorem dX2_performOne_45 : decode cX2_performOne 45 = .ok (.aload_n 0, 1) := by decide +kernel
theorem dX2_performOne_46 : decode cX2_performOne 46 = .ok (.getfield 9, 3) := by decide +kernel
theorem dX2_performOne_49 : decode cX2_performOne 49 = .ok (.dup, 1) := by decide +kernel
theorem dX2_performOne_50 : decode cX2_performOne 50 = .ok (.getfield 52, 3) := by decide +kernel
theorem dX2_performOne_53 : decode cX2_performOne 53 = .ok (.aload_n 0, 1) := by decide +kernel
theorem dX2_performOne_54 : decode cX2_performOne 54 = .ok (.getfield 9, 3) := by decide +kernel
theorem dX2_performOne_57 : decode cX2_performOne 57 = .ok (.getfield 55, 3) := by decide +kernel
theorem dX2_performOne_60 : decode cX2_performOne 60 = .ok (.iadd, 1) := by decide +kernel
theorem dX2_performOne_61 : decode cX2_performOne 61 = .ok (.putfield 52, 3) := by decide +kernel
theorem dX2_performOne_64 : decode cX2_performOne 64 = .ok (.aload_n 0, 1) := by decide +kernel
theorem dX2_performOne_65 : decode cX2_performOne 65 = .ok (.getfield 9, 3) := by decide +kernel
theorem dX2_performOne_68 : decode cX2_performOne 68 = .ok (.dup, 1) := by decide +kernel
theorem dX2_performOne_69 : decode cX2_performOne 69 = .ok (.getfield 58, 3) := by decide +kernel
theorem dX2_performOne_72 : decode cX2_performOne 72 = .ok (.iconst 1, 1) := by decide +kernel
theorem dX2_performOne_73 : decode cX2_performOne 73 = .ok (.iadd, 1) := by decide +kernel
theorem dX2_performOne_74 : decode cX2_performOne 74 = .ok (.putfield 58, 3) := by decide +kernel
theorem dX2_performOne_77 : decode cX2_performOne 77 = .ok (.return_, 1) := by decide +kernel
set_option maxRecDepth 20000 in
theorem ggX2_begin_X1_phase : GoodIn wsX2_begin wsX1_phase := goodIn_r _ [11, 12, 13, 24, 25, 26, 27, 28, 29, 30, 31, 32, 33, 34] (by decide +kernel) (by decide +kernel)
set_option maxRecDepth 20000 in
theorem gX2_begin_X1_phase : GoodIn wsX2_begin (wsV RX2 61 RX1 yX1_phase wsX1_phase) := goodIn_app (goodIn_of _ (by decide +kernel)) ggX2_begin_X1_phase
set_option maxRecDepth 20000 in
theorem ggX2_begin_X3_beginRound : GoodIn wsX2_begin wsX3_beginRound := goodIn_r _ [18, 19, 20, 21, 22, 35, 36, 37, 38, 39, 40, 41, 42, 43, 44, 45] (by decide +kernel) (by decide +kernel)
set_option maxRecDepth 20000 in
theorem gX2_begin_X3_beginRound : GoodIn wsX2_begin (wsV RX2 71 RX3 yX3_beginRound wsX3_beginRound) := goodIn_app (goodIn_of _ (by decide +kernel)) ggX2_begin_X3_beginRound
theorem dX2_begin_0 : decode cX2_begin 0 = .ok (.aload_n 0, 1) := by decide +kernel
theorem dX2_begin_1 : decode cX2_begin 1 = .ok (.getfield 9, 3) := by decide +kernel
theorem dX2_begin_4 : decode cX2_begin 4 = .ok (.invokevirtual 61, 3) := by decide +kernel
theorem dX2_begin_7 : decode cX2_begin 7 = .ok (.ifCond .ne 7, 3) := by decide +kernel
theorem dX2_begin_10 : decode cX2_begin 10 = .ok (.iconst 1, 1) := by decide +kernel
theorem dX2_begin_11 : decode cX2_begin 11 = .ok (.goto 4, 3) := by decide +kernel
theorem dX2_begin_14 : decode cX2_begin 14 = .ok (.iconst 0, 1) := by decide +kernel
theorem dX2_begin_15 : decode cX2_begin 15 = .ok (.istore_n 1, 1) := by decide +kernel
theorem dX2_begin_16 : decode cX2_begin 16 = .ok (.iconst 0, 1) := by decide +kernel
theorem dX2_begin_17 : decode cX2_begin 17 = .ok (.istore_n 2, 1) := by decide +kernel
theorem dX2_begin_18 : decode cX2_begin 18 = .ok (.iload_n 2, 1) := by decide +kernel
theorem dX2_begin_19 : decode cX2_begin 19 = .ok (.aload_n 0, 1) := by decide +kernel
theorem dX2_begin_20 : decode cX2_begin 20 = .ok (.getfield 9, 3) := by decide +kernel
theorem dX2_begin_23 : decode cX2_begin 23 = .ok (.getfield 64, 3) := by decide +kernel
theorem dX2_begin_26 : decode cX2_begin 26 = .ok (.if_icmp .ge 32, 3) := by decide +kernel
theorem dX2_begin_29 : decode cX2_begin 29 = .ok (.aload_n 0, 1) := by decide +kernel
theorem dX2_begin_30 : decode cX2_begin 30 = .ok (.getfield 9, 3) := by decide +kernel
theorem dX2_begin_33 : decode cX2_begin 33 = .ok (.getfield 67, 3) := by decide +kernel
theorem dX2_begin_36 : decode cX2_begin 36 = .ok (.iload_n 2, 1) := by decide +kernel
theorem dX2_begin_37 : decode cX2_begin 37 = .ok (.aaload, 1) := by decide +kernel
theorem dX2_begin_38 : decode cX2_begin 38 = .ok (.astore_n 3, 1) := by decide +kernel
theorem dX2_begin_39 : decode cX2_begin 39 = .ok (.aload_n 3, 1) := by decide +kernel
theorem dX2_begin_40 : decode cX2_begin 40 = .ok (.invokevirtual 71, 3) := by decide +kernel
theorem dX2_begin_43 : decode cX2_begin 43 = .ok (.iload_n 1, 1) := by decide +kernel
theorem dX2_begin_44 : decode cX2_begin 44 = .ok (.ifCond .eq 8, 3) := by decide +kernel
theorem dX2_begin_47 : decode cX2_begin 47 = .ok (.aload_n 3, 1) := by decide +kernel
theorem dX2_begin_48 : decode cX2_begin 48 = .ok (.iconst 1, 1) := by decide +kernel
theorem dX2_begin_49 : decode cX2_begin 49 = .ok (.putfield 76, 3) := by decide +kernel
theorem dX2_begin_52 : decode cX2_begin 52 = .ok (.iinc 2 1, 3) := by decide +kernel
theorem dX2_begin_55 : decode cX2_begin 55 = .ok (.goto (-37), 3) := by decide +kernel
theorem dX2_begin_58 : decode cX2_begin 58 = .ok (.aload_n 0, 1) := by decide +kernel
theorem dX2_begin_59 : decode cX2_begin 59 = .ok (.getfield 9, 3) := by decide +kernel
theorem dX2_begin_62 : decode cX2_begin 62 = .ok (.iconst 0, 1) := by decide +kernel
theorem dX2_begin_63 : decode cX2_begin 63 = .ok (.putfield 33, 3) := by decide +kernel
theorem dX2_begin_66 : decode cX2_begin 66 = .ok (.aload_n 0, 1) := by decide +kernel
theorem dX2_begin_67 : decode cX2_begin 67 = .ok (.getfield 9, 3) := by decide +kernel
theorem dX2_begin_70 : decode cX2_begin 70 = .ok (.iconst 0, 1) := by decide +kernel
theorem dX2_begin_71 : decode cX2_begin 71 = .ok (.putfield 55, 3) := by decide +kernel
theorem dX2_begin_74 : decode cX2_begin 74 = .ok (.return_, 1) := by decide +kernel
set_option maxRecDepth 20000 in
theorem ggX2_elect_X1_phase : GoodIn wsX2_elect wsX1_phase := goodIn_r _ [12, 13, 14, 26, 27, 28, 29, 30, 31, 32, 33, 34, 35, 36] (by decide +kernel) (by decide +kernel)
set_option maxRecDepth 20000 in
theorem gX2_elect_X1_phase : GoodIn wsX2_elect (wsV RX2 61 RX1 yX1_phase wsX1_phase) := goodIn_app (goodIn_of _ (by decide +kernel)) ggX2_elect_X1_phase
set_option maxRecDepth 20000 in
theorem ggX2_elect_X2_draw : GoodIn wsX2_elect wsX2_draw := goodIn_r _ [19, 1, 20, 21, 22, 23, 24, 25, 26, 27, 28, 29, 30, 31, 32, 33, 34, 35, 36] (by decide +kernel) (by decide +kernel)
set_option maxRecDepth 20000 in
theorem gX2_elect_X2_draw : GoodIn wsX2_elect (wsV RX2 87 RX2 yX2_draw wsX2_draw) := goodIn_app (goodIn_of _ (by decide +kernel)) ggX2_elect_X2_draw
theorem dX2_elect_0 : decode cX2_elect 0 = .ok (.aload_n 0, 1) := by decide +kernel
theorem dX2_elect_1 : decode cX2_elect 1 = .ok (.getfield 9, 3) := by decide +kernel
theorem dX2_elect_4 : decode cX2_elect 4 = .ok (.getfield 80, 3) := by decide +kernel
theorem dX2_elect_7 : decode cX2_elect 7 = .ok (.iconst 0, 1) := by decide +kernel
theorem dX2_elect_8 : decode cX2_elect 8 = .ok (.iaload, 1) := by decide +kernel
theorem dX2_elect_9 : decode cX2_elect 9 = .ok (.aload_n 0, 1) := by decide +kernel
theorem dX2_elect_10 : decode cX2_elect 10 = .ok (.getfield 9, 3) := by decide +kernel
theorem dX2_elect_13 : decode cX2_elect 13 = .ok (.invokevirtual 61, 3) := by decide +kernel
theorem dX2_elect_16 : decode cX2_elect 16 = .ok (.isub, 1) := by decide +kernel
theorem dX2_elect_17 : decode cX2_elect 17 = .ok (.istore_n 1, 1) := by decide +kernel
theorem dX2_elect_18 : decode cX2_elect 18 = .ok (.iconst 0, 1) := by decide +kernel
theorem dX2_elect_19 : decode cX2_elect 19 = .ok (.istore_n 2, 1) := by decide +kernel
theorem dX2_elect_20 : decode cX2_elect 20 = .ok (.iload_n 2, 1) := by decide +kernel
theorem dX2_elect_21 : decode cX2_elect 21 = .ok (.aload_n 0, 1) := by decide +kernel
theorem dX2_elect_22 : decode cX2_elect 22 = .ok (.getfield 9, 3) := by decide +kernel
theorem dX2_elect_25 : decode cX2_elect 25 = .ok (.getfield 64, 3) := by decide +kernel
theorem dX2_elect_28 : decode cX2_elect 28 = .ok (.if_icmp .ge 54, 3) := by decide +kernel
theorem dX2_elect_31 : decode cX2_elect 31 = .ok (.aload_n 0, 1) := by decide +kernel
theorem dX2_elect_32 : decode cX2_elect 32 = .ok (.getfield 9, 3) := by decide +kernel
theorem dX2_elect_35 : decode cX2_elect 35 = .ok (.getfield 67, 3) := by decide +kernel
theorem dX2_elect_38 : decode cX2_elect 38 = .ok (.iload_n 2, 1) := by decide +kernel
theorem dX2_elect_39 : decode cX2_elect 39 = .ok (.aaload, 1) := by decide +kernel
theorem dX2_elect_40 : decode cX2_elect 40 = .ok (.astore_n 3, 1) := by decide +kernel
theorem dX2_elect_41 : decode cX2_elect 41 = .ok (.aload_n 3, 1) := by decide +kernel
theorem dX2_elect_42 : decode cX2_elect 42 = .ok (.getfield 84, 3) := by decide +kernel
theorem dX2_elect_45 : decode cX2_elect 45 = .ok (.ifCond .eq 31, 3) := by decide +kernel
theorem dX2_elect_48 : decode cX2_elect 48 = .ok (.aload_n 3, 1) := by decide +kernel
theorem dX2_elect_49 : decode cX2_elect 49 = .ok (.getfield 76, 3) := by decide +kernel
theorem dX2_elect_52 : decode cX2_elect 52 = .ok (.ifCond .eq 24, 3) := by decide +kernel
theorem dX2_elect_55 : decode cX2_elect 55 = .ok (.aload_n 3, 1) := by decide +kernel
theorem dX2_elect_56 : decode cX2_elect 56 = .ok (.aload_n 0, 1) := by decide +kernel
theorem dX2_elect_57 : decode cX2_elect 57 = .ok (.invokevirtual 87, 3) := by decide +kernel
theorem dX2_elect_60 : decode cX2_elect 60 = .ok (.iload_n 1, 1) := by decide +kernel
theorem dX2_elect_61 : decode cX2_elect 61 = .ok (.imul, 1) := by decide +kernel
theorem dX2_elect_62 : decode cX2_elect 62 = .ok (.sipush 1000, 3) := by decide +kernel
theorem dX2_elect_65 : decode cX2_elect 65 = .ok (.if_icmp .ge 7, 3) := by decide +kernel
theorem dX2_elect_68 : decode cX2_elect 68 = .ok (.iconst 1, 1) := by decide +kernel
theorem dX2_elect_69 : decode cX2_elect 69 = .ok (.goto 4, 3) := by decide +kernel
theorem dX2_elect_72 : decode cX2_elect 72 = .ok (.iconst 0, 1) := by decide +kernel
theorem dX2_elect_73 : decode cX2_elect 73 = .ok (.putfield 90, 3) := by decide +kernel
theorem dX2_elect_76 : decode cX2_elect 76 = .ok (.iinc 2 1, 3) := by decide +kernel
theorem dX2_elect_79 : decode cX2_elect 79 = .ok (.goto (-59), 3) := by decide +kernel
theorem dX2_elect_82 : decode cX2_elect 82 = .ok (.return_, 1) := by decide +kernel
theorem dX2_draw_0 : decode cX2_draw 0 = .ok (.aload_n 0, 1) := by decide +kernel
theorem dX2_draw_1 : decode cX2_draw 1 = .ok (.getfield 9, 3) := by decide +kernel
theorem dX2_draw_4 : decode cX2_draw 4 = .ok (.getfield 93, 3) := by decide +kernel
theorem dX2_draw_7 : decode cX2_draw 7 = .ok (.i2l, 1) := by decide +kernel
theorem dX2_draw_8 : decode cX2_draw 8 = .ok (.ldc2_w 96, 3) := by decide +kernel
theorem dX2_draw_11 : decode cX2_draw 11 = .ok (.lmul, 1) := by decide +kernel
theorem dX2_draw_12 : decode cX2_draw 12 = .ok (.ldc2_w 98, 3) := by decide +kernel
theorem dX2_draw_15 : decode cX2_draw 15 = .ok (.ladd, 1) := by decide +kernel
theorem dX2_draw_16 : decode cX2_draw 16 = .ok (.ldc2_w 100, 3) := by decide +kernel
theorem dX2_draw_19 : decode cX2_draw 19 = .ok (.lrem, 1) := by decide +kernel
theorem dX2_draw_20 : decode cX2_draw 20 = .ok (.lstore_n 1, 1) := by decide +kernel
theorem dX2_draw_21 : decode cX2_draw 21 = .ok (.aload_n 0, 1) := by decide +kernel
theorem dX2_draw_22 : decode cX2_draw 22 = .ok (.getfield 9, 3) := by decide +kernel
theorem dX2_draw_25 : decode cX2_draw 25 = .ok (.lload_n 1, 1) := by decide +kernel
theorem dX2_draw_26 : decode cX2_draw 26 = .ok (.l2i, 1) := by decide +kernel
theorem dX2_draw_27 : decode cX2_draw 27 = .ok (.putfield 93, 3) := by decide +kernel
theorem dX2_draw_30 : decode cX2_draw 30 = .ok (.aload_n 0, 1) := by decide +kernel
theorem dX2_draw_31 : decode cX2_draw 31 = .ok (.getfield 9, 3) := by decide +kernel
theorem dX2_draw_34 : decode cX2_draw 34 = .ok (.getfield 93, 3) := by decide +kernel
theorem dX2_draw_37 : decode cX2_draw 37 = .ok (.ldc 102, 2) := by decide +kernel
theorem dX2_draw_39 : decode cX2_draw 39 = .ok (.idiv, 1) := by decide +kernel
theorem dX2_draw_40 : decode cX2_draw 40 = .ok (.sipush 1000, 3) := by decide +kernel
theorem dX2_draw_43 : decode cX2_draw 43 = .ok (.irem, 1) := by decide +kernel
theorem dX2_draw_44 : decode cX2_draw 44 = .ok (.ireturn, 1) := by decide +kernel
set_option maxRecDepth 20000 in
theorem ggX2_announce_X2_pays : GoodIn wsX2_announce wsX2_pays := goodIn_r _ [14, 15, 16, 1, 17, 18, 19, 32, 33, 34, 35, 36, 37, 38, 39, 40, 41, 42, 20, 21, 22, 23, 24, 25, 26, 27, 28, 29, 30, 31] (by decide +kernel) (by decide +kernel)
set_option maxRecDepth 20000 in
theorem gX2_announce_X2_pays : GoodIn wsX2_announce (wsV RX2 103 RX2 yX2_pays wsX2_pays) := goodIn_app (goodIn_of _ (by decide +kernel)) ggX2_announce_X2_pays
theorem dX2_announce_0 : decode cX2_announce 0 = .ok (.iconst 0, 1) := by decide +kernel
theorem dX2_announce_1 : decode cX2_announce 1 = .ok (.istore_n 1, 1) := by decide +kernel
theorem dX2_announce_2 : decode cX2_announce 2 = .ok (.iload_n 1, 1) := by decide +kernel
theorem dX2_announce_3 : decode cX2_announce 3 = .ok (.aload_n 0, 1) := by decide +kernel
theorem dX2_announce_4 : decode cX2_announce 4 = .ok (.getfield 9, 3) := by decide +kernel
theorem dX2_announce_7 : decode cX2_announce 7 = .ok (.getfield 64, 3) := by decide +kernel
theorem dX2_announce_10 : decode cX2_announce 10 = .ok (.if_icmp .ge 76, 3) := by decide +kernel
theorem dX2_announce_13 : decode cX2_announce 13 = .ok (.aload_n 0, 1) := by decide +kernel
theorem dX2_announce_14 : decode cX2_announce 14 = .ok (.getfield 9, 3) := by decide +kernel
theorem dX2_announce_17 : decode cX2_announce 17 = .ok (.getfield 67, 3) := by decide +kernel
theorem dX2_announce_20 : decode cX2_announce 20 = .ok (.iload_n 1, 1) := by decide +kernel
theorem dX2_announce_21 : decode cX2_announce 21 = .ok (.aaload, 1) := by decide +kernel
theorem dX2_announce_22 : decode cX2_announce 22 = .ok (.astore_n 2, 1) := by decide +kernel
theorem dX2_announce_23 : decode cX2_announce 23 = .ok (.aload_n 2, 1) := by decide +kernel
theorem dX2_announce_24 : decode cX2_announce 24 = .ok (.getfield 90, 3) := by decide +kernel
theorem dX2_announce_27 : decode cX2_announce 27 = .ok (.ifCond .eq 53, 3) := by decide +kernel
theorem dX2_announce_30 : decode cX2_announce 30 = .ok (.aload_n 0, 1) := by decide +kernel
theorem dX2_announce_31 : decode cX2_announce 31 = .ok (.aload_n 2, 1) := by decide +kernel
theorem dX2_announce_32 : decode cX2_announce 32 = .ok (.aload_n 0, 1) := by decide +kernel
theorem dX2_announce_33 : decode cX2_announce 33 = .ok (.getfield 9, 3) := by decide +kernel
theorem dX2_announce_36 : decode cX2_announce 36 = .ok (.getfield 80, 3) := by decide +kernel
theorem dX2_announce_39 : decode cX2_announce 39 = .ok (.iconst 4, 1) := by decide +kernel
theorem dX2_announce_40 : decode cX2_announce 40 = .ok (.iaload, 1) := by decide +kernel
theorem dX2_announce_41 : decode cX2_announce 41 = .ok (.invokevirtual 103, 3) := by decide +kernel
theorem dX2_announce_44 : decode cX2_announce 44 = .ok (.ifCond .eq 36, 3) := by decide +kernel
theorem dX2_announce_47 : decode cX2_announce 47 = .ok (.aload_n 2, 1) := by decide +kernel
theorem dX2_announce_48 : decode cX2_announce 48 = .ok (.iload_n 1, 1) := by decide +kernel
theorem dX2_announce_49 : decode cX2_announce 49 = .ok (.putfield 107, 3) := by decide +kernel
theorem dX2_announce_52 : decode cX2_announce 52 = .ok (.aload_n 2, 1) := by decide +kernel
theorem dX2_announce_53 : decode cX2_announce 53 = .ok (.iconst 0, 1) := by decide +kernel
theorem dX2_announce_54 : decode cX2_announce 54 = .ok (.putfield 76, 3) := by decide +kernel
theorem dX2_announce_57 : decode cX2_announce 57 = .ok (.aload_n 2, 1) := by decide +kernel
theorem dX2_announce_58 : decode cX2_announce 58 = .ok (.dup, 1) := by decide +kernel
theorem dX2_announce_59 : decode cX2_announce 59 = .ok (.getfield 110, 3) := by decide +kernel
theorem dX2_announce_62 : decode cX2_announce 62 = .ok (.iconst 1, 1) := by decide +kernel
theorem dX2_announce_63 : decode cX2_announce 63 = .ok (.iadd, 1) := by decide +kernel
theorem dX2_announce_64 : decode cX2_announce 64 = .ok (.putfield 110, 3) := by decide +kernel
theorem dX2_announce_67 : decode cX2_announce 67 = .ok (.aload_n 0, 1) := by decide +kernel
theorem dX2_announce_68 : decode cX2_announce 68 = .ok (.getfield 9, 3) := by decide +kernel
theorem dX2_announce_71 : decode cX2_announce 71 = .ok (.dup, 1) := by decide +kernel
theorem dX2_announce_72 : decode cX2_announce 72 = .ok (.getfield 33, 3) := by decide +kernel
theorem dX2_announce_75 : decode cX2_announce 75 = .ok (.iconst 1, 1) := by decide +kernel
theorem dX2_announce_76 : decode cX2_announce 76 = .ok (.iadd, 1) := by decide +kernel
theorem dX2_announce_77 : decode cX2_announce 77 = .ok (.putfield 33, 3) := by decide +kernel
theorem dX2_announce_80 : decode cX2_announce 80 = .ok (.iinc 1 1, 3) := by decide +kernel
theorem dX2_announce_83 : decode cX2_announce 83 = .ok (.goto (-81), 3) := by decide +kernel
theorem dX2_announce_86 : decode cX2_announce 86 = .ok (.return_, 1) := by decide +kernel
set_option maxRecDepth 20000 in
theorem ggX2_join_X2_nearestHead : GoodIn wsX2_join wsX2_nearestHead := goodIn_r _ [12, 1, 2, 3, 13, 14, 15, 11, 16, 4, 5, 17, 18, 19, 20, 21, 22, 23, 37, 38, 39, 40, 41, 42, 43, 44, 45, 46, 47, 48, 49, 50, 51, 52, 53, 54, 55, 56, 57, 58, 59] (by decide +kernel) (by decide +kernel)
set_option maxRecDepth 20000 in
theorem gX2_join_X2_nearestHead : GoodIn wsX2_join (wsV RX2 119 RX2 yX2_nearestHead wsX2_nearestHead) := goodIn_app (goodIn_of _ (by decide +kernel)) ggX2_join_X2_nearestHead
set_option maxRecDepth 20000 in
theorem ggX2_join_X2_isHead : GoodIn wsX2_join wsX2_isHead := goodIn_r _ [27, 1, 3, 5, 37, 38, 39, 40, 41, 42, 43, 44, 45, 46, 47, 48, 49, 50, 51, 52, 53, 54, 55, 56, 57, 58, 59] (by decide +kernel) (by decide +kernel)
set_option maxRecDepth 20000 in
theorem gX2_join_X2_isHead : GoodIn wsX2_join (wsV RX2 123 RX2 yX2_isHead wsX2_isHead) := goodIn_app (goodIn_of _ (by decide +kernel)) ggX2_join_X2_isHead
set_option maxRecDepth 20000 in
theorem ggX2_join_X2_giveSlots : GoodIn wsX2_join wsX2_giveSlots := goodIn_r _ [31, 1, 2, 3, 32, 33, 34, 35, 11, 36, 5, 37, 38, 39, 40, 41, 42, 43, 44, 45, 46, 47, 48, 49, 50, 51, 52, 53, 54, 55, 56, 57, 58, 59] (by decide +kernel) (by decide +kernel)
set_option maxRecDepth 20000 in
theorem gX2_join_X2_giveSlots : GoodIn wsX2_join (wsV RX2 127 RX2 yX2_giveSlots wsX2_giveSlots) := goodIn_app (goodIn_of _ (by decide +kernel)) ggX2_join_X2_giveSlots
theorem dX2_join_0 : decode cX2_join 0 = .ok (.iconst 0, 1) := by decide +kernel
theorem dX2_join_1 : decode cX2_join 1 = .ok (.istore_n 1, 1) := by decide +kernel
theorem dX2_join_2 : decode cX2_join 2 = .ok (.iload_n 1, 1) := by decide +kernel
theorem dX2_join_3 : decode cX2_join 3 = .ok (.aload_n 0, 1) := by decide +kernel
theorem dX2_join_4 : decode cX2_join 4 = .ok (.getfield 9, 3) := by decide +kernel
theorem dX2_join_7 : decode cX2_join 7 = .ok (.getfield 64, 3) := by decide +kernel
theorem dX2_join_10 : decode cX2_join 10 = .ok (.if_icmp .ge 50, 3) := by decide +kernel
theorem dX2_join_13 : decode cX2_join 13 = .ok (.aload_n 0, 1) := by decide +kernel
theorem dX2_join_14 : decode cX2_join 14 = .ok (.getfield 9, 3) := by decide +kernel
theorem dX2_join_17 : decode cX2_join 17 = .ok (.getfield 67, 3) := by decide +kernel
theorem dX2_join_20 : decode cX2_join 20 = .ok (.iload_n 1, 1) := by decide +kernel
theorem dX2_join_21 : decode cX2_join 21 = .ok (.aaload, 1) := by decide +kernel
theorem dX2_join_22 : decode cX2_join 22 = .ok (.astore_n 2, 1) := by decide +kernel
theorem dX2_join_23 : decode cX2_join 23 = .ok (.aload_n 2, 1) := by decide +kernel
theorem dX2_join_24 : decode cX2_join 24 = .ok (.getfield 84, 3) := by decide +kernel
theorem dX2_join_27 : decode cX2_join 27 = .ok (.ifCond .eq 27, 3) := by decide +kernel
theorem dX2_join_30 : decode cX2_join 30 = .ok (.aload_n 2, 1) := by decide +kernel
theorem dX2_join_31 : decode cX2_join 31 = .ok (.getfield 107, 3) := by decide +kernel
theorem dX2_join_34 : decode cX2_join 34 = .ok (.iload_n 1, 1) := by decide +kernel
theorem dX2_join_35 : decode cX2_join 35 = .ok (.if_icmp .eq 19, 3) := by decide +kernel
theorem dX2_join_38 : decode cX2_join 38 = .ok (.aload_n 2, 1) := by decide +kernel
theorem dX2_join_39 : decode cX2_join 39 = .ok (.aload_n 0, 1) := by decide +kernel
theorem dX2_join_40 : decode cX2_join 40 = .ok (.aload_n 2, 1) := by decide +kernel
theorem dX2_join_41 : decode cX2_join 41 = .ok (.getfield 113, 3) := by decide +kernel
theorem dX2_join_44 : decode cX2_join 44 = .ok (.aload_n 2, 1) := by decide +kernel
theorem dX2_join_45 : decode cX2_join 45 = .ok (.getfield 116, 3) := by decide +kernel
theorem dX2_join_48 : decode cX2_join 48 = .ok (.invokevirtual 119, 3) := by decide +kernel
theorem dX2_join_51 : decode cX2_join 51 = .ok (.putfield 107, 3) := by decide +kernel
theorem dX2_join_54 : decode cX2_join 54 = .ok (.iinc 1 1, 3) := by decide +kernel
theorem dX2_join_57 : decode cX2_join 57 = .ok (.goto (-55), 3) := by decide +kernel
theorem dX2_join_60 : decode cX2_join 60 = .ok (.iconst 0, 1) := by decide +kernel
theorem dX2_join_61 : decode cX2_join 61 = .ok (.istore_n 1, 1) := by decide +kernel
theorem dX2_join_62 : decode cX2_join 62 = .ok (.iload_n 1, 1) := by decide +kernel
theorem dX2_join_63 : decode cX2_join 63 = .ok (.aload_n 0, 1) := by decide +kernel
theorem dX2_join_64 : decode cX2_join 64 = .ok (.getfield 9, 3) := by decide +kernel
theorem dX2_join_67 : decode cX2_join 67 = .ok (.getfield 64, 3) := by decide +kernel
theorem dX2_join_70 : decode cX2_join 70 = .ok (.if_icmp .ge 22, 3) := by decide +kernel
theorem dX2_join_73 : decode cX2_join 73 = .ok (.aload_n 0, 1) := by decide +kernel
theorem dX2_join_74 : decode cX2_join 74 = .ok (.iload_n 1, 1) := by decide +kernel
theorem dX2_join_75 : decode cX2_join 75 = .ok (.invokevirtual 123, 3) := by decide +kernel
theorem dX2_join_78 : decode cX2_join 78 = .ok (.ifCond .eq 8, 3) := by decide +kernel
theorem dX2_join_81 : decode cX2_join 81 = .ok (.aload_n 0, 1) := by decide +kernel
theorem dX2_join_82 : decode cX2_join 82 = .ok (.iload_n 1, 1) := by decide +kernel
theorem dX2_join_83 : decode cX2_join 83 = .ok (.invokevirtual 127, 3) := by decide +kernel
theorem dX2_join_86 : decode cX2_join 86 = .ok (.iinc 1 1, 3) := by decide +kernel
theorem dX2_join_89 : decode cX2_join 89 = .ok (.goto (-27), 3) := by decide +kernel
theorem dX2_join_92 : decode cX2_join 92 = .ok (.return_, 1) := by decide +kernel
set_option maxRecDepth 20000 in
theorem ggX2_nearestHead_X2_isLivingHead : GoodIn wsX2_nearestHead wsX2_isLivingHead := goodIn_r _ [8, 1, 3, 9, 10, 18, 19, 20, 21, 22, 23, 24, 25, 26, 27, 28, 29, 30, 31, 32, 33, 34, 35, 36, 37, 38, 39, 40] (by decide +kernel) (by decide +kernel)
set_option maxRecDepth 20000 in
theorem gX2_nearestHead_X2_isLivingHead : GoodIn wsX2_nearestHead (wsV RX2 131 RX2 yX2_isLivingHead wsX2_isLivingHead) := goodIn_app (goodIn_of _ (by decide +kernel)) ggX2_nearestHead_X2_isLivingHead
set_option maxRecDepth 20000 in
theorem ggX2_nearestHead_X3_distanceTo : GoodIn wsX2_nearestHead wsX3_distanceTo := goodIn_r _ [15, 16, 17, 30, 31, 32, 33, 34, 35, 36, 37, 38, 39, 40] (by decide +kernel) (by decide +kernel)
set_option maxRecDepth 20000 in
theorem gX2_nearestHead_X3_distanceTo : GoodIn wsX2_nearestHead (wsV RX2 134 RX3 yX3_distanceTo wsX3_distanceTo) := goodIn_app (goodIn_of _ (by decide +kernel)) ggX2_nearestHead_X3_distanceTo
theorem dX2_nearestHead_0 : decode cX2_nearestHead 0 = .ok (.bipush (-9), 2) := by decide +kernel
theorem dX2_nearestHead_2 : decode cX2_nearestHead 2 = .ok (.istore_n 3, 1) := by decide +kernel
theorem dX2_nearestHead_3 : decode cX2_nearestHead 3 = .ok (.iconst 0, 1) := by decide +kernel
theorem dX2_nearestHead_4 : decode cX2_nearestHead 4 = .ok (.istore 4, 2) := by decide +kernel
theorem dX2_nearestHead_6 : decode cX2_nearestHead 6 = .ok (.iconst 0, 1) := by decide +kernel
theorem dX2_nearestHead_7 : decode cX2_nearestHead 7 = .ok (.istore 5, 2) := by decide +kernel
theorem dX2_nearestHead_9 : decode cX2_nearestHead 9 = .ok (.iload 5, 2) := by decide +kernel
theorem dX2_nearestHead_11 : decode cX2_nearestHead 11 = .ok (.aload_n 0, 1) := by decide +kernel
theorem dX2_nearestHead_12 : decode cX2_nearestHead 12 = .ok (.getfield 9, 3) := by decide +kernel
theorem dX2_nearestHead_15 : decode cX2_nearestHead 15 = .ok (.getfield 64, 3) := by decide +kernel
theorem dX2_nearestHead_18 : decode cX2_nearestHead 18 = .ok (.if_icmp .ge 55, 3) := by decide +kernel
theorem dX2_nearestHead_21 : decode cX2_nearestHead 21 = .ok (.aload_n 0, 1) := by decide +kernel
theorem dX2_nearestHead_22 : decode cX2_nearestHead 22 = .ok (.iload 5, 2) := by decide +kernel
theorem dX2_nearestHead_24 : decode cX2_nearestHead 24 = .ok (.invokevirtual 131, 3) := by decide +kernel
theorem dX2_nearestHead_27 : decode cX2_nearestHead 27 = .ok (.ifCond .eq 40, 3) := by decide +kernel
theorem dX2_nearestHead_30 : decode cX2_nearestHead 30 = .ok (.aload_n 0, 1) := by decide +kernel
theorem dX2_nearestHead_31 : decode cX2_nearestHead 31 = .ok (.getfield 9, 3) := by decide +kernel
theorem dX2_nearestHead_34 : decode cX2_nearestHead 34 = .ok (.getfield 67, 3) := by decide +kernel
theorem dX2_nearestHead_37 : decode cX2_nearestHead 37 = .ok (.iload 5, 2) := by decide +kernel
theorem dX2_nearestHead_39 : decode cX2_nearestHead 39 = .ok (.aaload, 1) := by decide +kernel
theorem dX2_nearestHead_40 : decode cX2_nearestHead 40 = .ok (.iload_n 1, 1) := by decide +kernel
theorem dX2_nearestHead_41 : decode cX2_nearestHead 41 = .ok (.iload_n 2, 1) := by decide +kernel
theorem dX2_nearestHead_42 : decode cX2_nearestHead 42 = .ok (.invokevirtual 134, 3) := by decide +kernel
theorem dX2_nearestHead_45 : decode cX2_nearestHead 45 = .ok (.istore 6, 2) := by decide +kernel
theorem dX2_nearestHead_47 : decode cX2_nearestHead 47 = .ok (.iload_n 3, 1) := by decide +kernel
theorem dX2_nearestHead_48 : decode cX2_nearestHead 48 = .ok (.bipush (-9), 2) := by decide +kernel
theorem dX2_nearestHead_50 : decode cX2_nearestHead 50 = .ok (.if_icmp .eq 10, 3) := by decide +kernel
theorem dX2_nearestHead_53 : decode cX2_nearestHead 53 = .ok (.iload 6, 2) := by decide +kernel
theorem dX2_nearestHead_55 : decode cX2_nearestHead 55 = .ok (.iload 4, 2) := by decide +kernel
theorem dX2_nearestHead_57 : decode cX2_nearestHead 57 = .ok (.if_icmp .ge 10, 3) := by decide +kernel
theorem dX2_nearestHead_60 : decode cX2_nearestHead 60 = .ok (.iload 5, 2) := by decide +kernel
theorem dX2_nearestHead_62 : decode cX2_nearestHead 62 = .ok (.istore_n 3, 1) := by decide +kernel
theorem dX2_nearestHead_63 : decode cX2_nearestHead 63 = .ok (.iload 6, 2) := by decide +kernel
theorem dX2_nearestHead_65 : decode cX2_nearestHead 65 = .ok (.istore 4, 2) := by decide +kernel
theorem dX2_nearestHead_67 : decode cX2_nearestHead 67 = .ok (.iinc 5 1, 3) := by decide +kernel
theorem dX2_nearestHead_70 : decode cX2_nearestHead 70 = .ok (.goto (-61), 3) := by decide +kernel
theorem dX2_nearestHead_73 : decode cX2_nearestHead 73 = .ok (.iload_n 3, 1) := by decide +kernel
theorem dX2_nearestHead_74 : decode cX2_nearestHead 74 = .ok (.ireturn, 1) := by decide +kernel
set_option maxRecDepth 20000 in
theorem ggX2_giveSlots_X2_hasJoined : GoodIn wsX2_giveSlots wsX2_hasJoined := goodIn_r _ [9, 1, 3, 10, 11, 12, 13, 14, 15, 16, 17, 18, 19, 20, 21, 22, 23, 24, 25, 26, 27, 28, 29, 30, 31, 32, 33] (by decide +kernel) (by decide +kernel)
set_option maxRecDepth 20000 in
theorem gX2_giveSlots_X2_hasJoined : GoodIn wsX2_giveSlots (wsV RX2 137 RX2 yX2_hasJoined wsX2_hasJoined) := goodIn_app (goodIn_of _ (by decide +kernel)) ggX2_giveSlots_X2_hasJoined
theorem dX2_giveSlots_0 : decode cX2_giveSlots 0 = .ok (.iconst 0, 1) := by decide +kernel
theorem dX2_giveSlots_1 : decode cX2_giveSlots 1 = .ok (.istore_n 2, 1) := by decide +kernel
theorem dX2_giveSlots_2 : decode cX2_giveSlots 2 = .ok (.iconst 0, 1) := by decide +kernel
theorem dX2_giveSlots_3 : decode cX2_giveSlots 3 = .ok (.istore_n 3, 1) := by decide +kernel
theorem dX2_giveSlots_4 : decode cX2_giveSlots 4 = .ok (.iload_n 3, 1) := by decide +kernel
theorem dX2_giveSlots_5 : decode cX2_giveSlots 5 = .ok (.aload_n 0, 1) := by decide +kernel
theorem dX2_giveSlots_6 : decode cX2_giveSlots 6 = .ok (.getfield 9, 3) := by decide +kernel
theorem dX2_giveSlots_9 : decode cX2_giveSlots 9 = .ok (.getfield 64, 3) := by decide +kernel
theorem dX2_giveSlots_12 : decode cX2_giveSlots 12 = .ok (.if_icmp .ge 34, 3) := by decide +kernel
theorem dX2_giveSlots_15 : decode cX2_giveSlots 15 = .ok (.aload_n 0, 1) := by decide +kernel
theorem dX2_giveSlots_16 : decode cX2_giveSlots 16 = .ok (.iload_n 3, 1) := by decide +kernel
theorem dX2_giveSlots_17 : decode cX2_giveSlots 17 = .ok (.iload_n 1, 1) := by decide +kernel
theorem dX2_giveSlots_18 : decode cX2_giveSlots 18 = .ok (.invokevirtual 137, 3) := by decide +kernel
theorem dX2_giveSlots_21 : decode cX2_giveSlots 21 = .ok (.ifCond .eq 19, 3) := by decide +kernel
theorem dX2_giveSlots_24 : decode cX2_giveSlots 24 = .ok (.aload_n 0, 1) := by decide +kernel
theorem dX2_giveSlots_25 : decode cX2_giveSlots 25 = .ok (.getfield 9, 3) := by decide +kernel
theorem dX2_giveSlots_28 : decode cX2_giveSlots 28 = .ok (.getfield 67, 3) := by decide +kernel
theorem dX2_giveSlots_31 : decode cX2_giveSlots 31 = .ok (.iload_n 3, 1) := by decide +kernel
theorem dX2_giveSlots_32 : decode cX2_giveSlots 32 = .ok (.aaload, 1) := by decide +kernel
theorem dX2_giveSlots_33 : decode cX2_giveSlots 33 = .ok (.iload_n 2, 1) := by decide +kernel
theorem dX2_giveSlots_34 : decode cX2_giveSlots 34 = .ok (.putfield 141, 3) := by decide +kernel
theorem dX2_giveSlots_37 : decode cX2_giveSlots 37 = .ok (.iinc 2 1, 3) := by decide +kernel
theorem dX2_giveSlots_40 : decode cX2_giveSlots 40 = .ok (.iinc 3 1, 3) := by decide +kernel
theorem dX2_giveSlots_43 : decode cX2_giveSlots 43 = .ok (.goto (-39), 3) := by decide +kernel
theorem dX2_giveSlots_46 : decode cX2_giveSlots 46 = .ok (.return_, 1) := by decide +kernel
theorem dX2_isHead_0 : decode cX2_isHead 0 = .ok (.aload_n 0, 1) := by decide +kernel
theorem dX2_isHead_1 : decode cX2_isHead 1 = .ok (.getfield 9, 3) := by decide +kernel
theorem dX2_isHead_4 : decode cX2_isHead 4 = .ok (.getfield 67, 3) := by decide +kernel
theorem dX2_isHead_7 : decode cX2_isHead 7 = .ok (.iload_n 1, 1) := by decide +kernel
theorem dX2_isHead_8 : decode cX2_isHead 8 = .ok (.aaload, 1) := by decide +kernel
theorem dX2_isHead_9 : decode cX2_isHead 9 = .ok (.getfield 107, 3) := by decide +kernel
theorem dX2_isHead_12 : decode cX2_isHead 12 = .ok (.iload_n 1, 1) := by decide +kernel
theorem dX2_isHead_13 : decode cX2_isHead 13 = .ok (.if_icmp .ne 7, 3) := by decide +kernel
theorem dX2_isHead_16 : decode cX2_isHead 16 = .ok (.iconst 1, 1) := by decide +kernel
theorem dX2_isHead_17 : decode cX2_isHead 17 = .ok (.goto 4, 3) := by decide +kernel
theorem dX2_isHead_20 : decode cX2_isHead 20 = .ok (.iconst 0, 1) := by decide +kernel
theorem dX2_isHead_21 : decode cX2_isHead 21 = .ok (.ireturn, 1) := by decide +kernel
theorem dX2_isLivingHead_0 : decode cX2_isLivingHead 0 = .ok (.aload_n 0, 1) := by decide +kernel
theorem dX2_isLivingHead_1 : decode cX2_isLivingHead 1 = .ok (.getfield 9, 3) := by decide +kernel
theorem dX2_isLivingHead_4 : decode cX2_isLivingHead 4 = .ok (.getfield 67, 3) := by decide +kernel
theorem dX2_isLivingHead_7 : decode cX2_isLivingHead 7 = .ok (.iload_n 1, 1) := by decide +kernel
theorem dX2_isLivingHead_8 : decode cX2_isLivingHead 8 = .ok (.aaload, 1) := by decide +kernel
theorem dX2_isLivingHead_9 : decode cX2_isLivingHead 9 = .ok (.astore_n 2, 1) := by decide +kernel
theorem dX2_isLivingHead_10 : decode cX2_isLivingHead 10 = .ok (.aload_n 2, 1) := by decide +kernel
theorem dX2_isLivingHead_11 : decode cX2_isLivingHead 11 = .ok (.getfield 84, 3) := by decide +kernel
theorem dX2_isLivingHead_14 : decode cX2_isLivingHead 14 = .ok (.ifCond .eq 15, 3) := by decide +kernel
theorem dX2_isLivingHead_17 : decode cX2_isLivingHead 17 = .ok (.aload_n 2, 1) := by decide +kernel
theorem dX2_isLivingHead_18 : decode cX2_isLivingHead 18 = .ok (.getfield 107, 3) := by decide +kernel
theorem dX2_isLivingHead_21 : decode cX2_isLivingHead 21 = .ok (.iload_n 1, 1) := by decide +kernel
theorem dX2_isLivingHead_22 : decode cX2_isLivingHead 22 = .ok (.if_icmp .ne 7, 3) := by decide +kernel
theorem dX2_isLivingHead_25 : decode cX2_isLivingHead 25 = .ok (.iconst 1, 1) := by decide +kernel
theorem dX2_isLivingHead_26 : decode cX2_isLivingHead 26 = .ok (.goto 4, 3) := by decide +kernel
theorem dX2_isLivingHead_29 : decode cX2_isLivingHead 29 = .ok (.iconst 0, 1) := by decide +kernel
theorem dX2_isLivingHead_30 : decode cX2_isLivingHead 30 = .ok (.ireturn, 1) := by decide +kernel
theorem dX2_hasJoined_0 : decode cX2_hasJoined 0 = .ok (.iload_n 1, 1) := by decide +kernel
theorem dX2_hasJoined_1 : decode cX2_hasJoined 1 = .ok (.iload_n 2, 1) := by decide +kernel
theorem dX2_hasJoined_2 : decode cX2_hasJoined 2 = .ok (.if_icmp .eq 23, 3) := by decide +kernel
theorem dX2_hasJoined_5 : decode cX2_hasJoined 5 = .ok (.aload_n 0, 1) := by decide +kernel
theorem dX2_hasJoined_6 : decode cX2_hasJoined 6 = .ok (.getfield 9, 3) := by decide +kernel
theorem dX2_hasJoined_9 : decode cX2_hasJoined 9 = .ok (.getfield 67, 3) := by decide +kernel
theorem dX2_hasJoined_12 : decode cX2_hasJoined 12 = .ok (.iload_n 1, 1) := by decide +kernel
theorem dX2_hasJoined_13 : decode cX2_hasJoined 13 = .ok (.aaload, 1) := by decide +kernel
theorem dX2_hasJoined_14 : decode cX2_hasJoined 14 = .ok (.getfield 107, 3) := by decide +kernel
theorem dX2_hasJoined_17 : decode cX2_hasJoined 17 = .ok (.iload_n 2, 1) := by decide +kernel
theorem dX2_hasJoined_18 : decode cX2_hasJoined 18 = .ok (.if_icmp .ne 7, 3) := by decide +kernel
theorem dX2_hasJoined_21 : decode cX2_hasJoined 21 = .ok (.iconst 1, 1) := by decide +kernel
theorem dX2_hasJoined_22 : decode cX2_hasJoined 22 = .ok (.goto 4, 3) := by decide +kernel
theorem dX2_hasJoined_25 : decode cX2_hasJoined 25 = .ok (.iconst 0, 1) := by decide +kernel
theorem dX2_hasJoined_26 : decode cX2_hasJoined 26 = .ok (.ireturn, 1) := by decide +kernel
set_option maxRecDepth 20000 in
theorem ggX2_reportToHeads_X2_isHead : GoodIn wsX2_reportToHeads wsX2_isHead := goodIn_r _ [7, 1, 8, 9, 48, 49, 50, 51, 52, 53, 54, 55, 56, 57, 58, 59, 60, 61, 62, 63, 64, 65, 66, 67, 68, 69, 70] (by decide +kernel) (by decide +kernel)
set_option maxRecDepth 20000 in
theorem gX2_reportToHeads_X2_isHead : GoodIn wsX2_reportToHeads (wsV RX2 123 RX2 yX2_isHead wsX2_isHead) := goodIn_app (goodIn_of _ (by decide +kernel)) ggX2_reportToHeads_X2_isHead
set_option maxRecDepth 20000 in
theorem ggX2_reportToHeads_X2_reportTo : GoodIn wsX2_reportToHeads wsX2_reportTo := goodIn_r _ [13, 1, 8, 2, 14, 15, 16, 17, 18, 6, 19, 9, 20, 21, 22, 23, 24, 25, 26, 27, 28, 29, 30, 31, 32, 33, 34, 35, 36, 37, 38, 39, 40, 41, 42, 43, 44, 45, 46, 47, 48, 49, 50, 51, 52, 53, 54, 55, 56, 57, 58, 59, 60, 61, 62, 63, 64, 65, 66, 67, 68, 69, 70] (by decide +kernel) (by decide +kernel)
set_option maxRecDepth 20000 in
theorem gX2_reportToHeads_X2_reportTo : GoodIn wsX2_reportToHeads (wsV RX2 144 RX2 yX2_reportTo wsX2_reportTo) := goodIn_app (goodIn_of _ (by decide +kernel)) ggX2_reportToHeads_X2_reportTo
theorem dX2_reportToHeads_0 : decode cX2_reportToHeads 0 = .ok (.iconst 0, 1) := by decide +kernel
theorem dX2_reportToHeads_1 : decode cX2_reportToHeads 1 = .ok (.istore_n 1, 1) := by decide +kernel
theorem dX2_reportToHeads_2 : decode cX2_reportToHeads 2 = .ok (.iload_n 1, 1) := by decide +kernel
theorem dX2_reportToHeads_3 : decode cX2_reportToHeads 3 = .ok (.aload_n 0, 1) := by decide +kernel
theorem dX2_reportToHeads_4 : decode cX2_reportToHeads 4 = .ok (.getfield 9, 3) := by decide +kernel
theorem dX2_reportToHeads_7 : decode cX2_reportToHeads 7 = .ok (.getfield 64, 3) := by decide +kernel
theorem dX2_reportToHeads_10 : decode cX2_reportToHeads 10 = .ok (.if_icmp .ge 22, 3) := by decide +kernel
theorem dX2_reportToHeads_13 : decode cX2_reportToHeads 13 = .ok (.aload_n 0, 1) := by decide +kernel
theorem dX2_reportToHeads_14 : decode cX2_reportToHeads 14 = .ok (.iload_n 1, 1) := by decide +kernel
theorem dX2_reportToHeads_15 : decode cX2_reportToHeads 15 = .ok (.invokevirtual 123, 3) := by decide +kernel
theorem dX2_reportToHeads_18 : decode cX2_reportToHeads 18 = .ok (.ifCond .eq 8, 3) := by decide +kernel
theorem dX2_reportToHeads_21 : decode cX2_reportToHeads 21 = .ok (.aload_n 0, 1) := by decide +kernel
theorem dX2_reportToHeads_22 : decode cX2_reportToHeads 22 = .ok (.iload_n 1, 1) := by decide +kernel
theorem dX2_reportToHeads_23 : decode cX2_reportToHeads 23 = .ok (.invokevirtual 144, 3) := by decide +kernel
theorem dX2_reportToHeads_26 : decode cX2_reportToHeads 26 = .ok (.iinc 1 1, 3) := by decide +kernel
theorem dX2_reportToHeads_29 : decode cX2_reportToHeads 29 = .ok (.goto (-27), 3) := by decide +kernel
theorem dX2_reportToHeads_32 : decode cX2_reportToHeads 32 = .ok (.return_, 1) := by decide +kernel
set_option maxRecDepth 20000 in
theorem ggX2_reportTo_X2_hasJoined : GoodIn wsX2_reportTo wsX2_hasJoined := goodIn_r _ [10, 1, 2, 11, 40, 41, 42, 43, 44, 45, 46, 47, 48, 49, 50, 51, 52, 53, 54, 55, 56, 57, 58, 59, 60, 61, 62] (by decide +kernel) (by decide +kernel)
set_option maxRecDepth 20000 in
theorem gX2_reportTo_X2_hasJoined : GoodIn wsX2_reportTo (wsV RX2 137 RX2 yX2_hasJoined wsX2_hasJoined) := goodIn_app (goodIn_of _ (by decide +kernel)) ggX2_reportTo_X2_hasJoined
set_option maxRecDepth 20000 in
theorem ggX2_reportTo_X2_sends : GoodIn wsX2_reportTo wsX2_sends := goodIn_r _ [15, 1, 16, 17, 4, 18, 19, 20, 21, 22, 23, 24, 25, 26, 27, 28, 29, 30, 31, 32, 33, 34, 9, 35, 36, 37, 38, 39, 40, 52, 53, 54, 55, 56, 57, 58, 59, 60, 61, 62, 41, 42, 43, 44, 45, 46, 47, 48, 49, 50, 51] (by decide +kernel) (by decide +kernel)
set_option maxRecDepth 20000 in
theorem gX2_reportTo_X2_sends : GoodIn wsX2_reportTo (wsV RX2 147 RX2 yX2_sends wsX2_sends) := goodIn_app (goodIn_of _ (by decide +kernel)) ggX2_reportTo_X2_sends
theorem dX2_reportTo_0 : decode cX2_reportTo 0 = .ok (.aload_n 0, 1) := by decide +kernel
theorem dX2_reportTo_1 : decode cX2_reportTo 1 = .ok (.getfield 9, 3) := by decide +kernel
theorem dX2_reportTo_4 : decode cX2_reportTo 4 = .ok (.getfield 67, 3) := by decide +kernel
theorem dX2_reportTo_7 : decode cX2_reportTo 7 = .ok (.iload_n 1, 1) := by decide +kernel
theorem dX2_reportTo_8 : decode cX2_reportTo 8 = .ok (.aaload, 1) := by decide +kernel
theorem dX2_reportTo_9 : decode cX2_reportTo 9 = .ok (.astore_n 2, 1) := by decide +kernel
theorem dX2_reportTo_10 : decode cX2_reportTo 10 = .ok (.iconst 0, 1) := by decide +kernel
theorem dX2_reportTo_11 : decode cX2_reportTo 11 = .ok (.istore_n 3, 1) := by decide +kernel
theorem dX2_reportTo_12 : decode cX2_reportTo 12 = .ok (.iload_n 3, 1) := by decide +kernel
theorem dX2_reportTo_13 : decode cX2_reportTo 13 = .ok (.aload_n 0, 1) := by decide +kernel
theorem dX2_reportTo_14 : decode cX2_reportTo 14 = .ok (.getfield 9, 3) := by decide +kernel
theorem dX2_reportTo_17 : decode cX2_reportTo 17 = .ok (.getfield 64, 3) := by decide +kernel
theorem dX2_reportTo_20 : decode cX2_reportTo 20 = .ok (.if_icmp .ge 57, 3) := by decide +kernel
theorem dX2_reportTo_23 : decode cX2_reportTo 23 = .ok (.aload_n 0, 1) := by decide +kernel
theorem dX2_reportTo_24 : decode cX2_reportTo 24 = .ok (.getfield 9, 3) := by decide +kernel
theorem dX2_reportTo_27 : decode cX2_reportTo 27 = .ok (.getfield 67, 3) := by decide +kernel
theorem dX2_reportTo_30 : decode cX2_reportTo 30 = .ok (.iload_n 3, 1) := by decide +kernel
theorem dX2_reportTo_31 : decode cX2_reportTo 31 = .ok (.aaload, 1) := by decide +kernel
theorem dX2_reportTo_32 : decode cX2_reportTo 32 = .ok (.astore 4, 2) := by decide +kernel
theorem dX2_reportTo_34 : decode cX2_reportTo 34 = .ok (.aload_n 0, 1) := by decide +kernel
theorem dX2_reportTo_35 : decode cX2_reportTo 35 = .ok (.iload_n 3, 1) := by decide +kernel
theorem dX2_reportTo_36 : decode cX2_reportTo 36 = .ok (.iload_n 1, 1) := by decide +kernel
theorem dX2_reportTo_37 : decode cX2_reportTo 37 = .ok (.invokevirtual 137, 3) := by decide +kernel
theorem dX2_reportTo_40 : decode cX2_reportTo 40 = .ok (.ifCond .eq 31, 3) := by decide +kernel
theorem dX2_reportTo_43 : decode cX2_reportTo 43 = .ok (.aload 4, 2) := by decide +kernel
theorem dX2_reportTo_45 : decode cX2_reportTo 45 = .ok (.getfield 84, 3) := by decide +kernel
theorem dX2_reportTo_48 : decode cX2_reportTo 48 = .ok (.ifCond .eq 23, 3) := by decide +kernel
theorem dX2_reportTo_51 : decode cX2_reportTo 51 = .ok (.aload_n 0, 1) := by decide +kernel
theorem dX2_reportTo_52 : decode cX2_reportTo 52 = .ok (.aload 4, 2) := by decide +kernel
theorem dX2_reportTo_54 : decode cX2_reportTo 54 = .ok (.aload_n 2, 1) := by decide +kernel
theorem dX2_reportTo_55 : decode cX2_reportTo 55 = .ok (.invokevirtual 147, 3) := by decide +kernel
theorem dX2_reportTo_58 : decode cX2_reportTo 58 = .ok (.ifCond .eq 13, 3) := by decide +kernel
theorem dX2_reportTo_61 : decode cX2_reportTo 61 = .ok (.aload_n 2, 1) := by decide +kernel
theorem dX2_reportTo_62 : decode cX2_reportTo 62 = .ok (.dup, 1) := by decide +kernel
theorem dX2_reportTo_63 : decode cX2_reportTo 63 = .ok (.getfield 151, 3) := by decide +kernel
theorem dX2_reportTo_66 : decode cX2_reportTo 66 = .ok (.iconst 1, 1) := by decide +kernel
theorem dX2_reportTo_67 : decode cX2_reportTo 67 = .ok (.iadd, 1) := by decide +kernel
theorem dX2_reportTo_68 : decode cX2_reportTo 68 = .ok (.putfield 151, 3) := by decide +kernel
theorem dX2_reportTo_71 : decode cX2_reportTo 71 = .ok (.iinc 3 1, 3) := by decide +kernel
theorem dX2_reportTo_74 : decode cX2_reportTo 74 = .ok (.goto (-62), 3) := by decide +kernel
theorem dX2_reportTo_77 : decode cX2_reportTo 77 = .ok (.return_, 1) := by decide +kernel
set_option maxRecDepth 20000 in
theorem ggX2_addOwnReadings_X2_isLivingHead : GoodIn wsX2_addOwnReadings wsX2_isLivingHead := goodIn_r _ [10, 1, 3, 11, 12, 21, 22, 23, 24, 25, 26, 27, 28, 29, 30, 31, 32, 33, 34, 35, 36, 37, 38, 39, 40, 41, 42, 43] (by decide +kernel) (by decide +kernel)
set_option maxRecDepth 20000 in
theorem gX2_addOwnReadings_X2_isLivingHead : GoodIn wsX2_addOwnReadings (wsV RX2 131 RX2 yX2_isLivingHead wsX2_isLivingHead) := goodIn_app (goodIn_of _ (by decide +kernel)) ggX2_addOwnReadings_X2_isLivingHead
set_option maxRecDepth 20000 in
theorem ggX2_addOwnReadings_X2_pays : GoodIn wsX2_addOwnReadings wsX2_pays := goodIn_r _ [16, 17, 11, 1, 18, 19, 20, 33, 34, 35, 36, 37, 38, 39, 40, 41, 42, 43, 21, 22, 23, 24, 25, 26, 27, 28, 29, 30, 31, 32] (by decide +kernel) (by decide +kernel)
set_option maxRecDepth 20000 in
theorem gX2_addOwnReadings_X2_pays : GoodIn wsX2_addOwnReadings (wsV RX2 103 RX2 yX2_pays wsX2_pays) := goodIn_app (goodIn_of _ (by decide +kernel)) ggX2_addOwnReadings_X2_pays
theorem dX2_addOwnReadings_0 : decode cX2_addOwnReadings 0 = .ok (.iconst 0, 1) := by decide +kernel
theorem dX2_addOwnReadings_1 : decode cX2_addOwnReadings 1 = .ok (.istore_n 1, 1) := by decide +kernel
theorem dX2_addOwnReadings_2 : decode cX2_addOwnReadings 2 = .ok (.iload_n 1, 1) := by decide +kernel
theorem dX2_addOwnReadings_3 : decode cX2_addOwnReadings 3 = .ok (.aload_n 0, 1) := by decide +kernel
theorem dX2_addOwnReadings_4 : decode cX2_addOwnReadings 4 = .ok (.getfield 9, 3) := by decide +kernel
theorem dX2_addOwnReadings_7 : decode cX2_addOwnReadings 7 = .ok (.getfield 64, 3) := by decide +kernel
theorem dX2_addOwnReadings_10 : decode cX2_addOwnReadings 10 = .ok (.if_icmp .ge 54, 3) := by decide +kernel
theorem dX2_addOwnReadings_13 : decode cX2_addOwnReadings 13 = .ok (.aload_n 0, 1) := by decide +kernel
theorem dX2_addOwnReadings_14 : decode cX2_addOwnReadings 14 = .ok (.getfield 9, 3) := by decide +kernel
theorem dX2_addOwnReadings_17 : decode cX2_addOwnReadings 17 = .ok (.getfield 67, 3) := by decide +kernel
theorem dX2_addOwnReadings_20 : decode cX2_addOwnReadings 20 = .ok (.iload_n 1, 1) := by decide +kernel
theorem dX2_addOwnReadings_21 : decode cX2_addOwnReadings 21 = .ok (.aaload, 1) := by decide +kernel
theorem dX2_addOwnReadings_22 : decode cX2_addOwnReadings 22 = .ok (.astore_n 2, 1) := by decide +kernel
theorem dX2_addOwnReadings_23 : decode cX2_addOwnReadings 23 = .ok (.aload_n 0, 1) := by decide +kernel
theorem dX2_addOwnReadings_24 : decode cX2_addOwnReadings 24 = .ok (.iload_n 1, 1) := by decide +kernel
theorem dX2_addOwnReadings_25 : decode cX2_addOwnReadings 25 = .ok (.invokevirtual 131, 3) := by decide +kernel
theorem dX2_addOwnReadings_28 : decode cX2_addOwnReadings 28 = .ok (.ifCond .eq 30, 3) := by decide +kernel
theorem dX2_addOwnReadings_31 : decode cX2_addOwnReadings 31 = .ok (.aload_n 0, 1) := by decide +kernel
theorem dX2_addOwnReadings_32 : decode cX2_addOwnReadings 32 = .ok (.aload_n 2, 1) := by decide +kernel
theorem dX2_addOwnReadings_33 : decode cX2_addOwnReadings 33 = .ok (.aload_n 0, 1) := by decide +kernel
theorem dX2_addOwnReadings_34 : decode cX2_addOwnReadings 34 = .ok (.getfield 9, 3) := by decide +kernel
theorem dX2_addOwnReadings_37 : decode cX2_addOwnReadings 37 = .ok (.getfield 80, 3) := by decide +kernel
theorem dX2_addOwnReadings_40 : decode cX2_addOwnReadings 40 = .ok (.iconst 3, 1) := by decide +kernel
theorem dX2_addOwnReadings_41 : decode cX2_addOwnReadings 41 = .ok (.iaload, 1) := by decide +kernel
theorem dX2_addOwnReadings_42 : decode cX2_addOwnReadings 42 = .ok (.invokevirtual 103, 3) := by decide +kernel
theorem dX2_addOwnReadings_45 : decode cX2_addOwnReadings 45 = .ok (.ifCond .eq 13, 3) := by decide +kernel
theorem dX2_addOwnReadings_48 : decode cX2_addOwnReadings 48 = .ok (.aload_n 2, 1) := by decide +kernel
theorem dX2_addOwnReadings_49 : decode cX2_addOwnReadings 49 = .ok (.dup, 1) := by decide +kernel
theorem dX2_addOwnReadings_50 : decode cX2_addOwnReadings 50 = .ok (.getfield 151, 3) := by decide +kernel
theorem dX2_addOwnReadings_53 : decode cX2_addOwnReadings 53 = .ok (.iconst 1, 1) := by decide +kernel
theorem dX2_addOwnReadings_54 : decode cX2_addOwnReadings 54 = .ok (.iadd, 1) := by decide +kernel
theorem dX2_addOwnReadings_55 : decode cX2_addOwnReadings 55 = .ok (.putfield 151, 3) := by decide +kernel
theorem dX2_addOwnReadings_58 : decode cX2_addOwnReadings 58 = .ok (.iinc 1 1, 3) := by decide +kernel
theorem dX2_addOwnReadings_61 : decode cX2_addOwnReadings 61 = .ok (.goto (-59), 3) := by decide +kernel
theorem dX2_addOwnReadings_64 : decode cX2_addOwnReadings 64 = .ok (.return_, 1) := by decide +kernel
set_option maxRecDepth 20000 in
theorem ggX2_deliver_X2_deliverThroughRelay : GoodIn wsX2_deliver wsX2_deliverThroughRelay := goodIn_r _ [7, 1, 8, 9, 10, 11, 12, 13, 14, 15, 16, 6, 17, 18, 19, 20, 21, 22, 23, 24, 25, 26, 27, 28, 29, 30, 31, 32, 33, 34, 35, 36, 37, 38, 39, 40, 41, 2, 42, 43, 44, 45, 46, 47, 48, 49, 50, 51, 52, 53, 54, 55, 56, 57, 58, 59, 64, 65, 66, 67, 68, 69, 70, 71, 72, 73, 74, 75, 76, 77, 78, 79, 80, 81, 82, 83, 84, 85, 86] (by decide +kernel) (by decide +kernel)
set_option maxRecDepth 20000 in
theorem gX2_deliver_X2_deliverThroughRelay : GoodIn wsX2_deliver (wsV RX2 154 RX2 yX2_deliverThroughRelay wsX2_deliverThroughRelay) := goodIn_app (goodIn_of _ (by decide +kernel)) ggX2_deliver_X2_deliverThroughRelay
set_option maxRecDepth 20000 in
theorem ggX2_deliver_X2_deliverDirectly : GoodIn wsX2_deliver wsX2_deliverDirectly := goodIn_r _ [63, 1, 11, 10, 12, 18, 19, 20, 6, 21, 13, 22, 55, 56, 57, 58, 8, 9, 59, 23, 24, 25, 26, 27, 28, 29, 42, 43, 44, 33, 45, 46, 47, 48, 49, 50, 51, 52, 53, 54, 64, 65, 66, 67, 68, 69, 70, 71, 72, 73, 74, 75, 76, 77, 78, 79, 80, 81, 82, 83, 84, 85, 86] (by decide +kernel) (by decide +kernel)
set_option maxRecDepth 20000 in
theorem gX2_deliver_X2_deliverDirectly : GoodIn wsX2_deliver (wsV RX2 157 RX2 yX2_deliverDirectly wsX2_deliverDirectly) := goodIn_app (goodIn_of _ (by decide +kernel)) ggX2_deliver_X2_deliverDirectly
theorem dX2_deliver_0 : decode cX2_deliver 0 = .ok (.aload_n 0, 1) := by decide +kernel
theorem dX2_deliver_1 : decode cX2_deliver 1 = .ok (.getfield 9, 3) := by decide +kernel
theorem dX2_deliver_4 : decode cX2_deliver 4 = .ok (.getfield 80, 3) := by decide +kernel
theorem dX2_deliver_7 : decode cX2_deliver 7 = .ok (.iconst 5, 1) := by decide +kernel
theorem dX2_deliver_8 : decode cX2_deliver 8 = .ok (.iaload, 1) := by decide +kernel
theorem dX2_deliver_9 : decode cX2_deliver 9 = .ok (.iconst 1, 1) := by decide +kernel
theorem dX2_deliver_10 : decode cX2_deliver 10 = .ok (.if_icmp .ne 10, 3) := by decide +kernel
theorem dX2_deliver_13 : decode cX2_deliver 13 = .ok (.aload_n 0, 1) := by decide +kernel
theorem dX2_deliver_14 : decode cX2_deliver 14 = .ok (.invokevirtual 154, 3) := by decide +kernel
theorem dX2_deliver_17 : decode cX2_deliver 17 = .ok (.goto 7, 3) := by decide +kernel
theorem dX2_deliver_20 : decode cX2_deliver 20 = .ok (.aload_n 0, 1) := by decide +kernel
theorem dX2_deliver_21 : decode cX2_deliver 21 = .ok (.invokevirtual 157, 3) := by decide +kernel
theorem dX2_deliver_24 : decode cX2_deliver 24 = .ok (.return_, 1) := by decide +kernel
set_option maxRecDepth 20000 in
theorem ggX2_deliverDirectly_X2_isLivingHead : GoodIn wsX2_deliverDirectly wsX2_isLivingHead := goodIn_r _ [9, 1, 3, 10, 11, 40, 41, 42, 43, 44, 45, 46, 47, 48, 49, 50, 51, 52, 53, 54, 55, 56, 57, 58, 59, 60, 61, 62] (by decide +kernel) (by decide +kernel)
set_option maxRecDepth 20000 in
theorem gX2_deliverDirectly_X2_isLivingHead : GoodIn wsX2_deliverDirectly (wsV RX2 131 RX2 yX2_isLivingHead wsX2_isLivingHead) := goodIn_app (goodIn_of _ (by decide +kernel)) ggX2_deliverDirectly_X2_isLivingHead
set_option maxRecDepth 20000 in
theorem ggX2_deliverDirectly_X2_sendToBase : GoodIn wsX2_deliverDirectly wsX2_sendToBase := goodIn_r _ [15, 1, 16, 17, 18, 19, 20, 21, 22, 23, 24, 25, 26, 27, 28, 29, 30, 31, 32, 33, 34, 8, 35, 36, 10, 37, 38, 39, 40, 41, 42, 43, 44, 45, 46, 47, 48, 49, 50, 51, 52, 53, 54, 55, 56, 57, 58, 59, 60, 61, 62] (by decide +kernel) (by decide +kernel)
set_option maxRecDepth 20000 in
theorem gX2_deliverDirectly_X2_sendToBase : GoodIn wsX2_deliverDirectly (wsV RX2 160 RX2 yX2_sendToBase wsX2_sendToBase) := goodIn_app (goodIn_of _ (by decide +kernel)) ggX2_deliverDirectly_X2_sendToBase
theorem dX2_deliverDirectly_0 : decode cX2_deliverDirectly 0 = .ok (.iconst 0, 1) := by decide +kernel
theorem dX2_deliverDirectly_1 : decode cX2_deliverDirectly 1 = .ok (.istore_n 1, 1) := by decide +kernel
theorem dX2_deliverDirectly_2 : decode cX2_deliverDirectly 2 = .ok (.iload_n 1, 1) := by decide +kernel
theorem dX2_deliverDirectly_3 : decode cX2_deliverDirectly 3 = .ok (.aload_n 0, 1) := by decide +kernel
theorem dX2_deliverDirectly_4 : decode cX2_deliverDirectly 4 = .ok (.getfield 9, 3) := by decide +kernel
theorem dX2_deliverDirectly_7 : decode cX2_deliverDirectly 7 = .ok (.getfield 64, 3) := by decide +kernel
theorem dX2_deliverDirectly_10 : decode cX2_deliverDirectly 10 = .ok (.if_icmp .ge 36, 3) := by decide +kernel
theorem dX2_deliverDirectly_13 : decode cX2_deliverDirectly 13 = .ok (.aload_n 0, 1) := by decide +kernel
theorem dX2_deliverDirectly_14 : decode cX2_deliverDirectly 14 = .ok (.getfield 9, 3) := by decide +kernel
theorem dX2_deliverDirectly_17 : decode cX2_deliverDirectly 17 = .ok (.getfield 67, 3) := by decide +kernel
theorem dX2_deliverDirectly_20 : decode cX2_deliverDirectly 20 = .ok (.iload_n 1, 1) := by decide +kernel
theorem dX2_deliverDirectly_21 : decode cX2_deliverDirectly 21 = .ok (.aaload, 1) := by decide +kernel
theorem dX2_deliverDirectly_22 : decode cX2_deliverDirectly 22 = .ok (.astore_n 2, 1) := by decide +kernel
theorem dX2_deliverDirectly_23 : decode cX2_deliverDirectly 23 = .ok (.aload_n 0, 1) := by decide +kernel
theorem dX2_deliverDirectly_24 : decode cX2_deliverDirectly 24 = .ok (.iload_n 1, 1) := by decide +kernel
theorem dX2_deliverDirectly_25 : decode cX2_deliverDirectly 25 = .ok (.invokevirtual 131, 3) := by decide +kernel
theorem dX2_deliverDirectly_28 : decode cX2_deliverDirectly 28 = .ok (.ifCond .eq 12, 3) := by decide +kernel
theorem dX2_deliverDirectly_31 : decode cX2_deliverDirectly 31 = .ok (.aload_n 0, 1) := by decide +kernel
theorem dX2_deliverDirectly_32 : decode cX2_deliverDirectly 32 = .ok (.aload_n 2, 1) := by decide +kernel
theorem dX2_deliverDirectly_33 : decode cX2_deliverDirectly 33 = .ok (.aload_n 2, 1) := by decide +kernel
theorem dX2_deliverDirectly_34 : decode cX2_deliverDirectly 34 = .ok (.getfield 151, 3) := by decide +kernel
theorem dX2_deliverDirectly_37 : decode cX2_deliverDirectly 37 = .ok (.invokevirtual 160, 3) := by decide +kernel
theorem dX2_deliverDirectly_40 : decode cX2_deliverDirectly 40 = .ok (.iinc 1 1, 3) := by decide +kernel
theorem dX2_deliverDirectly_43 : decode cX2_deliverDirectly 43 = .ok (.goto (-41), 3) := by decide +kernel
theorem dX2_deliverDirectly_46 : decode cX2_deliverDirectly 46 = .ok (.return_, 1) := by decide +kernel
set_option maxRecDepth 20000 in
theorem ggX2_deliverThroughRelay_X2_nearestHead : GoodIn wsX2_deliverThroughRelay wsX2_nearestHead := goodIn_r _ [12, 1, 5, 4, 13, 14, 15, 11, 16, 7, 17, 18, 19, 20, 21, 22, 23, 24, 56, 57, 58, 59, 60, 61, 62, 63, 64, 65, 66, 67, 68, 69, 70, 71, 72, 73, 74, 75, 76, 77, 78] (by decide +kernel) (by decide +kernel)
set_option maxRecDepth 20000 in
theorem gX2_deliverThroughRelay_X2_nearestHead : GoodIn wsX2_deliverThroughRelay (wsV RX2 119 RX2 yX2_nearestHead wsX2_nearestHead) := goodIn_app (goodIn_of _ (by decide +kernel)) ggX2_deliverThroughRelay_X2_nearestHead
set_option maxRecDepth 20000 in
theorem ggX2_deliverThroughRelay_X1_has : GoodIn wsX2_deliverThroughRelay wsX1_has := goodIn_r _ [29, 30, 57, 58, 59, 60, 61, 62, 63, 64, 65, 66, 67] (by decide +kernel) (by decide +kernel)
set_option maxRecDepth 20000 in
theorem gX2_deliverThroughRelay_X1_has : GoodIn wsX2_deliverThroughRelay (wsV RX2 170 RX1 yX1_has wsX1_has) := goodIn_app (goodIn_of _ (by decide +kernel)) ggX2_deliverThroughRelay_X1_has
set_option maxRecDepth 20000 in
theorem ggX2_deliverThroughRelay_X2_isLivingHead : GoodIn wsX2_deliverThroughRelay wsX2_isLivingHead := goodIn_r _ [16, 1, 4, 7, 17, 56, 57, 58, 59, 60, 61, 62, 63, 64, 65, 66, 67, 68, 69, 70, 71, 72, 73, 74, 75, 76, 77, 78] (by decide +kernel) (by decide +kernel)
set_option maxRecDepth 20000 in
theorem gX2_deliverThroughRelay_X2_isLivingHead : GoodIn wsX2_deliverThroughRelay (wsV RX2 131 RX2 yX2_isLivingHead wsX2_isLivingHead) := goodIn_app (goodIn_of _ (by decide +kernel)) ggX2_deliverThroughRelay_X2_isLivingHead
set_option maxRecDepth 20000 in
theorem ggX2_deliverThroughRelay_X2_sends : GoodIn wsX2_deliverThroughRelay wsX2_sends := goodIn_r _ [34, 1, 35, 36, 7, 37, 18, 19, 20, 21, 22, 23, 24, 38, 39, 40, 28, 41, 42, 43, 44, 45, 11, 46, 47, 48, 49, 50, 56, 68, 69, 70, 71, 72, 73, 74, 75, 76, 77, 78, 57, 58, 59, 60, 61, 62, 63, 64, 65, 66, 67] (by decide +kernel) (by decide +kernel)
set_option maxRecDepth 20000 in
theorem gX2_deliverThroughRelay_X2_sends : GoodIn wsX2_deliverThroughRelay (wsV RX2 147 RX2 yX2_sends wsX2_sends) := goodIn_app (goodIn_of _ (by decide +kernel)) ggX2_deliverThroughRelay_X2_sends
set_option maxRecDepth 20000 in
theorem ggX2_deliverThroughRelay_X2_sendToBase : GoodIn wsX2_deliverThroughRelay wsX2_sendToBase := goodIn_r _ [54, 1, 2, 3, 55, 18, 19, 20, 21, 22, 23, 24, 38, 39, 40, 28, 41, 42, 43, 44, 45, 11, 46, 47, 7, 48, 49, 50, 56, 57, 58, 59, 60, 61, 62, 63, 64, 65, 66, 67, 68, 69, 70, 71, 72, 73, 74, 75, 76, 77, 78] (by decide +kernel) (by decide +kernel)
set_option maxRecDepth 20000 in
theorem gX2_deliverThroughRelay_X2_sendToBase : GoodIn wsX2_deliverThroughRelay (wsV RX2 160 RX2 yX2_sendToBase wsX2_sendToBase) := goodIn_app (goodIn_of _ (by decide +kernel)) ggX2_deliverThroughRelay_X2_sendToBase
theorem dX2_deliverThroughRelay_0 : decode cX2_deliverThroughRelay 0 = .ok (.aload_n 0, 1) := by decide +kernel
theorem dX2_deliverThroughRelay_1 : decode cX2_deliverThroughRelay 1 = .ok (.aload_n 0, 1) := by decide +kernel
theorem dX2_deliverThroughRelay_2 : decode cX2_deliverThroughRelay 2 = .ok (.getfield 9, 3) := by decide +kernel
theorem dX2_deliverThroughRelay_5 : decode cX2_deliverThroughRelay 5 = .ok (.getfield 164, 3) := by decide +kernel
theorem dX2_deliverThroughRelay_8 : decode cX2_deliverThroughRelay 8 = .ok (.aload_n 0, 1) := by decide +kernel
theorem dX2_deliverThroughRelay_9 : decode cX2_deliverThroughRelay 9 = .ok (.getfield 9, 3) := by decide +kernel
theorem dX2_deliverThroughRelay_12 : decode cX2_deliverThroughRelay 12 = .ok (.getfield 167, 3) := by decide +kernel
theorem dX2_deliverThroughRelay_15 : decode cX2_deliverThroughRelay 15 = .ok (.invokevirtual 119, 3) := by decide +kernel
theorem dX2_deliverThroughRelay_18 : decode cX2_deliverThroughRelay 18 = .ok (.istore_n 1, 1) := by decide +kernel
theorem dX2_deliverThroughRelay_19 : decode cX2_deliverThroughRelay 19 = .ok (.aload_n 0, 1) := by decide +kernel
theorem dX2_deliverThroughRelay_20 : decode cX2_deliverThroughRelay 20 = .ok (.getfield 9, 3) := by decide +kernel
theorem dX2_deliverThroughRelay_23 : decode cX2_deliverThroughRelay 23 = .ok (.iload_n 1, 1) := by decide +kernel
theorem dX2_deliverThroughRelay_24 : decode cX2_deliverThroughRelay 24 = .ok (.invokevirtual 170, 3) := by decide +kernel
theorem dX2_deliverThroughRelay_27 : decode cX2_deliverThroughRelay 27 = .ok (.ifCond .ne 4, 3) := by decide +kernel
theorem dX2_deliverThroughRelay_30 : decode cX2_deliverThroughRelay 30 = .ok (.return_, 1) := by decide +kernel
theorem dX2_deliverThroughRelay_31 : decode cX2_deliverThroughRelay 31 = .ok (.aload_n 0, 1) := by decide +kernel
theorem dX2_deliverThroughRelay_32 : decode cX2_deliverThroughRelay 32 = .ok (.getfield 9, 3) := by decide +kernel
theorem dX2_deliverThroughRelay_35 : decode cX2_deliverThroughRelay 35 = .ok (.getfield 67, 3) := by decide +kernel
theorem dX2_deliverThroughRelay_38 : decode cX2_deliverThroughRelay 38 = .ok (.iload_n 1, 1) := by decide +kernel
theorem dX2_deliverThroughRelay_39 : decode cX2_deliverThroughRelay 39 = .ok (.aaload, 1) := by decide +kernel
theorem dX2_deliverThroughRelay_40 : decode cX2_deliverThroughRelay 40 = .ok (.astore_n 2, 1) := by decide +kernel
theorem dX2_deliverThroughRelay_41 : decode cX2_deliverThroughRelay 41 = .ok (.iconst 0, 1) := by decide +kernel
theorem dX2_deliverThroughRelay_42 : decode cX2_deliverThroughRelay 42 = .ok (.istore_n 3, 1) := by decide +kernel
theorem dX2_deliverThroughRelay_43 : decode cX2_deliverThroughRelay 43 = .ok (.iload_n 3, 1) := by decide +kernel
theorem dX2_deliverThroughRelay_44 : decode cX2_deliverThroughRelay 44 = .ok (.aload_n 0, 1) := by decide +kernel
theorem dX2_deliverThroughRelay_45 : decode cX2_deliverThroughRelay 45 = .ok (.getfield 9, 3) := by decide +kernel
theorem dX2_deliverThroughRelay_48 : decode cX2_deliverThroughRelay 48 = .ok (.getfield 64, 3) := by decide +kernel
theorem dX2_deliverThroughRelay_51 : decode cX2_deliverThroughRelay 51 = .ok (.if_icmp .ge 57, 3) := by decide +kernel
theorem dX2_deliverThroughRelay_54 : decode cX2_deliverThroughRelay 54 = .ok (.aload_n 0, 1) := by decide +kernel
theorem dX2_deliverThroughRelay_55 : decode cX2_deliverThroughRelay 55 = .ok (.getfield 9, 3) := by decide +kernel
theorem dX2_deliverThroughRelay_58 : decode cX2_deliverThroughRelay 58 = .ok (.getfield 67, 3) := by decide +kernel
theorem dX2_deliverThroughRelay_61 : decode cX2_deliverThroughRelay 61 = .ok (.iload_n 3, 1) := by decide +kernel
theorem dX2_deliverThroughRelay_62 : decode cX2_deliverThroughRelay 62 = .ok (.aaload, 1) := by decide +kernel
theorem dX2_deliverThroughRelay_63 : decode cX2_deliverThroughRelay 63 = .ok (.astore 4, 2) := by decide +kernel
theorem dX2_deliverThroughRelay_65 : decode cX2_deliverThroughRelay 65 = .ok (.iload_n 3, 1) := by decide +kernel
theorem dX2_deliverThroughRelay_66 : decode cX2_deliverThroughRelay 66 = .ok (.iload_n 1, 1) := by decide +kernel
theorem dX2_deliverThroughRelay_67 : decode cX2_deliverThroughRelay 67 = .ok (.if_icmp .eq 35, 3) := by decide +kernel
theorem dX2_deliverThroughRelay_70 : decode cX2_deliverThroughRelay 70 = .ok (.aload_n 0, 1) := by decide +kernel
theorem dX2_deliverThroughRelay_71 : decode cX2_deliverThroughRelay 71 = .ok (.iload_n 3, 1) := by decide +kernel
theorem dX2_deliverThroughRelay_72 : decode cX2_deliverThroughRelay 72 = .ok (.invokevirtual 131, 3) := by decide +kernel
theorem dX2_deliverThroughRelay_75 : decode cX2_deliverThroughRelay 75 = .ok (.ifCond .eq 27, 3) := by decide +kernel
theorem dX2_deliverThroughRelay_78 : decode cX2_deliverThroughRelay 78 = .ok (.aload_n 0, 1) := by decide +kernel
theorem dX2_deliverThroughRelay_79 : decode cX2_deliverThroughRelay 79 = .ok (.aload 4, 2) := by decide +kernel
theorem dX2_deliverThroughRelay_81 : decode cX2_deliverThroughRelay 81 = .ok (.aload_n 2, 1) := by decide +kernel
theorem dX2_deliverThroughRelay_82 : decode cX2_deliverThroughRelay 82 = .ok (.invokevirtual 147, 3) := by decide +kernel
theorem dX2_deliverThroughRelay_85 : decode cX2_deliverThroughRelay 85 = .ok (.ifCond .eq 17, 3) := by decide +kernel
theorem dX2_deliverThroughRelay_88 : decode cX2_deliverThroughRelay 88 = .ok (.aload_n 2, 1) := by decide +kernel
theorem dX2_deliverThroughRelay_89 : decode cX2_deliverThroughRelay 89 = .ok (.dup, 1) := by decide +kernel
theorem dX2_deliverThroughRelay_90 : decode cX2_deliverThroughRelay 90 = .ok (.getfield 151, 3) := by decide +kernel
theorem dX2_deliverThroughRelay_93 : decode cX2_deliverThroughRelay 93 = .ok (.aload 4, 2) := by decide +kernel
theorem dX2_deliverThroughRelay_95 : decode cX2_deliverThroughRelay 95 = .ok (.getfield 151, 3) := by decide +kernel
theorem dX2_deliverThroughRelay_98 : decode cX2_deliverThroughRelay 98 = .ok (.iadd, 1) := by decide +kernel
theorem dX2_deliverThroughRelay_99 : decode cX2_deliverThroughRelay 99 = .ok (.putfield 151, 3) := by decide +kernel
theorem dX2_deliverThroughRelay_102 : decode cX2_deliverThroughRelay 102 = .ok (.iinc 3 1, 3) := by decide +kernel
theorem dX2_deliverThroughRelay_105 : decode cX2_deliverThroughRelay 105 = .ok (.goto (-62), 3) := by decide +kernel
theorem dX2_deliverThroughRelay_108 : decode cX2_deliverThroughRelay 108 = .ok (.aload_n 2, 1) := by decide +kernel
theorem dX2_deliverThroughRelay_109 : decode cX2_deliverThroughRelay 109 = .ok (.getfield 84, 3) := by decide +kernel
theorem dX2_deliverThroughRelay_112 : decode cX2_deliverThroughRelay 112 = .ok (.ifCond .eq 12, 3) := by decide +kernel
theorem dX2_deliverThroughRelay_115 : decode cX2_deliverThroughRelay 115 = .ok (.aload_n 0, 1) := by decide +kernel
theorem dX2_deliverThroughRelay_116 : decode cX2_deliverThroughRelay 116 = .ok (.aload_n 2, 1) := by decide +kernel
theorem dX2_deliverThroughRelay_117 : decode cX2_deliverThroughRelay 117 = .ok (.aload_n 2, 1) := by decide +kernel
theorem dX2_deliverThroughRelay_118 : decode cX2_deliverThroughRelay 118 = .ok (.getfield 151, 3) := by decide +kernel
theorem dX2_deliverThroughRelay_121 : decode cX2_deliverThroughRelay 121 = .ok (.invokevirtual 160, 3) := by decide +kernel
theorem dX2_deliverThroughRelay_124 : decode cX2_deliverThroughRelay 124 = .ok (.return_, 1) := by decide +kernel
set_option maxRecDepth 20000 in
theorem ggX2_reportToBase_X2_sendToBase : GoodIn wsX2_reportToBase wsX2_sendToBase := goodIn_r _ [9, 1, 10, 11, 12, 13, 14, 15, 16, 17, 18, 19, 20, 21, 22, 23, 24, 25, 26, 27, 28, 8, 29, 30, 4, 31, 32, 33, 34, 35, 36, 37, 38, 39, 40, 41, 42, 43, 44, 45, 46, 47, 48, 49, 50, 51, 52, 53, 54, 55, 56] (by decide +kernel) (by decide +kernel)
set_option maxRecDepth 20000 in
theorem gX2_reportToBase_X2_sendToBase : GoodIn wsX2_reportToBase (wsV RX2 160 RX2 yX2_sendToBase wsX2_sendToBase) := goodIn_app (goodIn_of _ (by decide +kernel)) ggX2_reportToBase_X2_sendToBase
theorem dX2_reportToBase_0 : decode cX2_reportToBase 0 = .ok (.iconst 0, 1) := by decide +kernel
theorem dX2_reportToBase_1 : decode cX2_reportToBase 1 = .ok (.istore_n 1, 1) := by decide +kernel
theorem dX2_reportToBase_2 : decode cX2_reportToBase 2 = .ok (.iload_n 1, 1) := by decide +kernel
theorem dX2_reportToBase_3 : decode cX2_reportToBase 3 = .ok (.aload_n 0, 1) := by decide +kernel
theorem dX2_reportToBase_4 : decode cX2_reportToBase 4 = .ok (.getfield 9, 3) := by decide +kernel
theorem dX2_reportToBase_7 : decode cX2_reportToBase 7 = .ok (.getfield 64, 3) := by decide +kernel
theorem dX2_reportToBase_10 : decode cX2_reportToBase 10 = .ok (.if_icmp .ge 32, 3) := by decide +kernel
theorem dX2_reportToBase_13 : decode cX2_reportToBase 13 = .ok (.aload_n 0, 1) := by decide +kernel
theorem dX2_reportToBase_14 : decode cX2_reportToBase 14 = .ok (.getfield 9, 3) := by decide +kernel
theorem dX2_reportToBase_17 : decode cX2_reportToBase 17 = .ok (.getfield 67, 3) := by decide +kernel
theorem dX2_reportToBase_20 : decode cX2_reportToBase 20 = .ok (.iload_n 1, 1) := by decide +kernel
theorem dX2_reportToBase_21 : decode cX2_reportToBase 21 = .ok (.aaload, 1) := by decide +kernel
theorem dX2_reportToBase_22 : decode cX2_reportToBase 22 = .ok (.astore_n 2, 1) := by decide +kernel
theorem dX2_reportToBase_23 : decode cX2_reportToBase 23 = .ok (.aload_n 2, 1) := by decide +kernel
theorem dX2_reportToBase_24 : decode cX2_reportToBase 24 = .ok (.getfield 84, 3) := by decide +kernel
theorem dX2_reportToBase_27 : decode cX2_reportToBase 27 = .ok (.ifCond .eq 9, 3) := by decide +kernel
theorem dX2_reportToBase_30 : decode cX2_reportToBase 30 = .ok (.aload_n 0, 1) := by decide +kernel
theorem dX2_reportToBase_31 : decode cX2_reportToBase 31 = .ok (.aload_n 2, 1) := by decide +kernel
theorem dX2_reportToBase_32 : decode cX2_reportToBase 32 = .ok (.iconst 1, 1) := by decide +kernel
theorem dX2_reportToBase_33 : decode cX2_reportToBase 33 = .ok (.invokevirtual 160, 3) := by decide +kernel
theorem dX2_reportToBase_36 : decode cX2_reportToBase 36 = .ok (.iinc 1 1, 3) := by decide +kernel
theorem dX2_reportToBase_39 : decode cX2_reportToBase 39 = .ok (.goto (-37), 3) := by decide +kernel
theorem dX2_reportToBase_42 : decode cX2_reportToBase 42 = .ok (.return_, 1) := by decide +kernel
set_option maxRecDepth 20000 in
theorem ggX2_sendToBase_X3_distanceTo : GoodIn wsX2_sendToBase wsX3_distanceTo := goodIn_r _ [9, 10, 11, 40, 41, 42, 43, 44, 45, 46, 47, 48, 49, 50] (by decide +kernel) (by decide +kernel)
set_option maxRecDepth 20000 in
theorem gX2_sendToBase_X3_distanceTo : GoodIn wsX2_sendToBase (wsV RX2 134 RX3 yX3_distanceTo wsX3_distanceTo) := goodIn_app (goodIn_of _ (by decide +kernel)) ggX2_sendToBase_X3_distanceTo
set_option maxRecDepth 20000 in
theorem ggX2_sendToBase_X1_costOver : GoodIn wsX2_sendToBase wsX1_costOver := goodIn_r _ [16, 17, 29, 30, 31, 32, 33, 34, 35, 36, 37, 38, 39] (by decide +kernel) (by decide +kernel)
set_option maxRecDepth 20000 in
theorem gX2_sendToBase_X1_costOver : GoodIn wsX2_sendToBase (wsV RX2 173 RX1 yX1_costOver wsX1_costOver) := goodIn_app (goodIn_of _ (by decide +kernel)) ggX2_sendToBase_X1_costOver
set_option maxRecDepth 20000 in
theorem ggX2_sendToBase_X2_pays : GoodIn wsX2_sendToBase wsX2_pays := goodIn_r _ [22, 23, 24, 1, 25, 26, 27, 40, 41, 42, 43, 44, 45, 46, 47, 48, 49, 50, 28, 29, 30, 31, 32, 33, 34, 35, 36, 37, 38, 39] (by decide +kernel) (by decide +kernel)
set_option maxRecDepth 20000 in
theorem gX2_sendToBase_X2_pays : GoodIn wsX2_sendToBase (wsV RX2 103 RX2 yX2_pays wsX2_pays) := goodIn_app (goodIn_of _ (by decide +kernel)) ggX2_sendToBase_X2_pays
theorem dX2_sendToBase_0 : decode cX2_sendToBase 0 = .ok (.aload_n 0, 1) := by decide +kernel
theorem dX2_sendToBase_1 : decode cX2_sendToBase 1 = .ok (.aload_n 1, 1) := by decide +kernel
theorem dX2_sendToBase_2 : decode cX2_sendToBase 2 = .ok (.aload_n 0, 1) := by decide +kernel
theorem dX2_sendToBase_3 : decode cX2_sendToBase 3 = .ok (.getfield 9, 3) := by decide +kernel
theorem dX2_sendToBase_6 : decode cX2_sendToBase 6 = .ok (.aload_n 1, 1) := by decide +kernel
theorem dX2_sendToBase_7 : decode cX2_sendToBase 7 = .ok (.aload_n 0, 1) := by decide +kernel
theorem dX2_sendToBase_8 : decode cX2_sendToBase 8 = .ok (.getfield 9, 3) := by decide +kernel
theorem dX2_sendToBase_11 : decode cX2_sendToBase 11 = .ok (.getfield 164, 3) := by decide +kernel
theorem dX2_sendToBase_14 : decode cX2_sendToBase 14 = .ok (.aload_n 0, 1) := by decide +kernel
theorem dX2_sendToBase_15 : decode cX2_sendToBase 15 = .ok (.getfield 9, 3) := by decide +kernel
theorem dX2_sendToBase_18 : decode cX2_sendToBase 18 = .ok (.getfield 167, 3) := by decide +kernel
theorem dX2_sendToBase_21 : decode cX2_sendToBase 21 = .ok (.invokevirtual 134, 3) := by decide +kernel
theorem dX2_sendToBase_24 : decode cX2_sendToBase 24 = .ok (.invokevirtual 173, 3) := by decide +kernel
theorem dX2_sendToBase_27 : decode cX2_sendToBase 27 = .ok (.invokevirtual 103, 3) := by decide +kernel
theorem dX2_sendToBase_30 : decode cX2_sendToBase 30 = .ok (.ifCond .eq 16, 3) := by decide +kernel
theorem dX2_sendToBase_33 : decode cX2_sendToBase 33 = .ok (.aload_n 0, 1) := by decide +kernel
theorem dX2_sendToBase_34 : decode cX2_sendToBase 34 = .ok (.getfield 9, 3) := by decide +kernel
theorem dX2_sendToBase_37 : decode cX2_sendToBase 37 = .ok (.dup, 1) := by decide +kernel
theorem dX2_sendToBase_38 : decode cX2_sendToBase 38 = .ok (.getfield 55, 3) := by decide +kernel
theorem dX2_sendToBase_41 : decode cX2_sendToBase 41 = .ok (.iload_n 2, 1) := by decide +kernel
theorem dX2_sendToBase_42 : decode cX2_sendToBase 42 = .ok (.iadd, 1) := by decide +kernel
theorem dX2_sendToBase_43 : decode cX2_sendToBase 43 = .ok (.putfield 55, 3) := by decide +kernel
theorem dX2_sendToBase_46 : decode cX2_sendToBase 46 = .ok (.return_, 1) := by decide +kernel
set_option maxRecDepth 20000 in
theorem ggX2_sends_X3_distanceTo : GoodIn wsX2_sends wsX3_distanceTo := goodIn_r _ [10, 11, 12, 29, 30, 31, 32, 33, 34, 35, 36, 37, 38, 39] (by decide +kernel) (by decide +kernel)
set_option maxRecDepth 20000 in
theorem gX2_sends_X3_distanceTo : GoodIn wsX2_sends (wsV RX2 134 RX3 yX3_distanceTo wsX3_distanceTo) := goodIn_app (goodIn_of _ (by decide +kernel)) ggX2_sends_X3_distanceTo
set_option maxRecDepth 20000 in
theorem ggX2_sends_X1_costOver : GoodIn wsX2_sends wsX1_costOver := goodIn_r _ [17, 18, 40, 41, 42, 43, 44, 45, 46, 47, 48, 49, 50] (by decide +kernel) (by decide +kernel)
set_option maxRecDepth 20000 in
theorem gX2_sends_X1_costOver : GoodIn wsX2_sends (wsV RX2 173 RX1 yX1_costOver wsX1_costOver) := goodIn_app (goodIn_of _ (by decide +kernel)) ggX2_sends_X1_costOver
set_option maxRecDepth 20000 in
theorem ggX2_sends_X2_pays : GoodIn wsX2_sends wsX2_pays := goodIn_r _ [23, 24, 4, 1, 25, 26, 27, 29, 30, 31, 32, 33, 34, 35, 36, 37, 38, 39, 28, 40, 41, 42, 43, 44, 45, 46, 47, 48, 49, 50] (by decide +kernel) (by decide +kernel)
set_option maxRecDepth 20000 in
theorem gX2_sends_X2_pays : GoodIn wsX2_sends (wsV RX2 103 RX2 yX2_pays wsX2_pays) := goodIn_app (goodIn_of _ (by decide +kernel)) ggX2_sends_X2_pays
theorem dX2_sends_0 : decode cX2_sends 0 = .ok (.aload_n 0, 1) := by decide +kernel
theorem dX2_sends_1 : decode cX2_sends 1 = .ok (.aload_n 1, 1) := by decide +kernel
theorem dX2_sends_2 : decode cX2_sends 2 = .ok (.aload_n 0, 1) := by decide +kernel
theorem dX2_sends_3 : decode cX2_sends 3 = .ok (.getfield 9, 3) := by decide +kernel
theorem dX2_sends_6 : decode cX2_sends 6 = .ok (.aload_n 1, 1) := by decide +kernel
theorem dX2_sends_7 : decode cX2_sends 7 = .ok (.aload_n 2, 1) := by decide +kernel
theorem dX2_sends_8 : decode cX2_sends 8 = .ok (.getfield 113, 3) := by decide +kernel
theorem dX2_sends_11 : decode cX2_sends 11 = .ok (.aload_n 2, 1) := by decide +kernel
theorem dX2_sends_12 : decode cX2_sends 12 = .ok (.getfield 116, 3) := by decide +kernel
theorem dX2_sends_15 : decode cX2_sends 15 = .ok (.invokevirtual 134, 3) := by decide +kernel
theorem dX2_sends_18 : decode cX2_sends 18 = .ok (.invokevirtual 173, 3) := by decide +kernel
theorem dX2_sends_21 : decode cX2_sends 21 = .ok (.invokevirtual 103, 3) := by decide +kernel
theorem dX2_sends_24 : decode cX2_sends 24 = .ok (.ifCond .eq 48, 3) := by decide +kernel
theorem dX2_sends_27 : decode cX2_sends 27 = .ok (.aload_n 2, 1) := by decide +kernel
theorem dX2_sends_28 : decode cX2_sends 28 = .ok (.getfield 84, 3) := by decide +kernel
theorem dX2_sends_31 : decode cX2_sends 31 = .ok (.ifCond .eq 41, 3) := by decide +kernel
theorem dX2_sends_34 : decode cX2_sends 34 = .ok (.aload_n 0, 1) := by decide +kernel
theorem dX2_sends_35 : decode cX2_sends 35 = .ok (.aload_n 2, 1) := by decide +kernel
theorem dX2_sends_36 : decode cX2_sends 36 = .ok (.aload_n 0, 1) := by decide +kernel
theorem dX2_sends_37 : decode cX2_sends 37 = .ok (.getfield 9, 3) := by decide +kernel
theorem dX2_sends_40 : decode cX2_sends 40 = .ok (.getfield 80, 3) := by decide +kernel
theorem dX2_sends_43 : decode cX2_sends 43 = .ok (.iconst 1, 1) := by decide +kernel
theorem dX2_sends_44 : decode cX2_sends 44 = .ok (.iaload, 1) := by decide +kernel
theorem dX2_sends_45 : decode cX2_sends 45 = .ok (.invokevirtual 103, 3) := by decide +kernel
theorem dX2_sends_48 : decode cX2_sends 48 = .ok (.ifCond .eq 24, 3) := by decide +kernel
theorem dX2_sends_51 : decode cX2_sends 51 = .ok (.aload_n 0, 1) := by decide +kernel
theorem dX2_sends_52 : decode cX2_sends 52 = .ok (.aload_n 2, 1) := by decide +kernel
theorem dX2_sends_53 : decode cX2_sends 53 = .ok (.aload_n 0, 1) := by decide +kernel
theorem dX2_sends_54 : decode cX2_sends 54 = .ok (.getfield 9, 3) := by decide +kernel
theorem dX2_sends_57 : decode cX2_sends 57 = .ok (.getfield 80, 3) := by decide +kernel
theorem dX2_sends_60 : decode cX2_sends 60 = .ok (.iconst 3, 1) := by decide +kernel
theorem dX2_sends_61 : decode cX2_sends 61 = .ok (.iaload, 1) := by decide +kernel
theorem dX2_sends_62 : decode cX2_sends 62 = .ok (.invokevirtual 103, 3) := by decide +kernel
theorem dX2_sends_65 : decode cX2_sends 65 = .ok (.ifCond .eq 7, 3) := by decide +kernel
theorem dX2_sends_68 : decode cX2_sends 68 = .ok (.iconst 1, 1) := by decide +kernel
theorem dX2_sends_69 : decode cX2_sends 69 = .ok (.goto 4, 3) := by decide +kernel
theorem dX2_sends_72 : decode cX2_sends 72 = .ok (.iconst 0, 1) := by decide +kernel
theorem dX2_sends_73 : decode cX2_sends 73 = .ok (.ireturn, 1) := by decide +kernel
theorem dX2_pays_0 : decode cX2_pays 0 = .ok (.aload_n 1, 1) := by decide +kernel
theorem dX2_pays_1 : decode cX2_pays 1 = .ok (.getfield 177, 3) := by decide +kernel
theorem dX2_pays_4 : decode cX2_pays 4 = .ok (.iload_n 2, 1) := by decide +kernel
theorem dX2_pays_5 : decode cX2_pays 5 = .ok (.if_icmp .ge 21, 3) := by decide +kernel
theorem dX2_pays_8 : decode cX2_pays 8 = .ok (.aload_n 1, 1) := by decide +kernel
theorem dX2_pays_9 : decode cX2_pays 9 = .ok (.iconst 0, 1) := by decide +kernel
theorem dX2_pays_10 : decode cX2_pays 10 = .ok (.putfield 84, 3) := by decide +kernel
theorem dX2_pays_13 : decode cX2_pays 13 = .ok (.aload_n 1, 1) := by decide +kernel
theorem dX2_pays_14 : decode cX2_pays 14 = .ok (.aload_n 0, 1) := by decide +kernel
theorem dX2_pays_15 : decode cX2_pays 15 = .ok (.getfield 9, 3) := by decide +kernel
theorem dX2_pays_18 : decode cX2_pays 18 = .ok (.getfield 58, 3) := by decide +kernel
theorem dX2_pays_21 : decode cX2_pays 21 = .ok (.putfield 180, 3) := by decide +kernel
theorem dX2_pays_24 : decode cX2_pays 24 = .ok (.iconst 0, 1) := by decide +kernel
theorem dX2_pays_25 : decode cX2_pays 25 = .ok (.ireturn, 1) := by decide +kernel
theorem dX2_pays_26 : decode cX2_pays 26 = .ok (.aload_n 1, 1) := by decide +kernel
theorem dX2_pays_27 : decode cX2_pays 27 = .ok (.dup, 1) := by decide +kernel
theorem dX2_pays_28 : decode cX2_pays 28 = .ok (.getfield 177, 3) := by decide +kernel
theorem dX2_pays_31 : decode cX2_pays 31 = .ok (.iload_n 2, 1) := by decide +kernel
theorem dX2_pays_32 : decode cX2_pays 32 = .ok (.isub, 1) := by decide +kernel
theorem dX2_pays_33 : decode cX2_pays 33 = .ok (.putfield 177, 3) := by decide +kernel
theorem dX2_pays_36 : decode cX2_pays 36 = .ok (.aload_n 0, 1) := by decide +kernel
theorem dX2_pays_37 : decode cX2_pays 37 = .ok (.getfield 9, 3) := by decide +kernel
theorem dX2_pays_40 : decode cX2_pays 40 = .ok (.dup, 1) := by decide +kernel
theorem dX2_pays_41 : decode cX2_pays 41 = .ok (.getfield 183, 3) := by decide +kernel
theorem dX2_pays_44 : decode cX2_pays 44 = .ok (.iload_n 2, 1) := by decide +kernel
theorem dX2_pays_45 : decode cX2_pays 45 = .ok (.iadd, 1) := by decide +kernel
theorem dX2_pays_46 : decode cX2_pays 46 = .ok (.putfield 183, 3) := by decide +kernel
theorem dX2_pays_49 : decode cX2_pays 49 = .ok (.iconst 1, 1) := by decide +kernel
theorem dX2_pays_50 : decode cX2_pays 50 = .ok (.ireturn, 1) := by decide +kernel
theorem dX3_init_0 : decode cX3_init 0 = .ok (.aload_n 0, 1) := by decide +kernel
theorem dX3_init_1 : decode cX3_init 1 = .ok (.invokespecial 3, 3) := by decide +kernel
theorem dX3_init_4 : decode cX3_init 4 = .ok (.return_, 1) := by decide +kernel
set_option maxRecDepth 20000 in
theorem ggX3_place_X3_beginRound : GoodIn wsX3_place wsX3_beginRound := goodIn_r _ [12, 13, 14, 15, 16, 17, 18, 19, 20, 21, 22, 23, 24, 25, 26, 27] (by decide +kernel) (by decide +kernel)
set_option maxRecDepth 20000 in
theorem gX3_place_X3_beginRound : GoodIn wsX3_place (wsV RX3 34 RX3 yX3_beginRound wsX3_beginRound) := goodIn_app (goodIn_of _ (by decide +kernel)) ggX3_place_X3_beginRound
theorem dX3_place_0 : decode cX3_place 0 = .ok (.aload_n 0, 1) := by decide +kernel
theorem dX3_place_1 : decode cX3_place 1 = .ok (.iload_n 1, 1) := by decide +kernel
theorem dX3_place_2 : decode cX3_place 2 = .ok (.putfield 9, 3) := by decide +kernel
theorem dX3_place_5 : decode cX3_place 5 = .ok (.aload_n 0, 1) := by decide +kernel
theorem dX3_place_6 : decode cX3_place 6 = .ok (.iload_n 2, 1) := by decide +kernel
theorem dX3_place_7 : decode cX3_place 7 = .ok (.putfield 15, 3) := by decide +kernel
theorem dX3_place_10 : decode cX3_place 10 = .ok (.aload_n 0, 1) := by decide +kernel
theorem dX3_place_11 : decode cX3_place 11 = .ok (.iload_n 3, 1) := by decide +kernel
theorem dX3_place_12 : decode cX3_place 12 = .ok (.putfield 18, 3) := by decide +kernel
theorem dX3_place_15 : decode cX3_place 15 = .ok (.aload_n 0, 1) := by decide +kernel
theorem dX3_place_16 : decode cX3_place 16 = .ok (.iconst 1, 1) := by decide +kernel
theorem dX3_place_17 : decode cX3_place 17 = .ok (.putfield 21, 3) := by decide +kernel
theorem dX3_place_20 : decode cX3_place 20 = .ok (.aload_n 0, 1) := by decide +kernel
theorem dX3_place_21 : decode cX3_place 21 = .ok (.iconst 1, 1) := by decide +kernel
theorem dX3_place_22 : decode cX3_place 22 = .ok (.putfield 25, 3) := by decide +kernel
theorem dX3_place_25 : decode cX3_place 25 = .ok (.aload_n 0, 1) := by decide +kernel
theorem dX3_place_26 : decode cX3_place 26 = .ok (.iconst 0, 1) := by decide +kernel
theorem dX3_place_27 : decode cX3_place 27 = .ok (.putfield 28, 3) := by decide +kernel
theorem dX3_place_30 : decode cX3_place 30 = .ok (.aload_n 0, 1) := by decide +kernel
theorem dX3_place_31 : decode cX3_place 31 = .ok (.bipush (-9), 2) := by decide +kernel
theorem dX3_place_33 : decode cX3_place 33 = .ok (.putfield 31, 3) := by decide +kernel
theorem dX3_place_36 : decode cX3_place 36 = .ok (.aload_n 0, 1) := by decide +kernel
theorem dX3_place_37 : decode cX3_place 37 = .ok (.invokevirtual 34, 3) := by decide +kernel
theorem dX3_place_40 : decode cX3_place 40 = .ok (.return_, 1) := by decide +kernel
theorem dX3_beginRound_0 : decode cX3_beginRound 0 = .ok (.aload_n 0, 1) := by decide +kernel
theorem dX3_beginRound_1 : decode cX3_beginRound 1 = .ok (.bipush (-9), 2) := by decide +kernel
theorem dX3_beginRound_3 : decode cX3_beginRound 3 = .ok (.putfield 37, 3) := by decide +kernel
theorem dX3_beginRound_6 : decode cX3_beginRound 6 = .ok (.aload_n 0, 1) := by decide +kernel
theorem dX3_beginRound_7 : decode cX3_beginRound 7 = .ok (.bipush (-9), 2) := by decide +kernel
theorem dX3_beginRound_9 : decode cX3_beginRound 9 = .ok (.putfield 40, 3) := by decide +kernel
theorem dX3_beginRound_12 : decode cX3_beginRound 12 = .ok (.aload_n 0, 1) := by decide +kernel
theorem dX3_beginRound_13 : decode cX3_beginRound 13 = .ok (.iconst 0, 1) := by decide +kernel
theorem dX3_beginRound_14 : decode cX3_beginRound 14 = .ok (.putfield 43, 3) := by decide +kernel
theorem dX3_beginRound_17 : decode cX3_beginRound 17 = .ok (.aload_n 0, 1) := by decide +kernel
theorem dX3_beginRound_18 : decode cX3_beginRound 18 = .ok (.iconst 0, 1) := by decide +kernel
theorem dX3_beginRound_19 : decode cX3_beginRound 19 = .ok (.putfield 46, 3) := by decide +kernel
theorem dX3_beginRound_22 : decode cX3_beginRound 22 = .ok (.return_, 1) := by decide +kernel
theorem dX3_copyFrom_0 : decode cX3_copyFrom 0 = .ok (.aload_n 0, 1) := by decide +kernel
theorem dX3_copyFrom_1 : decode cX3_copyFrom 1 = .ok (.aload_n 1, 1) := by decide +kernel
theorem dX3_copyFrom_2 : decode cX3_copyFrom 2 = .ok (.getfield 9, 3) := by decide +kernel
theorem dX3_copyFrom_5 : decode cX3_copyFrom 5 = .ok (.putfield 9, 3) := by decide +kernel
theorem dX3_copyFrom_8 : decode cX3_copyFrom 8 = .ok (.aload_n 0, 1) := by decide +kernel
theorem dX3_copyFrom_9 : decode cX3_copyFrom 9 = .ok (.aload_n 1, 1) := by decide +kernel
theorem dX3_copyFrom_10 : decode cX3_copyFrom 10 = .ok (.getfield 15, 3) := by decide +kernel
theorem dX3_copyFrom_13 : decode cX3_copyFrom 13 = .ok (.putfield 15, 3) := by decide +kernel
theorem dX3_copyFrom_16 : decode cX3_copyFrom 16 = .ok (.aload_n 0, 1) := by decide +kernel
theorem dX3_copyFrom_17 : decode cX3_copyFrom 17 = .ok (.aload_n 1, 1) := by decide +kernel
theorem dX3_copyFrom_18 : decode cX3_copyFrom 18 = .ok (.getfield 18, 3) := by decide +kernel
theorem dX3_copyFrom_21 : decode cX3_copyFrom 21 = .ok (.putfield 18, 3) := by decide +kernel
theorem dX3_copyFrom_24 : decode cX3_copyFrom 24 = .ok (.aload_n 0, 1) := by decide +kernel
theorem dX3_copyFrom_25 : decode cX3_copyFrom 25 = .ok (.aload_n 1, 1) := by decide +kernel
theorem dX3_copyFrom_26 : decode cX3_copyFrom 26 = .ok (.getfield 21, 3) := by decide +kernel
theorem dX3_copyFrom_29 : decode cX3_copyFrom 29 = .ok (.putfield 21, 3) := by decide +kernel
theorem dX3_copyFrom_32 : decode cX3_copyFrom 32 = .ok (.aload_n 0, 1) := by decide +kernel
theorem dX3_copyFrom_33 : decode cX3_copyFrom 33 = .ok (.aload_n 1, 1) := by decide +kernel
theorem dX3_copyFrom_34 : decode cX3_copyFrom 34 = .ok (.getfield 25, 3) := by decide +kernel
theorem dX3_copyFrom_37 : decode cX3_copyFrom 37 = .ok (.putfield 25, 3) := by decide +kernel
theorem dX3_copyFrom_40 : decode cX3_copyFrom 40 = .ok (.aload_n 0, 1) := by decide +kernel
theorem dX3_copyFrom_41 : decode cX3_copyFrom 41 = .ok (.aload_n 1, 1) := by decide +kernel
theorem dX3_copyFrom_42 : decode cX3_copyFrom 42 = .ok (.getfield 28, 3) := by decide +kernel
theorem dX3_copyFrom_45 : decode cX3_copyFrom 45 = .ok (.putfield 28, 3) := by decide +kernel
theorem dX3_copyFrom_48 : decode cX3_copyFrom 48 = .ok (.aload_n 0, 1) := by decide +kernel
theorem dX3_copyFrom_49 : decode cX3_copyFrom 49 = .ok (.aload_n 1, 1) := by decide +kernel
theorem dX3_copyFrom_50 : decode cX3_copyFrom 50 = .ok (.getfield 31, 3) := by decide +kernel
theorem dX3_copyFrom_53 : decode cX3_copyFrom 53 = .ok (.putfield 31, 3) := by decide +kernel
theorem dX3_copyFrom_56 : decode cX3_copyFrom 56 = .ok (.aload_n 0, 1) := by decide +kernel
theorem dX3_copyFrom_57 : decode cX3_copyFrom 57 = .ok (.aload_n 1, 1) := by decide +kernel
theorem dX3_copyFrom_58 : decode cX3_copyFrom 58 = .ok (.getfield 37, 3) := by decide +kernel
theorem dX3_copyFrom_61 : decode cX3_copyFrom 61 = .ok (.putfield 37, 3) := by decide +kernel
theorem dX3_copyFrom_64 : decode cX3_copyFrom 64 = .ok (.aload_n 0, 1) := by decide +kernel
theorem dX3_copyFrom_65 : decode cX3_copyFrom 65 = .ok (.aload_n 1, 1) := by decide +kernel
theorem dX3_copyFrom_66 : decode cX3_copyFrom 66 = .ok (.getfield 40, 3) := by decide +kernel
theorem dX3_copyFrom_69 : decode cX3_copyFrom 69 = .ok (.putfield 40, 3) := by decide +kernel
theorem dX3_copyFrom_72 : decode cX3_copyFrom 72 = .ok (.return_, 1) := by decide +kernel
theorem dX3_distanceTo_0 : decode cX3_distanceTo 0 = .ok (.aload_n 0, 1) := by decide +kernel
theorem dX3_distanceTo_1 : decode cX3_distanceTo 1 = .ok (.getfield 9, 3) := by decide +kernel
theorem dX3_distanceTo_4 : decode cX3_distanceTo 4 = .ok (.iload_n 1, 1) := by decide +kernel
theorem dX3_distanceTo_5 : decode cX3_distanceTo 5 = .ok (.isub, 1) := by decide +kernel
theorem dX3_distanceTo_6 : decode cX3_distanceTo 6 = .ok (.istore_n 3, 1) := by decide +kernel
theorem dX3_distanceTo_7 : decode cX3_distanceTo 7 = .ok (.aload_n 0, 1) := by decide +kernel
theorem dX3_distanceTo_8 : decode cX3_distanceTo 8 = .ok (.getfield 15, 3) := by decide +kernel
theorem dX3_distanceTo_11 : decode cX3_distanceTo 11 = .ok (.iload_n 2, 1) := by decide +kernel
theorem dX3_distanceTo_12 : decode cX3_distanceTo 12 = .ok (.isub, 1) := by decide +kernel
theorem dX3_distanceTo_13 : decode cX3_distanceTo 13 = .ok (.istore 4, 2) := by decide +kernel
theorem dX3_distanceTo_15 : decode cX3_distanceTo 15 = .ok (.iload_n 3, 1) := by decide +kernel
theorem dX3_distanceTo_16 : decode cX3_distanceTo 16 = .ok (.iload_n 3, 1) := by decide +kernel
theorem dX3_distanceTo_17 : decode cX3_distanceTo 17 = .ok (.imul, 1) := by decide +kernel
theorem dX3_distanceTo_18 : decode cX3_distanceTo 18 = .ok (.iload 4, 2) := by decide +kernel
theorem dX3_distanceTo_20 : decode cX3_distanceTo 20 = .ok (.iload 4, 2) := by decide +kernel
theorem dX3_distanceTo_22 : decode cX3_distanceTo 22 = .ok (.imul, 1) := by decide +kernel
theorem dX3_distanceTo_23 : decode cX3_distanceTo 23 = .ok (.iadd, 1) := by decide +kernel
theorem dX3_distanceTo_24 : decode cX3_distanceTo 24 = .ok (.ireturn, 1) := by decide +kernel
