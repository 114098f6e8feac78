theorem dX0_init_0 : decode cX0_init 0 = .ok (.aload_n 0, 1) := by decide +kernel
theorem dX0_init_1 : decode cX0_init 1 = .ok (.invokespecial 3, 3) := by decide +kernel
theorem dX0_init_4 : decode cX0_init 4 = .ok (.aload_n 0, 1) := by decide +kernel
theorem dX0_init_5 : decode cX0_init 5 = .ok (.bipush 40, 2) := by decide +kernel
theorem dX0_init_7 : decode cX0_init 7 = .ok (.newarray .int, 2) := by decide +kernel
theorem dX0_init_9 : decode cX0_init 9 = .ok (.putfield 9, 3) := by decide +kernel
theorem dX0_init_12 : decode cX0_init 12 = .ok (.aload_n 0, 1) := by decide +kernel
theorem dX0_init_13 : decode cX0_init 13 = .ok (.bipush 40, 2) := by decide +kernel
theorem dX0_init_15 : decode cX0_init 15 = .ok (.newarray .int, 2) := by decide +kernel
theorem dX0_init_17 : decode cX0_init 17 = .ok (.putfield 15, 3) := by decide +kernel
theorem dX0_init_20 : decode cX0_init 20 = .ok (.aload_n 0, 1) := by decide +kernel
theorem dX0_init_21 : decode cX0_init 21 = .ok (.bipush 40, 2) := by decide +kernel
theorem dX0_init_23 : decode cX0_init 23 = .ok (.newarray .int, 2) := by decide +kernel
theorem dX0_init_25 : decode cX0_init 25 = .ok (.putfield 18, 3) := by decide +kernel
theorem dX0_init_28 : decode cX0_init 28 = .ok (.return_, 1) := by decide +kernel
theorem dX0_forget_0 : decode cX0_forget 0 = .ok (.aload_n 0, 1) := by decide +kernel
theorem dX0_forget_1 : decode cX0_forget 1 = .ok (.iconst 0, 1) := by decide +kernel
theorem dX0_forget_2 : decode cX0_forget 2 = .ok (.putfield 21, 3) := by decide +kernel
theorem dX0_forget_5 : decode cX0_forget 5 = .ok (.aload_n 0, 1) := by decide +kernel
theorem dX0_forget_6 : decode cX0_forget 6 = .ok (.iconst 0, 1) := by decide +kernel
theorem dX0_forget_7 : decode cX0_forget 7 = .ok (.putfield 25, 3) := by decide +kernel
theorem dX0_forget_10 : decode cX0_forget 10 = .ok (.return_, 1) := by decide +kernel
theorem dX0_keep_0 : decode cX0_keep 0 = .ok (.aload_n 0, 1) := by decide +kernel
theorem dX0_keep_1 : decode cX0_keep 1 = .ok (.getfield 21, 3) := by decide +kernel
theorem dX0_keep_4 : decode cX0_keep 4 = .ok (.bipush 40, 2) := by decide +kernel
theorem dX0_keep_6 : decode cX0_keep 6 = .ok (.if_icmp .lt 60, 3) := by decide +kernel
theorem dX0_keep_9 : decode cX0_keep 9 = .ok (.aload_n 0, 1) := by decide +kernel
theorem dX0_keep_10 : decode cX0_keep 10 = .ok (.bipush 39, 2) := by decide +kernel
theorem dX0_keep_12 : decode cX0_keep 12 = .ok (.putfield 21, 3) := by decide +kernel
theorem dX0_keep_15 : decode cX0_keep 15 = .ok (.aload_n 0, 1) := by decide +kernel
theorem dX0_keep_16 : decode cX0_keep 16 = .ok (.getfield 9, 3) := by decide +kernel
theorem dX0_keep_19 : decode cX0_keep 19 = .ok (.iconst 1, 1) := by decide +kernel
theorem dX0_keep_20 : decode cX0_keep 20 = .ok (.aload_n 0, 1) := by decide +kernel
theorem dX0_keep_21 : decode cX0_keep 21 = .ok (.getfield 9, 3) := by decide +kernel
theorem dX0_keep_24 : decode cX0_keep 24 = .ok (.iconst 0, 1) := by decide +kernel
theorem dX0_keep_25 : decode cX0_keep 25 = .ok (.aload_n 0, 1) := by decide +kernel
theorem dX0_keep_26 : decode cX0_keep 26 = .ok (.getfield 21, 3) := by decide +kernel
theorem dX0_keep_29 : decode cX0_keep 29 = .ok (.invokestatic 28, 3) := by decide +kernel
theorem dX0_keep_32 : decode cX0_keep 32 = .ok (.aload_n 0, 1) := by decide +kernel
theorem dX0_keep_33 : decode cX0_keep 33 = .ok (.getfield 15, 3) := by decide +kernel
theorem dX0_keep_36 : decode cX0_keep 36 = .ok (.iconst 1, 1) := by decide +kernel
theorem dX0_keep_37 : decode cX0_keep 37 = .ok (.aload_n 0, 1) := by decide +kernel
theorem dX0_keep_38 : decode cX0_keep 38 = .ok (.getfield 15, 3) := by decide +kernel
theorem dX0_keep_41 : decode cX0_keep 41 = .ok (.iconst 0, 1) := by decide +kernel
theorem dX0_keep_42 : decode cX0_keep 42 = .ok (.aload_n 0, 1) := by decide +kernel
theorem dX0_keep_43 : decode cX0_keep 43 = .ok (.getfield 21, 3) := by decide +kernel
theorem dX0_keep_46 : decode cX0_keep 46 = .ok (.invokestatic 28, 3) := by decide +kernel
theorem dX0_keep_49 : decode cX0_keep 49 = .ok (.aload_n 0, 1) := by decide +kernel
theorem dX0_keep_50 : decode cX0_keep 50 = .ok (.getfield 18, 3) := by decide +kernel
theorem dX0_keep_53 : decode cX0_keep 53 = .ok (.iconst 1, 1) := by decide +kernel
theorem dX0_keep_54 : decode cX0_keep 54 = .ok (.aload_n 0, 1) := by decide +kernel
theorem dX0_keep_55 : decode cX0_keep 55 = .ok (.getfield 18, 3) := by decide +kernel
theorem dX0_keep_58 : decode cX0_keep 58 = .ok (.iconst 0, 1) := by decide +kernel
theorem dX0_keep_59 : decode cX0_keep 59 = .ok (.aload_n 0, 1) := by decide +kernel
theorem dX0_keep_60 : decode cX0_keep 60 = .ok (.getfield 21, 3) := by decide +kernel
theorem dX0_keep_63 : decode cX0_keep 63 = .ok (.invokestatic 28, 3) := by decide +kernel
theorem dX0_keep_66 : decode cX0_keep 66 = .ok (.aload_n 0, 1) := by decide +kernel
theorem dX0_keep_67 : decode cX0_keep 67 = .ok (.getfield 9, 3) := by decide +kernel
theorem dX0_keep_70 : decode cX0_keep 70 = .ok (.aload_n 0, 1) := by decide +kernel
theorem dX0_keep_71 : decode cX0_keep 71 = .ok (.getfield 21, 3) := by decide +kernel
theorem dX0_keep_74 : decode cX0_keep 74 = .ok (.iload_n 1, 1) := by decide +kernel
theorem dX0_keep_75 : decode cX0_keep 75 = .ok (.iastore, 1) := by decide +kernel
theorem dX0_keep_76 : decode cX0_keep 76 = .ok (.aload_n 0, 1) := by decide +kernel
theorem dX0_keep_77 : decode cX0_keep 77 = .ok (.getfield 15, 3) := by decide +kernel
theorem dX0_keep_80 : decode cX0_keep 80 = .ok (.aload_n 0, 1) := by decide +kernel
theorem dX0_keep_81 : decode cX0_keep 81 = .ok (.getfield 21, 3) := by decide +kernel
theorem dX0_keep_84 : decode cX0_keep 84 = .ok (.iload_n 2, 1) := by decide +kernel
theorem dX0_keep_85 : decode cX0_keep 85 = .ok (.iastore, 1) := by decide +kernel
theorem dX0_keep_86 : decode cX0_keep 86 = .ok (.aload_n 0, 1) := by decide +kernel
theorem dX0_keep_87 : decode cX0_keep 87 = .ok (.getfield 18, 3) := by decide +kernel
theorem dX0_keep_90 : decode cX0_keep 90 = .ok (.aload_n 0, 1) := by decide +kernel
theorem dX0_keep_91 : decode cX0_keep 91 = .ok (.getfield 21, 3) := by decide +kernel
theorem dX0_keep_94 : decode cX0_keep 94 = .ok (.iload_n 3, 1) := by decide +kernel
theorem dX0_keep_95 : decode cX0_keep 95 = .ok (.iastore, 1) := by decide +kernel
theorem dX0_keep_96 : decode cX0_keep 96 = .ok (.aload_n 0, 1) := by decide +kernel
theorem dX0_keep_97 : decode cX0_keep 97 = .ok (.dup, 1) := by decide +kernel
theorem dX0_keep_98 : decode cX0_keep 98 = .ok (.getfield 21, 3) := by decide +kernel
theorem dX0_keep_101 : decode cX0_keep 101 = .ok (.iconst 1, 1) := by decide +kernel
theorem dX0_keep_102 : decode cX0_keep 102 = .ok (.iadd, 1) := by decide +kernel
theorem dX0_keep_103 : decode cX0_keep 103 = .ok (.putfield 21, 3) := by decide +kernel
theorem dX0_keep_106 : decode cX0_keep 106 = .ok (.aload_n 0, 1) := by decide +kernel
theorem dX0_keep_107 : decode cX0_keep 107 = .ok (.aload_n 0, 1) := by decide +kernel
theorem dX0_keep_108 : decode cX0_keep 108 = .ok (.getfield 21, 3) := by decide +kernel
theorem dX0_keep_111 : decode cX0_keep 111 = .ok (.putfield 25, 3) := by decide +kernel
theorem dX0_keep_114 : decode cX0_keep 114 = .ok (.return_, 1) := by decide +kernel
set_option maxRecDepth 20000 in
theorem ggX0_takeBackLatest_X0_takeBack : GoodIn wsX0_takeBackLatest wsX0_takeBack := goodIn_r _ [6, 7, 8, 9, 10, 11, 12, 13, 14, 15, 16, 17, 18, 19, 20, 21, 22, 23, 24, 25, 26, 27] (by decide +kernel) (by decide +kernel)
set_option maxRecDepth 20000 in
theorem gX0_takeBackLatest_X0_takeBack : GoodIn wsX0_takeBackLatest (wsV RX0 34 RX0 yX0_takeBack wsX0_takeBack) := goodIn_app (goodIn_of _ (by decide +kernel)) ggX0_takeBackLatest_X0_takeBack
theorem dX0_takeBackLatest_0 : decode cX0_takeBackLatest 0 = .ok (.aload_n 0, 1) := by decide +kernel
theorem dX0_takeBackLatest_1 : decode cX0_takeBackLatest 1 = .ok (.getfield 21, 3) := by decide +kernel
theorem dX0_takeBackLatest_4 : decode cX0_takeBackLatest 4 = .ok (.ifCond .gt 5, 3) := by decide +kernel
theorem dX0_takeBackLatest_7 : decode cX0_takeBackLatest 7 = .ok (.iconst 0, 1) := by decide +kernel
theorem dX0_takeBackLatest_8 : decode cX0_takeBackLatest 8 = .ok (.ireturn, 1) := by decide +kernel
theorem dX0_takeBackLatest_9 : decode cX0_takeBackLatest 9 = .ok (.aload_n 0, 1) := by decide +kernel
theorem dX0_takeBackLatest_10 : decode cX0_takeBackLatest 10 = .ok (.dup, 1) := by decide +kernel
theorem dX0_takeBackLatest_11 : decode cX0_takeBackLatest 11 = .ok (.getfield 21, 3) := by decide +kernel
theorem dX0_takeBackLatest_14 : decode cX0_takeBackLatest 14 = .ok (.iconst 1, 1) := by decide +kernel
theorem dX0_takeBackLatest_15 : decode cX0_takeBackLatest 15 = .ok (.isub, 1) := by decide +kernel
theorem dX0_takeBackLatest_16 : decode cX0_takeBackLatest 16 = .ok (.putfield 21, 3) := by decide +kernel
theorem dX0_takeBackLatest_19 : decode cX0_takeBackLatest 19 = .ok (.aload_n 0, 1) := by decide +kernel
theorem dX0_takeBackLatest_20 : decode cX0_takeBackLatest 20 = .ok (.aload_n 0, 1) := by decide +kernel
theorem dX0_takeBackLatest_21 : decode cX0_takeBackLatest 21 = .ok (.getfield 21, 3) := by decide +kernel
theorem dX0_takeBackLatest_24 : decode cX0_takeBackLatest 24 = .ok (.aload_n 1, 1) := by decide +kernel
theorem dX0_takeBackLatest_25 : decode cX0_takeBackLatest 25 = .ok (.invokevirtual 34, 3) := by decide +kernel
theorem dX0_takeBackLatest_28 : decode cX0_takeBackLatest 28 = .ok (.iconst 1, 1) := by decide +kernel
theorem dX0_takeBackLatest_29 : decode cX0_takeBackLatest 29 = .ok (.ireturn, 1) := by decide +kernel
set_option maxRecDepth 20000 in
theorem ggX0_doAgain_X0_carryOut : GoodIn wsX0_doAgain wsX0_carryOut := goodIn_r _ [7, 8, 9, 10, 11, 12, 13, 14, 15, 16, 17, 18, 19, 20, 21, 22, 23, 24, 25, 26, 27, 28, 29, 30] (by decide +kernel) (by decide +kernel)
set_option maxRecDepth 20000 in
theorem gX0_doAgain_X0_carryOut : GoodIn wsX0_doAgain (wsV RX0 38 RX0 yX0_carryOut wsX0_carryOut) := goodIn_app (goodIn_of _ (by decide +kernel)) ggX0_doAgain_X0_carryOut
theorem dX0_doAgain_0 : decode cX0_doAgain 0 = .ok (.aload_n 0, 1) := by decide +kernel
theorem dX0_doAgain_1 : decode cX0_doAgain 1 = .ok (.getfield 21, 3) := by decide +kernel
theorem dX0_doAgain_4 : decode cX0_doAgain 4 = .ok (.aload_n 0, 1) := by decide +kernel
theorem dX0_doAgain_5 : decode cX0_doAgain 5 = .ok (.getfield 25, 3) := by decide +kernel
theorem dX0_doAgain_8 : decode cX0_doAgain 8 = .ok (.if_icmp .lt 5, 3) := by decide +kernel
theorem dX0_doAgain_11 : decode cX0_doAgain 11 = .ok (.iconst 0, 1) := by decide +kernel
theorem dX0_doAgain_12 : decode cX0_doAgain 12 = .ok (.ireturn, 1) := by decide +kernel
theorem dX0_doAgain_13 : decode cX0_doAgain 13 = .ok (.aload_n 0, 1) := by decide +kernel
theorem dX0_doAgain_14 : decode cX0_doAgain 14 = .ok (.aload_n 0, 1) := by decide +kernel
theorem dX0_doAgain_15 : decode cX0_doAgain 15 = .ok (.getfield 21, 3) := by decide +kernel
theorem dX0_doAgain_18 : decode cX0_doAgain 18 = .ok (.aload_n 1, 1) := by decide +kernel
theorem dX0_doAgain_19 : decode cX0_doAgain 19 = .ok (.invokevirtual 38, 3) := by decide +kernel
theorem dX0_doAgain_22 : decode cX0_doAgain 22 = .ok (.aload_n 0, 1) := by decide +kernel
theorem dX0_doAgain_23 : decode cX0_doAgain 23 = .ok (.dup, 1) := by decide +kernel
theorem dX0_doAgain_24 : decode cX0_doAgain 24 = .ok (.getfield 21, 3) := by decide +kernel
theorem dX0_doAgain_27 : decode cX0_doAgain 27 = .ok (.iconst 1, 1) := by decide +kernel
theorem dX0_doAgain_28 : decode cX0_doAgain 28 = .ok (.iadd, 1) := by decide +kernel
theorem dX0_doAgain_29 : decode cX0_doAgain 29 = .ok (.putfield 21, 3) := by decide +kernel
theorem dX0_doAgain_32 : decode cX0_doAgain 32 = .ok (.iconst 1, 1) := by decide +kernel
theorem dX0_doAgain_33 : decode cX0_doAgain 33 = .ok (.ireturn, 1) := by decide +kernel
set_option maxRecDepth 20000 in
theorem ggX0_carryOut_X9_add : GoodIn wsX0_carryOut wsX9_add := goodIn_r _ [10, 11, 12, 13, 19, 20, 21, 22, 23] (by decide +kernel) (by decide +kernel)
set_option maxRecDepth 20000 in
theorem gX0_carryOut_X9_add : GoodIn wsX0_carryOut (wsV RX0 41 RX9 yX9_add wsX9_add) := goodIn_app (goodIn_of _ (by decide +kernel)) ggX0_carryOut_X9_add
theorem dX0_carryOut_0 : decode cX0_carryOut 0 = .ok (.aload_n 0, 1) := by decide +kernel
theorem dX0_carryOut_1 : decode cX0_carryOut 1 = .ok (.getfield 9, 3) := by decide +kernel
theorem dX0_carryOut_4 : decode cX0_carryOut 4 = .ok (.iload_n 1, 1) := by decide +kernel
theorem dX0_carryOut_5 : decode cX0_carryOut 5 = .ok (.iaload, 1) := by decide +kernel
theorem dX0_carryOut_6 : decode cX0_carryOut 6 = .ok (.ifCond .ne 22, 3) := by decide +kernel
theorem dX0_carryOut_9 : decode cX0_carryOut 9 = .ok (.aload_n 2, 1) := by decide +kernel
theorem dX0_carryOut_10 : decode cX0_carryOut 10 = .ok (.aload_n 0, 1) := by decide +kernel
theorem dX0_carryOut_11 : decode cX0_carryOut 11 = .ok (.getfield 15, 3) := by decide +kernel
theorem dX0_carryOut_14 : decode cX0_carryOut 14 = .ok (.iload_n 1, 1) := by decide +kernel
theorem dX0_carryOut_15 : decode cX0_carryOut 15 = .ok (.iaload, 1) := by decide +kernel
theorem dX0_carryOut_16 : decode cX0_carryOut 16 = .ok (.aload_n 0, 1) := by decide +kernel
theorem dX0_carryOut_17 : decode cX0_carryOut 17 = .ok (.getfield 18, 3) := by decide +kernel
theorem dX0_carryOut_20 : decode cX0_carryOut 20 = .ok (.iload_n 1, 1) := by decide +kernel
theorem dX0_carryOut_21 : decode cX0_carryOut 21 = .ok (.iaload, 1) := by decide +kernel
theorem dX0_carryOut_22 : decode cX0_carryOut 22 = .ok (.invokevirtual 41, 3) := by decide +kernel
theorem dX0_carryOut_25 : decode cX0_carryOut 25 = .ok (.goto 53, 3) := by decide +kernel
theorem dX0_carryOut_28 : decode cX0_carryOut 28 = .ok (.aload_n 0, 1) := by decide +kernel
theorem dX0_carryOut_29 : decode cX0_carryOut 29 = .ok (.getfield 9, 3) := by decide +kernel
theorem dX0_carryOut_32 : decode cX0_carryOut 32 = .ok (.iload_n 1, 1) := by decide +kernel
theorem dX0_carryOut_33 : decode cX0_carryOut 33 = .ok (.iaload, 1) := by decide +kernel
theorem dX0_carryOut_34 : decode cX0_carryOut 34 = .ok (.iconst 1, 1) := by decide +kernel
theorem dX0_carryOut_35 : decode cX0_carryOut 35 = .ok (.if_icmp .ne 23, 3) := by decide +kernel
theorem dX0_carryOut_38 : decode cX0_carryOut 38 = .ok (.aload_n 2, 1) := by decide +kernel
theorem dX0_carryOut_39 : decode cX0_carryOut 39 = .ok (.dup, 1) := by decide +kernel
theorem dX0_carryOut_40 : decode cX0_carryOut 40 = .ok (.getfield 47, 3) := by decide +kernel
theorem dX0_carryOut_43 : decode cX0_carryOut 43 = .ok (.iconst 1, 1) := by decide +kernel
theorem dX0_carryOut_44 : decode cX0_carryOut 44 = .ok (.aload_n 0, 1) := by decide +kernel
theorem dX0_carryOut_45 : decode cX0_carryOut 45 = .ok (.getfield 15, 3) := by decide +kernel
theorem dX0_carryOut_48 : decode cX0_carryOut 48 = .ok (.iload_n 1, 1) := by decide +kernel
theorem dX0_carryOut_49 : decode cX0_carryOut 49 = .ok (.iaload, 1) := by decide +kernel
theorem dX0_carryOut_50 : decode cX0_carryOut 50 = .ok (.ishl, 1) := by decide +kernel
theorem dX0_carryOut_51 : decode cX0_carryOut 51 = .ok (.ixor, 1) := by decide +kernel
theorem dX0_carryOut_52 : decode cX0_carryOut 52 = .ok (.putfield 47, 3) := by decide +kernel
theorem dX0_carryOut_55 : decode cX0_carryOut 55 = .ok (.goto 23, 3) := by decide +kernel
theorem dX0_carryOut_58 : decode cX0_carryOut 58 = .ok (.aload_n 2, 1) := by decide +kernel
theorem dX0_carryOut_59 : decode cX0_carryOut 59 = .ok (.getfield 50, 3) := by decide +kernel
theorem dX0_carryOut_62 : decode cX0_carryOut 62 = .ok (.aload_n 0, 1) := by decide +kernel
theorem dX0_carryOut_63 : decode cX0_carryOut 63 = .ok (.getfield 15, 3) := by decide +kernel
theorem dX0_carryOut_66 : decode cX0_carryOut 66 = .ok (.iload_n 1, 1) := by decide +kernel
theorem dX0_carryOut_67 : decode cX0_carryOut 67 = .ok (.iaload, 1) := by decide +kernel
theorem dX0_carryOut_68 : decode cX0_carryOut 68 = .ok (.dup2, 1) := by decide +kernel
theorem dX0_carryOut_69 : decode cX0_carryOut 69 = .ok (.iaload, 1) := by decide +kernel
theorem dX0_carryOut_70 : decode cX0_carryOut 70 = .ok (.aload_n 0, 1) := by decide +kernel
theorem dX0_carryOut_71 : decode cX0_carryOut 71 = .ok (.getfield 18, 3) := by decide +kernel
theorem dX0_carryOut_74 : decode cX0_carryOut 74 = .ok (.iload_n 1, 1) := by decide +kernel
theorem dX0_carryOut_75 : decode cX0_carryOut 75 = .ok (.iaload, 1) := by decide +kernel
theorem dX0_carryOut_76 : decode cX0_carryOut 76 = .ok (.iadd, 1) := by decide +kernel
theorem dX0_carryOut_77 : decode cX0_carryOut 77 = .ok (.iastore, 1) := by decide +kernel
theorem dX0_carryOut_78 : decode cX0_carryOut 78 = .ok (.return_, 1) := by decide +kernel
set_option maxRecDepth 20000 in
theorem ggX1_init_X10_init : GoodIn wsX1_init wsX10_init := goodIn_r _ [17, 18, 2, 3, 4, 19, 20, 21, 22, 23, 24, 25, 26, 38, 39, 40, 41, 42, 43, 44, 45] (by decide +kernel) (by decide +kernel)
set_option maxRecDepth 20000 in
theorem gX1_init_X10_init : GoodIn wsX1_init (wsX10_init) := ggX1_init_X10_init
set_option maxRecDepth 20000 in
theorem ggX1_init_J7_fill_53178 : GoodIn wsX1_init wsJ7_fill_53178 := goodIn_r _ [30] (by decide +kernel) (by decide +kernel)
set_option maxRecDepth 20000 in
theorem gX1_init_J7_fill_53178 : GoodIn wsX1_init (va_wsS RX1 42 yJ7_fill_53178 wsJ7_fill_53178) := goodIn_app (goodIn_of _ (by decide +kernel)) ggX1_init_J7_fill_53178
theorem dX1_init_0 : decode cX1_init 0 = .ok (.aload_n 0, 1) := by decide +kernel
theorem dX1_init_1 : decode cX1_init 1 = .ok (.invokespecial 3, 3) := by decide +kernel
theorem dX1_init_4 : decode cX1_init 4 = .ok (.aload_n 0, 1) := by decide +kernel
theorem dX1_init_5 : decode cX1_init 5 = .ok (.bipush 96, 2) := by decide +kernel
theorem dX1_init_7 : decode cX1_init 7 = .ok (.newarray .int, 2) := by decide +kernel
theorem dX1_init_9 : decode cX1_init 9 = .ok (.putfield 9, 3) := by decide +kernel
theorem dX1_init_12 : decode cX1_init 12 = .ok (.aload_n 0, 1) := by decide +kernel
theorem dX1_init_13 : decode cX1_init 13 = .ok (.bipush 96, 2) := by decide +kernel
theorem dX1_init_15 : decode cX1_init 15 = .ok (.newarray .int, 2) := by decide +kernel
theorem dX1_init_17 : decode cX1_init 17 = .ok (.putfield 15, 3) := by decide +kernel
theorem dX1_init_20 : decode cX1_init 20 = .ok (.aload_n 0, 1) := by decide +kernel
theorem dX1_init_21 : decode cX1_init 21 = .ok (.bipush 24, 2) := by decide +kernel
theorem dX1_init_23 : decode cX1_init 23 = .ok (.newarray .int, 2) := by decide +kernel
theorem dX1_init_25 : decode cX1_init 25 = .ok (.putfield 18, 3) := by decide +kernel
theorem dX1_init_28 : decode cX1_init 28 = .ok (.aload_n 0, 1) := by decide +kernel
theorem dX1_init_29 : decode cX1_init 29 = .ok (.aload_n 1, 1) := by decide +kernel
theorem dX1_init_30 : decode cX1_init 30 = .ok (.putfield 21, 3) := by decide +kernel
theorem dX1_init_33 : decode cX1_init 33 = .ok (.aload_n 0, 1) := by decide +kernel
theorem dX1_init_34 : decode cX1_init 34 = .ok (.aload_n 2, 1) := by decide +kernel
theorem dX1_init_35 : decode cX1_init 35 = .ok (.putfield 25, 3) := by decide +kernel
theorem dX1_init_38 : decode cX1_init 38 = .ok (.aload_n 0, 1) := by decide +kernel
theorem dX1_init_39 : decode cX1_init 39 = .ok (.aload_n 3, 1) := by decide +kernel
theorem dX1_init_40 : decode cX1_init 40 = .ok (.putfield 29, 3) := by decide +kernel
theorem dX1_init_43 : decode cX1_init 43 = .ok (.aload_n 0, 1) := by decide +kernel
theorem dX1_init_44 : decode cX1_init 44 = .ok (.new 33, 3) := by decide +kernel
theorem dX1_init_47 : decode cX1_init 47 = .ok (.dup, 1) := by decide +kernel
theorem dX1_init_48 : decode cX1_init 48 = .ok (.aload_n 1, 1) := by decide +kernel
theorem dX1_init_49 : decode cX1_init 49 = .ok (.invokespecial 35, 3) := by decide +kernel
theorem dX1_init_52 : decode cX1_init 52 = .ok (.putfield 38, 3) := by decide +kernel
theorem dX1_init_55 : decode cX1_init 55 = .ok (.aload_n 0, 1) := by decide +kernel
theorem dX1_init_56 : decode cX1_init 56 = .ok (.getfield 9, 3) := by decide +kernel
theorem dX1_init_59 : decode cX1_init 59 = .ok (.iconst (-1), 1) := by decide +kernel
theorem dX1_init_60 : decode cX1_init 60 = .ok (.invokestatic 42, 3) := by decide +kernel
theorem dX1_init_63 : decode cX1_init 63 = .ok (.return_, 1) := by decide +kernel
set_option maxRecDepth 20000 in
theorem ggX1_workOut_X9_coming : GoodIn wsX1_workOut wsX9_coming := goodIn_r _ [18, 19, 20, 21, 22, 23, 96, 97, 98, 99, 100] (by decide +kernel) (by decide +kernel)
set_option maxRecDepth 20000 in
theorem gX1_workOut_X9_coming : GoodIn wsX1_workOut (wsV RX1 48 RX9 yX9_coming wsX9_coming) := goodIn_app (goodIn_of _ (by decide +kernel)) ggX1_workOut_X9_coming
set_option maxRecDepth 20000 in
theorem ggX1_workOut_X11_putByMinutes : GoodIn wsX1_workOut wsX11_putByMinutes := goodIn_r _ [25] (by decide +kernel) (by decide +kernel)
set_option maxRecDepth 20000 in
theorem gX1_workOut_X11_putByMinutes_n57 : GoodIn wsX1_workOut (wsX11_putByMinutes) := ggX1_workOut_X11_putByMinutes
set_option maxRecDepth 20000 in
theorem ggX1_workOut_J7_fill_53178 : GoodIn wsX1_workOut wsJ7_fill_53178 := goodIn_r _ [29] (by decide +kernel) (by decide +kernel)
set_option maxRecDepth 20000 in
theorem gX1_workOut_J7_fill_53178 : GoodIn wsX1_workOut (va_wsS RX1 42 yJ7_fill_53178 wsJ7_fill_53178) := goodIn_app (goodIn_of _ (by decide +kernel)) ggX1_workOut_J7_fill_53178
set_option maxRecDepth 20000 in
theorem ggX1_workOut_X10_sit : GoodIn wsX1_workOut wsX10_sit := goodIn_r _ [34, 35, 36, 37, 38, 39, 40, 41, 42, 43, 44, 45, 46, 47, 33, 48, 49, 50, 51, 52, 53, 27, 28, 29, 119, 120, 121, 122, 123, 124, 125, 126, 101, 102, 103, 104, 105, 106, 107, 108, 109, 110, 111, 112, 113, 114, 115, 116, 117, 118] (by decide +kernel) (by decide +kernel)
set_option maxRecDepth 20000 in
theorem gX1_workOut_X10_sit : GoodIn wsX1_workOut (wsV RX1 64 RX10 yX10_sit wsX10_sit) := goodIn_app (goodIn_of _ (by decide +kernel)) ggX1_workOut_X10_sit
set_option maxRecDepth 20000 in
theorem ggX1_workOut_X10_look : GoodIn wsX1_workOut wsX10_look := goodIn_r _ [57, 44, 42, 52, 51, 40, 58, 49, 59, 35, 50, 119, 120, 121, 122, 123, 124, 125, 126, 101, 102, 103, 104, 105, 106, 107, 108, 109, 110, 111, 112, 113, 114, 115, 116, 117, 118] (by decide +kernel) (by decide +kernel)
set_option maxRecDepth 20000 in
theorem gX1_workOut_X10_look : GoodIn wsX1_workOut (wsV RX1 77 RX10 yX10_look wsX10_look) := goodIn_app (goodIn_of _ (by decide +kernel)) ggX1_workOut_X10_look
set_option maxRecDepth 20000 in
theorem ggX1_workOut_X5_of : GoodIn wsX1_workOut wsX5_of := goodIn_r _ [64, 65, 66, 67, 68, 69, 70, 71, 72, 73, 74, 75, 76, 77, 78, 79, 80, 81, 82, 83, 84, 85, 86, 87, 88, 127, 128, 129, 101, 102, 103, 104, 105, 106, 107, 108, 109, 110, 111, 112, 113, 114, 115, 116, 117, 118, 130, 131, 132, 133, 134] (by decide +kernel) (by decide +kernel)
set_option maxRecDepth 20000 in
theorem gX1_workOut_X5_of : GoodIn wsX1_workOut (wsV RX1 87 RX5 yX5_of wsX5_of) := goodIn_app (goodIn_of _ (by decide +kernel)) ggX1_workOut_X5_of
theorem dX1_workOut_0 : decode cX1_workOut 0 = .ok (.aload_n 0, 1) := by decide +kernel
theorem dX1_workOut_1 : decode cX1_workOut 1 = .ok (.getfield 25, 3) := by decide +kernel
theorem dX1_workOut_4 : decode cX1_workOut 4 = .ok (.aload_n 0, 1) := by decide +kernel
theorem dX1_workOut_5 : decode cX1_workOut 5 = .ok (.getfield 18, 3) := by decide +kernel
theorem dX1_workOut_8 : decode cX1_workOut 8 = .ok (.invokevirtual 48, 3) := by decide +kernel
theorem dX1_workOut_11 : decode cX1_workOut 11 = .ok (.istore_n 1, 1) := by decide +kernel
theorem dX1_workOut_12 : decode cX1_workOut 12 = .ok (.aload_n 0, 1) := by decide +kernel
theorem dX1_workOut_13 : decode cX1_workOut 13 = .ok (.getfield 18, 3) := by decide +kernel
theorem dX1_workOut_16 : decode cX1_workOut 16 = .ok (.iload_n 1, 1) := by decide +kernel
theorem dX1_workOut_17 : decode cX1_workOut 17 = .ok (.aload_n 0, 1) := by decide +kernel
theorem dX1_workOut_18 : decode cX1_workOut 18 = .ok (.getfield 25, 3) := by decide +kernel
theorem dX1_workOut_21 : decode cX1_workOut 21 = .ok (.getfield 54, 3) := by decide +kernel
theorem dX1_workOut_24 : decode cX1_workOut 24 = .ok (.invokestatic 57, 3) := by decide +kernel
theorem dX1_workOut_27 : decode cX1_workOut 27 = .ok (.aload_n 0, 1) := by decide +kernel
theorem dX1_workOut_28 : decode cX1_workOut 28 = .ok (.getfield 9, 3) := by decide +kernel
theorem dX1_workOut_31 : decode cX1_workOut 31 = .ok (.iconst (-1), 1) := by decide +kernel
theorem dX1_workOut_32 : decode cX1_workOut 32 = .ok (.invokestatic 42, 3) := by decide +kernel
theorem dX1_workOut_35 : decode cX1_workOut 35 = .ok (.aload_n 0, 1) := by decide +kernel
theorem dX1_workOut_36 : decode cX1_workOut 36 = .ok (.getfield 15, 3) := by decide +kernel
theorem dX1_workOut_39 : decode cX1_workOut 39 = .ok (.iconst 0, 1) := by decide +kernel
theorem dX1_workOut_40 : decode cX1_workOut 40 = .ok (.invokestatic 42, 3) := by decide +kernel
theorem dX1_workOut_43 : decode cX1_workOut 43 = .ok (.aload_n 0, 1) := by decide +kernel
theorem dX1_workOut_44 : decode cX1_workOut 44 = .ok (.getfield 38, 3) := by decide +kernel
theorem dX1_workOut_47 : decode cX1_workOut 47 = .ok (.aload_n 0, 1) := by decide +kernel
theorem dX1_workOut_48 : decode cX1_workOut 48 = .ok (.getfield 25, 3) := by decide +kernel
theorem dX1_workOut_51 : decode cX1_workOut 51 = .ok (.getfield 61, 3) := by decide +kernel
theorem dX1_workOut_54 : decode cX1_workOut 54 = .ok (.invokevirtual 64, 3) := by decide +kernel
theorem dX1_workOut_57 : decode cX1_workOut 57 = .ok (.iconst 0, 1) := by decide +kernel
theorem dX1_workOut_58 : decode cX1_workOut 58 = .ok (.istore_n 2, 1) := by decide +kernel
theorem dX1_workOut_59 : decode cX1_workOut 59 = .ok (.iload_n 2, 1) := by decide +kernel
theorem dX1_workOut_60 : decode cX1_workOut 60 = .ok (.aload_n 0, 1) := by decide +kernel
theorem dX1_workOut_61 : decode cX1_workOut 61 = .ok (.getfield 21, 3) := by decide +kernel
theorem dX1_workOut_64 : decode cX1_workOut 64 = .ok (.getfield 68, 3) := by decide +kernel
theorem dX1_workOut_67 : decode cX1_workOut 67 = .ok (.if_icmp .ge 118, 3) := by decide +kernel
theorem dX1_workOut_70 : decode cX1_workOut 70 = .ok (.iconst 0, 1) := by decide +kernel
theorem dX1_workOut_71 : decode cX1_workOut 71 = .ok (.istore_n 3, 1) := by decide +kernel
theorem dX1_workOut_72 : decode cX1_workOut 72 = .ok (.iload_n 3, 1) := by decide +kernel
theorem dX1_workOut_73 : decode cX1_workOut 73 = .ok (.iload_n 1, 1) := by decide +kernel
theorem dX1_workOut_74 : decode cX1_workOut 74 = .ok (.if_icmp .ge 105, 3) := by decide +kernel
theorem dX1_workOut_77 : decode cX1_workOut 77 = .ok (.aload_n 0, 1) := by decide +kernel
theorem dX1_workOut_78 : decode cX1_workOut 78 = .ok (.getfield 18, 3) := by decide +kernel
theorem dX1_workOut_81 : decode cX1_workOut 81 = .ok (.iload_n 3, 1) := by decide +kernel
theorem dX1_workOut_82 : decode cX1_workOut 82 = .ok (.iaload, 1) := by decide +kernel
theorem dX1_workOut_83 : decode cX1_workOut 83 = .ok (.istore 4, 2) := by decide +kernel
theorem dX1_workOut_85 : decode cX1_workOut 85 = .ok (.aload_n 0, 1) := by decide +kernel
theorem dX1_workOut_86 : decode cX1_workOut 86 = .ok (.getfield 38, 3) := by decide +kernel
theorem dX1_workOut_89 : decode cX1_workOut 89 = .ok (.iload_n 2, 1) := by decide +kernel
theorem dX1_workOut_90 : decode cX1_workOut 90 = .ok (.aload_n 0, 1) := by decide +kernel
theorem dX1_workOut_91 : decode cX1_workOut 91 = .ok (.getfield 25, 3) := by decide +kernel
theorem dX1_workOut_94 : decode cX1_workOut 94 = .ok (.getfield 54, 3) := by decide +kernel
theorem dX1_workOut_97 : decode cX1_workOut 97 = .ok (.iload 4, 2) := by decide +kernel
theorem dX1_workOut_99 : decode cX1_workOut 99 = .ok (.iaload, 1) := by decide +kernel
theorem dX1_workOut_100 : decode cX1_workOut 100 = .ok (.aload_n 0, 1) := by decide +kernel
theorem dX1_workOut_101 : decode cX1_workOut 101 = .ok (.getfield 21, 3) := by decide +kernel
theorem dX1_workOut_104 : decode cX1_workOut 104 = .ok (.getfield 74, 3) := by decide +kernel
theorem dX1_workOut_107 : decode cX1_workOut 107 = .ok (.iload_n 2, 1) := by decide +kernel
theorem dX1_workOut_108 : decode cX1_workOut 108 = .ok (.iaload, 1) := by decide +kernel
theorem dX1_workOut_109 : decode cX1_workOut 109 = .ok (.iadd, 1) := by decide +kernel
theorem dX1_workOut_110 : decode cX1_workOut 110 = .ok (.invokevirtual 77, 3) := by decide +kernel
theorem dX1_workOut_113 : decode cX1_workOut 113 = .ok (.istore 5, 2) := by decide +kernel
theorem dX1_workOut_115 : decode cX1_workOut 115 = .ok (.iload 5, 2) := by decide +kernel
theorem dX1_workOut_117 : decode cX1_workOut 117 = .ok (.iconst (-1), 1) := by decide +kernel
theorem dX1_workOut_118 : decode cX1_workOut 118 = .ok (.if_icmp .eq 55, 3) := by decide +kernel
theorem dX1_workOut_121 : decode cX1_workOut 121 = .ok (.aload_n 0, 1) := by decide +kernel
theorem dX1_workOut_122 : decode cX1_workOut 122 = .ok (.getfield 9, 3) := by decide +kernel
theorem dX1_workOut_125 : decode cX1_workOut 125 = .ok (.iload 4, 2) := by decide +kernel
theorem dX1_workOut_127 : decode cX1_workOut 127 = .ok (.iconst 4, 1) := by decide +kernel
theorem dX1_workOut_128 : decode cX1_workOut 128 = .ok (.imul, 1) := by decide +kernel
theorem dX1_workOut_129 : decode cX1_workOut 129 = .ok (.iload_n 2, 1) := by decide +kernel
theorem dX1_workOut_130 : decode cX1_workOut 130 = .ok (.iadd, 1) := by decide +kernel
theorem dX1_workOut_131 : decode cX1_workOut 131 = .ok (.iload 5, 2) := by decide +kernel
theorem dX1_workOut_133 : decode cX1_workOut 133 = .ok (.iastore, 1) := by decide +kernel
theorem dX1_workOut_134 : decode cX1_workOut 134 = .ok (.aload_n 0, 1) := by decide +kernel
theorem dX1_workOut_135 : decode cX1_workOut 135 = .ok (.getfield 15, 3) := by decide +kernel
theorem dX1_workOut_138 : decode cX1_workOut 138 = .ok (.iload 4, 2) := by decide +kernel
theorem dX1_workOut_140 : decode cX1_workOut 140 = .ok (.iconst 4, 1) := by decide +kernel
theorem dX1_workOut_141 : decode cX1_workOut 141 = .ok (.imul, 1) := by decide +kernel
theorem dX1_workOut_142 : decode cX1_workOut 142 = .ok (.iload_n 2, 1) := by decide +kernel
theorem dX1_workOut_143 : decode cX1_workOut 143 = .ok (.iadd, 1) := by decide +kernel
theorem dX1_workOut_144 : decode cX1_workOut 144 = .ok (.aload_n 0, 1) := by decide +kernel
theorem dX1_workOut_145 : decode cX1_workOut 145 = .ok (.getfield 29, 3) := by decide +kernel
theorem dX1_workOut_148 : decode cX1_workOut 148 = .ok (.iload_n 2, 1) := by decide +kernel
theorem dX1_workOut_149 : decode cX1_workOut 149 = .ok (.aload_n 0, 1) := by decide +kernel
theorem dX1_workOut_150 : decode cX1_workOut 150 = .ok (.getfield 25, 3) := by decide +kernel
theorem dX1_workOut_153 : decode cX1_workOut 153 = .ok (.getfield 81, 3) := by decide +kernel
theorem dX1_workOut_156 : decode cX1_workOut 156 = .ok (.iload 4, 2) := by decide +kernel
theorem dX1_workOut_158 : decode cX1_workOut 158 = .ok (.iaload, 1) := by decide +kernel
theorem dX1_workOut_159 : decode cX1_workOut 159 = .ok (.aload_n 0, 1) := by decide +kernel
theorem dX1_workOut_160 : decode cX1_workOut 160 = .ok (.getfield 38, 3) := by decide +kernel
theorem dX1_workOut_163 : decode cX1_workOut 163 = .ok (.getfield 84, 3) := by decide +kernel
theorem dX1_workOut_166 : decode cX1_workOut 166 = .ok (.iload 5, 2) := by decide +kernel
theorem dX1_workOut_168 : decode cX1_workOut 168 = .ok (.iaload, 1) := by decide +kernel
theorem dX1_workOut_169 : decode cX1_workOut 169 = .ok (.invokevirtual 87, 3) := by decide +kernel
theorem dX1_workOut_172 : decode cX1_workOut 172 = .ok (.iastore, 1) := by decide +kernel
theorem dX1_workOut_173 : decode cX1_workOut 173 = .ok (.iinc 3 1, 3) := by decide +kernel
theorem dX1_workOut_176 : decode cX1_workOut 176 = .ok (.goto (-104), 3) := by decide +kernel
theorem dX1_workOut_179 : decode cX1_workOut 179 = .ok (.iinc 2 1, 3) := by decide +kernel
theorem dX1_workOut_182 : decode cX1_workOut 182 = .ok (.goto (-123), 3) := by decide +kernel
theorem dX1_workOut_185 : decode cX1_workOut 185 = .ok (.return_, 1) := by decide +kernel
set_option maxRecDepth 20000 in
theorem ggX1_takenInAll_X1_takenAt : GoodIn wsX1_takenInAll wsX1_takenAt := goodIn_r _ [7, 8, 9, 10, 11, 12, 13, 14, 15, 16, 17, 36, 37, 38, 39, 40] (by decide +kernel) (by decide +kernel)
set_option maxRecDepth 20000 in
theorem gX1_takenInAll_X1_takenAt : GoodIn wsX1_takenInAll (wsV RX1 96 RX1 yX1_takenAt wsX1_takenAt) := goodIn_app (goodIn_of _ (by decide +kernel)) ggX1_takenInAll_X1_takenAt
theorem dX1_takenInAll_0 : decode cX1_takenInAll 0 = .ok (.iconst 0, 1) := by decide +kernel
theorem dX1_takenInAll_1 : decode cX1_takenInAll 1 = .ok (.istore_n 1, 1) := by decide +kernel
theorem dX1_takenInAll_2 : decode cX1_takenInAll 2 = .ok (.iconst 0, 1) := by decide +kernel
theorem dX1_takenInAll_3 : decode cX1_takenInAll 3 = .ok (.istore_n 2, 1) := by decide +kernel
theorem dX1_takenInAll_4 : decode cX1_takenInAll 4 = .ok (.iload_n 2, 1) := by decide +kernel
theorem dX1_takenInAll_5 : decode cX1_takenInAll 5 = .ok (.aload_n 0, 1) := by decide +kernel
theorem dX1_takenInAll_6 : decode cX1_takenInAll 6 = .ok (.getfield 21, 3) := by decide +kernel
theorem dX1_takenInAll_9 : decode cX1_takenInAll 9 = .ok (.getfield 68, 3) := by decide +kernel
theorem dX1_takenInAll_12 : decode cX1_takenInAll 12 = .ok (.if_icmp .ge 17, 3) := by decide +kernel
theorem dX1_takenInAll_15 : decode cX1_takenInAll 15 = .ok (.iload_n 1, 1) := by decide +kernel
theorem dX1_takenInAll_16 : decode cX1_takenInAll 16 = .ok (.aload_n 0, 1) := by decide +kernel
theorem dX1_takenInAll_17 : decode cX1_takenInAll 17 = .ok (.iload_n 2, 1) := by decide +kernel
theorem dX1_takenInAll_18 : decode cX1_takenInAll 18 = .ok (.invokevirtual 96, 3) := by decide +kernel
theorem dX1_takenInAll_21 : decode cX1_takenInAll 21 = .ok (.iadd, 1) := by decide +kernel
theorem dX1_takenInAll_22 : decode cX1_takenInAll 22 = .ok (.istore_n 1, 1) := by decide +kernel
theorem dX1_takenInAll_23 : decode cX1_takenInAll 23 = .ok (.iinc 2 1, 3) := by decide +kernel
theorem dX1_takenInAll_26 : decode cX1_takenInAll 26 = .ok (.goto (-22), 3) := by decide +kernel
theorem dX1_takenInAll_29 : decode cX1_takenInAll 29 = .ok (.iload_n 1, 1) := by decide +kernel
theorem dX1_takenInAll_30 : decode cX1_takenInAll 30 = .ok (.ireturn, 1) := by decide +kernel
set_option maxRecDepth 20000 in
theorem ggX2_init_X10_init : GoodIn wsX2_init wsX10_init := goodIn_r _ [19, 20, 2, 3, 4, 21, 22, 23, 24, 25, 26, 27, 28, 40, 41, 42, 43, 44, 45, 46, 47] (by decide +kernel) (by decide +kernel)
set_option maxRecDepth 20000 in
theorem gX2_init_X10_init : GoodIn wsX2_init (wsX10_init) := ggX2_init_X10_init
theorem dX2_init_0 : decode cX2_init 0 = .ok (.aload_n 0, 1) := by decide +kernel
theorem dX2_init_1 : decode cX2_init 1 = .ok (.invokespecial 3, 3) := by decide +kernel
theorem dX2_init_4 : decode cX2_init 4 = .ok (.aload_n 0, 1) := by decide +kernel
theorem dX2_init_5 : decode cX2_init 5 = .ok (.bipush 24, 2) := by decide +kernel
theorem dX2_init_7 : decode cX2_init 7 = .ok (.newarray .int, 2) := by decide +kernel
theorem dX2_init_9 : decode cX2_init 9 = .ok (.putfield 9, 3) := by decide +kernel
theorem dX2_init_12 : decode cX2_init 12 = .ok (.aload_n 0, 1) := by decide +kernel
theorem dX2_init_13 : decode cX2_init 13 = .ok (.bipush 24, 2) := by decide +kernel
theorem dX2_init_15 : decode cX2_init 15 = .ok (.newarray .int, 2) := by decide +kernel
theorem dX2_init_17 : decode cX2_init 17 = .ok (.putfield 15, 3) := by decide +kernel
theorem dX2_init_20 : decode cX2_init 20 = .ok (.aload_n 0, 1) := by decide +kernel
theorem dX2_init_21 : decode cX2_init 21 = .ok (.bipush 24, 2) := by decide +kernel
theorem dX2_init_23 : decode cX2_init 23 = .ok (.newarray .int, 2) := by decide +kernel
theorem dX2_init_25 : decode cX2_init 25 = .ok (.putfield 18, 3) := by decide +kernel
theorem dX2_init_28 : decode cX2_init 28 = .ok (.aload_n 0, 1) := by decide +kernel
theorem dX2_init_29 : decode cX2_init 29 = .ok (.iconst 3, 1) := by decide +kernel
theorem dX2_init_30 : decode cX2_init 30 = .ok (.newarray .int, 2) := by decide +kernel
theorem dX2_init_32 : decode cX2_init 32 = .ok (.putfield 21, 3) := by decide +kernel
theorem dX2_init_35 : decode cX2_init 35 = .ok (.aload_n 0, 1) := by decide +kernel
theorem dX2_init_36 : decode cX2_init 36 = .ok (.bipush 24, 2) := by decide +kernel
theorem dX2_init_38 : decode cX2_init 38 = .ok (.newarray .int, 2) := by decide +kernel
theorem dX2_init_40 : decode cX2_init 40 = .ok (.putfield 24, 3) := by decide +kernel
theorem dX2_init_43 : decode cX2_init 43 = .ok (.aload_n 0, 1) := by decide +kernel
theorem dX2_init_44 : decode cX2_init 44 = .ok (.aload_n 1, 1) := by decide +kernel
theorem dX2_init_45 : decode cX2_init 45 = .ok (.putfield 27, 3) := by decide +kernel
theorem dX2_init_48 : decode cX2_init 48 = .ok (.aload_n 0, 1) := by decide +kernel
theorem dX2_init_49 : decode cX2_init 49 = .ok (.aload_n 2, 1) := by decide +kernel
theorem dX2_init_50 : decode cX2_init 50 = .ok (.putfield 31, 3) := by decide +kernel
theorem dX2_init_53 : decode cX2_init 53 = .ok (.aload_n 0, 1) := by decide +kernel
theorem dX2_init_54 : decode cX2_init 54 = .ok (.aload_n 3, 1) := by decide +kernel
theorem dX2_init_55 : decode cX2_init 55 = .ok (.putfield 35, 3) := by decide +kernel
theorem dX2_init_58 : decode cX2_init 58 = .ok (.aload_n 0, 1) := by decide +kernel
theorem dX2_init_59 : decode cX2_init 59 = .ok (.new 39, 3) := by decide +kernel
theorem dX2_init_62 : decode cX2_init 62 = .ok (.dup, 1) := by decide +kernel
theorem dX2_init_63 : decode cX2_init 63 = .ok (.aload_n 1, 1) := by decide +kernel
theorem dX2_init_64 : decode cX2_init 64 = .ok (.invokespecial 41, 3) := by decide +kernel
theorem dX2_init_67 : decode cX2_init 67 = .ok (.putfield 44, 3) := by decide +kernel
theorem dX2_init_70 : decode cX2_init 70 = .ok (.return_, 1) := by decide +kernel
set_option maxRecDepth 20000 in
theorem ggX2_leastOfParty_X2_putInOrder : GoodIn wsX2_leastOfParty wsX2_putInOrder := goodIn_r _ [6, 7, 8, 9, 10, 11, 12, 13, 14, 15, 16, 17, 18, 19, 20, 21, 22, 23, 24, 25, 26, 27, 28, 29, 30, 31, 32, 33, 34, 35, 36, 37, 38, 39, 40, 41, 42, 43, 44, 45, 46, 47, 48, 49, 50, 51, 98, 99, 100, 101, 102, 103, 104, 105, 106, 107, 108, 109, 110, 111, 112, 113, 114, 115, 116, 117, 118, 119, 120, 121, 122, 123, 124, 125, 126, 127, 128, 129, 130, 131, 132, 133, 134, 135, 136, 137, 138, 139] (by decide +kernel) (by decide +kernel)
set_option maxRecDepth 20000 in
theorem gX2_leastOfParty_X2_putInOrder : GoodIn wsX2_leastOfParty (wsV RX2 48 RX2 yX2_putInOrder wsX2_putInOrder) := goodIn_app (goodIn_of _ (by decide +kernel)) ggX2_leastOfParty_X2_putInOrder
set_option maxRecDepth 20000 in
theorem ggX2_leastOfParty_X2_payOfOneMore : GoodIn wsX2_leastOfParty wsX2_payOfOneMore := goodIn_r _ [55, 11, 56, 57, 9, 7, 10, 8, 58, 59, 60, 61, 41, 42, 28, 43, 44, 45, 46, 47, 48, 49, 50, 51, 62, 63, 64, 65, 39, 37, 35, 66, 67, 30, 68, 69, 70, 71, 72, 73, 74, 75, 76, 77, 78, 79, 80, 81, 82, 83, 84, 85, 86, 87, 88, 89, 90, 91, 92, 93, 94, 95, 96, 98, 99, 100, 101, 102, 103, 104, 105, 106, 107, 108, 122, 123, 124, 125, 126, 127, 128, 129, 130, 131, 132, 133, 134, 135, 136, 137, 138, 139, 109, 110, 111, 112, 113, 114, 115, 116, 117, 118, 119, 120, 121, 140, 141, 142, 143, 144, 145, 146, 147] (by decide +kernel) (by decide +kernel)
set_option maxRecDepth 20000 in
theorem gX2_leastOfParty_X2_payOfOneMore : GoodIn wsX2_leastOfParty (wsV RX2 51 RX2 yX2_payOfOneMore wsX2_payOfOneMore) := goodIn_app (goodIn_of _ (by decide +kernel)) ggX2_leastOfParty_X2_payOfOneMore
set_option maxRecDepth 20000 in
theorem ggX2_leastOfParty_J7_fill_53178 : GoodIn wsX2_leastOfParty wsJ7_fill_53178 := goodIn_r _ [51] (by decide +kernel) (by decide +kernel)
set_option maxRecDepth 20000 in
theorem gX2_leastOfParty_J7_fill_53178 : GoodIn wsX2_leastOfParty (va_wsS RX2 55 yJ7_fill_53178 wsJ7_fill_53178) := goodIn_app (goodIn_of _ (by decide +kernel)) ggX2_leastOfParty_J7_fill_53178
theorem dX2_leastOfParty_0 : decode cX2_leastOfParty 0 = .ok (.aload_n 0, 1) := by decide +kernel
theorem dX2_leastOfParty_1 : decode cX2_leastOfParty 1 = .ok (.invokevirtual 48, 3) := by decide +kernel
theorem dX2_leastOfParty_4 : decode cX2_leastOfParty 4 = .ok (.iconst 0, 1) := by decide +kernel
theorem dX2_leastOfParty_5 : decode cX2_leastOfParty 5 = .ok (.istore 6, 2) := by decide +kernel
theorem dX2_leastOfParty_7 : decode cX2_leastOfParty 7 = .ok (.iconst 0, 1) := by decide +kernel
theorem dX2_leastOfParty_8 : decode cX2_leastOfParty 8 = .ok (.istore 7, 2) := by decide +kernel
theorem dX2_leastOfParty_10 : decode cX2_leastOfParty 10 = .ok (.iload 7, 2) := by decide +kernel
theorem dX2_leastOfParty_12 : decode cX2_leastOfParty 12 = .ok (.iload 4, 2) := by decide +kernel
theorem dX2_leastOfParty_14 : decode cX2_leastOfParty 14 = .ok (.if_icmp .gt 53, 3) := by decide +kernel
theorem dX2_leastOfParty_17 : decode cX2_leastOfParty 17 = .ok (.aload_n 0, 1) := by decide +kernel
theorem dX2_leastOfParty_18 : decode cX2_leastOfParty 18 = .ok (.iload_n 2, 1) := by decide +kernel
theorem dX2_leastOfParty_19 : decode cX2_leastOfParty 19 = .ok (.iload_n 3, 1) := by decide +kernel
theorem dX2_leastOfParty_20 : decode cX2_leastOfParty 20 = .ok (.iload 7, 2) := by decide +kernel
theorem dX2_leastOfParty_22 : decode cX2_leastOfParty 22 = .ok (.iadd, 1) := by decide +kernel
theorem dX2_leastOfParty_23 : decode cX2_leastOfParty 23 = .ok (.invokevirtual 51, 3) := by decide +kernel
theorem dX2_leastOfParty_26 : decode cX2_leastOfParty 26 = .ok (.iload_n 1, 1) := by decide +kernel
theorem dX2_leastOfParty_27 : decode cX2_leastOfParty 27 = .ok (.iload 5, 2) := by decide +kernel
theorem dX2_leastOfParty_29 : decode cX2_leastOfParty 29 = .ok (.imul, 1) := by decide +kernel
theorem dX2_leastOfParty_30 : decode cX2_leastOfParty 30 = .ok (.iload 7, 2) := by decide +kernel
theorem dX2_leastOfParty_32 : decode cX2_leastOfParty 32 = .ok (.imul, 1) := by decide +kernel
theorem dX2_leastOfParty_33 : decode cX2_leastOfParty 33 = .ok (.iadd, 1) := by decide +kernel
theorem dX2_leastOfParty_34 : decode cX2_leastOfParty 34 = .ok (.istore 8, 2) := by decide +kernel
theorem dX2_leastOfParty_36 : decode cX2_leastOfParty 36 = .ok (.iload 7, 2) := by decide +kernel
theorem dX2_leastOfParty_38 : decode cX2_leastOfParty 38 = .ok (.ifCond .eq 10, 3) := by decide +kernel
theorem dX2_leastOfParty_41 : decode cX2_leastOfParty 41 = .ok (.iload 8, 2) := by decide +kernel
theorem dX2_leastOfParty_43 : decode cX2_leastOfParty 43 = .ok (.iload 6, 2) := by decide +kernel
theorem dX2_leastOfParty_45 : decode cX2_leastOfParty 45 = .ok (.if_icmp .ge 16, 3) := by decide +kernel
theorem dX2_leastOfParty_48 : decode cX2_leastOfParty 48 = .ok (.iload 8, 2) := by decide +kernel
theorem dX2_leastOfParty_50 : decode cX2_leastOfParty 50 = .ok (.istore 6, 2) := by decide +kernel
theorem dX2_leastOfParty_52 : decode cX2_leastOfParty 52 = .ok (.aload_n 0, 1) := by decide +kernel
theorem dX2_leastOfParty_53 : decode cX2_leastOfParty 53 = .ok (.getfield 21, 3) := by decide +kernel
theorem dX2_leastOfParty_56 : decode cX2_leastOfParty 56 = .ok (.iload 7, 2) := by decide +kernel
theorem dX2_leastOfParty_58 : decode cX2_leastOfParty 58 = .ok (.invokestatic 55, 3) := by decide +kernel
theorem dX2_leastOfParty_61 : decode cX2_leastOfParty 61 = .ok (.iinc 7 1, 3) := by decide +kernel
theorem dX2_leastOfParty_64 : decode cX2_leastOfParty 64 = .ok (.goto (-54), 3) := by decide +kernel
theorem dX2_leastOfParty_67 : decode cX2_leastOfParty 67 = .ok (.iload 6, 2) := by decide +kernel
theorem dX2_leastOfParty_69 : decode cX2_leastOfParty 69 = .ok (.ireturn, 1) := by decide +kernel
set_option maxRecDepth 20000 in
theorem ggX2_bestHeaps_X2_putInOrder : GoodIn wsX2_bestHeaps wsX2_putInOrder := goodIn_r _ [6, 7, 8, 9, 10, 11, 12, 13, 14, 15, 16, 17, 18, 19, 20, 21, 22, 23, 24, 25, 26, 27, 28, 29, 30, 31, 32, 33, 34, 35, 36, 37, 38, 39, 40, 41, 42, 43, 44, 45, 46, 47, 48, 49, 50, 51, 97, 98, 99, 100, 101, 102, 103, 104, 105, 106, 107, 108, 109, 110, 111, 112, 113, 114, 115, 116, 117, 118, 119, 120, 121, 122, 123, 124, 125, 126, 127, 128, 129, 130, 131, 132, 133, 134, 135, 136, 137, 138] (by decide +kernel) (by decide +kernel)
set_option maxRecDepth 20000 in
theorem gX2_bestHeaps_X2_putInOrder : GoodIn wsX2_bestHeaps (wsV RX2 48 RX2 yX2_putInOrder wsX2_putInOrder) := goodIn_app (goodIn_of _ (by decide +kernel)) ggX2_bestHeaps_X2_putInOrder
set_option maxRecDepth 20000 in
theorem ggX2_bestHeaps_X2_payOfOneMore : GoodIn wsX2_bestHeaps wsX2_payOfOneMore := goodIn_r _ [55, 11, 56, 57, 9, 7, 10, 8, 58, 59, 60, 61, 41, 42, 28, 43, 44, 45, 46, 47, 48, 49, 50, 51, 62, 63, 64, 65, 39, 37, 35, 66, 67, 30, 68, 69, 70, 71, 72, 73, 74, 75, 76, 77, 78, 79, 80, 81, 82, 83, 84, 85, 86, 87, 88, 89, 90, 91, 92, 93, 94, 95, 96, 97, 98, 99, 100, 101, 102, 103, 104, 105, 106, 107, 121, 122, 123, 124, 125, 126, 127, 128, 129, 130, 131, 132, 133, 134, 135, 136, 137, 138, 108, 109, 110, 111, 112, 113, 114, 115, 116, 117, 118, 119, 120, 139, 140, 141, 142, 143, 144, 145, 146] (by decide +kernel) (by decide +kernel)
set_option maxRecDepth 20000 in
theorem gX2_bestHeaps_X2_payOfOneMore : GoodIn wsX2_bestHeaps (wsV RX2 51 RX2 yX2_payOfOneMore wsX2_payOfOneMore) := goodIn_app (goodIn_of _ (by decide +kernel)) ggX2_bestHeaps_X2_payOfOneMore
theorem dX2_bestHeaps_0 : decode cX2_bestHeaps 0 = .ok (.aload_n 0, 1) := by decide +kernel
theorem dX2_bestHeaps_1 : decode cX2_bestHeaps 1 = .ok (.invokevirtual 48, 3) := by decide +kernel
theorem dX2_bestHeaps_4 : decode cX2_bestHeaps 4 = .ok (.iconst 0, 1) := by decide +kernel
theorem dX2_bestHeaps_5 : decode cX2_bestHeaps 5 = .ok (.istore_n 3, 1) := by decide +kernel
theorem dX2_bestHeaps_6 : decode cX2_bestHeaps 6 = .ok (.iconst 1, 1) := by decide +kernel
theorem dX2_bestHeaps_7 : decode cX2_bestHeaps 7 = .ok (.istore 4, 2) := by decide +kernel
theorem dX2_bestHeaps_9 : decode cX2_bestHeaps 9 = .ok (.iload 4, 2) := by decide +kernel
theorem dX2_bestHeaps_11 : decode cX2_bestHeaps 11 = .ok (.bipush 6, 2) := by decide +kernel
theorem dX2_bestHeaps_13 : decode cX2_bestHeaps 13 = .ok (.if_icmp .gt 53, 3) := by decide +kernel
theorem dX2_bestHeaps_16 : decode cX2_bestHeaps 16 = .ok (.iload 4, 2) := by decide +kernel
theorem dX2_bestHeaps_18 : decode cX2_bestHeaps 18 = .ok (.iload_n 1, 1) := by decide +kernel
theorem dX2_bestHeaps_19 : decode cX2_bestHeaps 19 = .ok (.if_icmp .gt 47, 3) := by decide +kernel
theorem dX2_bestHeaps_22 : decode cX2_bestHeaps 22 = .ok (.aload_n 0, 1) := by decide +kernel
theorem dX2_bestHeaps_23 : decode cX2_bestHeaps 23 = .ok (.iload_n 1, 1) := by decide +kernel
theorem dX2_bestHeaps_24 : decode cX2_bestHeaps 24 = .ok (.iload 4, 2) := by decide +kernel
theorem dX2_bestHeaps_26 : decode cX2_bestHeaps 26 = .ok (.iadd, 1) := by decide +kernel
theorem dX2_bestHeaps_27 : decode cX2_bestHeaps 27 = .ok (.iconst 1, 1) := by decide +kernel
theorem dX2_bestHeaps_28 : decode cX2_bestHeaps 28 = .ok (.isub, 1) := by decide +kernel
theorem dX2_bestHeaps_29 : decode cX2_bestHeaps 29 = .ok (.iload 4, 2) := by decide +kernel
theorem dX2_bestHeaps_31 : decode cX2_bestHeaps 31 = .ok (.idiv, 1) := by decide +kernel
theorem dX2_bestHeaps_32 : decode cX2_bestHeaps 32 = .ok (.iload_n 2, 1) := by decide +kernel
theorem dX2_bestHeaps_33 : decode cX2_bestHeaps 33 = .ok (.invokevirtual 51, 3) := by decide +kernel
theorem dX2_bestHeaps_36 : decode cX2_bestHeaps 36 = .ok (.istore 5, 2) := by decide +kernel
theorem dX2_bestHeaps_38 : decode cX2_bestHeaps 38 = .ok (.iload_n 3, 1) := by decide +kernel
theorem dX2_bestHeaps_39 : decode cX2_bestHeaps 39 = .ok (.ifCond .eq 12, 3) := by decide +kernel
theorem dX2_bestHeaps_42 : decode cX2_bestHeaps 42 = .ok (.iload 5, 2) := by decide +kernel
theorem dX2_bestHeaps_44 : decode cX2_bestHeaps 44 = .ok (.aload_n 0, 1) := by decide +kernel
theorem dX2_bestHeaps_45 : decode cX2_bestHeaps 45 = .ok (.getfield 61, 3) := by decide +kernel
theorem dX2_bestHeaps_48 : decode cX2_bestHeaps 48 = .ok (.if_icmp .ge 12, 3) := by decide +kernel
theorem dX2_bestHeaps_51 : decode cX2_bestHeaps 51 = .ok (.aload_n 0, 1) := by decide +kernel
theorem dX2_bestHeaps_52 : decode cX2_bestHeaps 52 = .ok (.iload 5, 2) := by decide +kernel
theorem dX2_bestHeaps_54 : decode cX2_bestHeaps 54 = .ok (.putfield 61, 3) := by decide +kernel
theorem dX2_bestHeaps_57 : decode cX2_bestHeaps 57 = .ok (.iload 4, 2) := by decide +kernel
theorem dX2_bestHeaps_59 : decode cX2_bestHeaps 59 = .ok (.istore_n 3, 1) := by decide +kernel
theorem dX2_bestHeaps_60 : decode cX2_bestHeaps 60 = .ok (.iinc 4 1, 3) := by decide +kernel
theorem dX2_bestHeaps_63 : decode cX2_bestHeaps 63 = .ok (.goto (-54), 3) := by decide +kernel
theorem dX2_bestHeaps_66 : decode cX2_bestHeaps 66 = .ok (.iload_n 3, 1) := by decide +kernel
theorem dX2_bestHeaps_67 : decode cX2_bestHeaps 67 = .ok (.ireturn, 1) := by decide +kernel
set_option maxRecDepth 20000 in
theorem ggX2_putInOrder_X9_coming : GoodIn wsX2_putInOrder wsX9_coming := goodIn_r _ [11, 12, 13, 14, 15, 16, 57, 58, 59, 60, 61] (by decide +kernel) (by decide +kernel)
set_option maxRecDepth 20000 in
theorem gX2_putInOrder_X9_coming : GoodIn wsX2_putInOrder (wsV RX2 65 RX9 yX9_coming wsX9_coming) := goodIn_app (goodIn_of _ (by decide +kernel)) ggX2_putInOrder_X9_coming
set_option maxRecDepth 20000 in
theorem ggX2_putInOrder_X11_putByMinutes : GoodIn wsX2_putInOrder wsX11_putByMinutes := goodIn_r _ [18] (by decide +kernel) (by decide +kernel)
set_option maxRecDepth 20000 in
theorem gX2_putInOrder_X11_putByMinutes_n77 : GoodIn wsX2_putInOrder (wsX11_putByMinutes) := ggX2_putInOrder_X11_putByMinutes
set_option maxRecDepth 20000 in
theorem ggX2_putInOrder_X10_sit : GoodIn wsX2_putInOrder wsX10_sit := goodIn_r _ [23, 24, 25, 26, 27, 28, 29, 30, 31, 32, 33, 34, 35, 36, 22, 37, 38, 39, 40, 41, 42, 43, 44, 45, 62, 63, 64, 65, 66, 67, 68, 69, 70, 71, 72, 73, 74, 75, 76, 77, 78, 79, 80, 81, 82, 83, 84, 85, 86, 87] (by decide +kernel) (by decide +kernel)
set_option maxRecDepth 20000 in
theorem gX2_putInOrder_X10_sit : GoodIn wsX2_putInOrder (wsV RX2 84 RX10 yX10_sit wsX10_sit) := goodIn_app (goodIn_of _ (by decide +kernel)) ggX2_putInOrder_X10_sit
theorem dX2_putInOrder_0 : decode cX2_putInOrder 0 = .ok (.aload_n 0, 1) := by decide +kernel
theorem dX2_putInOrder_1 : decode cX2_putInOrder 1 = .ok (.aload_n 0, 1) := by decide +kernel
theorem dX2_putInOrder_2 : decode cX2_putInOrder 2 = .ok (.getfield 31, 3) := by decide +kernel
theorem dX2_putInOrder_5 : decode cX2_putInOrder 5 = .ok (.aload_n 0, 1) := by decide +kernel
theorem dX2_putInOrder_6 : decode cX2_putInOrder 6 = .ok (.getfield 9, 3) := by decide +kernel
theorem dX2_putInOrder_9 : decode cX2_putInOrder 9 = .ok (.invokevirtual 65, 3) := by decide +kernel
theorem dX2_putInOrder_12 : decode cX2_putInOrder 12 = .ok (.putfield 71, 3) := by decide +kernel
theorem dX2_putInOrder_15 : decode cX2_putInOrder 15 = .ok (.aload_n 0, 1) := by decide +kernel
theorem dX2_putInOrder_16 : decode cX2_putInOrder 16 = .ok (.getfield 9, 3) := by decide +kernel
theorem dX2_putInOrder_19 : decode cX2_putInOrder 19 = .ok (.aload_n 0, 1) := by decide +kernel
theorem dX2_putInOrder_20 : decode cX2_putInOrder 20 = .ok (.getfield 71, 3) := by decide +kernel
theorem dX2_putInOrder_23 : decode cX2_putInOrder 23 = .ok (.aload_n 0, 1) := by decide +kernel
theorem dX2_putInOrder_24 : decode cX2_putInOrder 24 = .ok (.getfield 31, 3) := by decide +kernel
theorem dX2_putInOrder_27 : decode cX2_putInOrder 27 = .ok (.getfield 74, 3) := by decide +kernel
theorem dX2_putInOrder_30 : decode cX2_putInOrder 30 = .ok (.invokestatic 77, 3) := by decide +kernel
theorem dX2_putInOrder_33 : decode cX2_putInOrder 33 = .ok (.aload_n 0, 1) := by decide +kernel
theorem dX2_putInOrder_34 : decode cX2_putInOrder 34 = .ok (.getfield 44, 3) := by decide +kernel
theorem dX2_putInOrder_37 : decode cX2_putInOrder 37 = .ok (.aload_n 0, 1) := by decide +kernel
theorem dX2_putInOrder_38 : decode cX2_putInOrder 38 = .ok (.getfield 31, 3) := by decide +kernel
theorem dX2_putInOrder_41 : decode cX2_putInOrder 41 = .ok (.getfield 81, 3) := by decide +kernel
theorem dX2_putInOrder_44 : decode cX2_putInOrder 44 = .ok (.invokevirtual 84, 3) := by decide +kernel
theorem dX2_putInOrder_47 : decode cX2_putInOrder 47 = .ok (.return_, 1) := by decide +kernel
