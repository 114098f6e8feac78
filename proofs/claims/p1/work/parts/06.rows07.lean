set_option maxRecDepth 20000 in
theorem ggX12_layDay_X12_laySeats : GoodIn wsX12_layDay wsX12_laySeats := goodIn_r _ [12, 13, 14, 15, 16, 17, 18, 19, 20, 11, 21, 22, 23, 24, 25, 26, 27, 28, 29, 30, 31, 32, 33, 34, 35, 36, 37, 38, 39, 40, 41, 42, 43, 44, 45, 46, 47, 48, 49, 50, 51, 52, 53, 54, 55, 56, 57, 58, 59, 60, 61, 62, 63, 64, 65, 66, 67, 68, 69, 70, 71, 72, 73, 74, 75, 76, 77, 78, 79, 80, 81, 82, 83, 84, 85, 86, 87, 88, 89, 90, 91, 92, 93, 94, 95, 96] (by decide +kernel) (by decide +kernel)
set_option maxRecDepth 20000 in
theorem gX12_layDay_X12_laySeats : GoodIn wsX12_layDay (wsV RX12 385 RX12 yX12_laySeats wsX12_laySeats) := goodIn_app (goodIn_of _ (by decide +kernel)) ggX12_layDay_X12_laySeats
theorem dX12_layDay_0 : decode cX12_layDay 0 = .ok (.aload_n 0, 1) := by decide +kernel
theorem dX12_layDay_1 : decode cX12_layDay 1 = .ok (.aload_n 0, 1) := by decide +kernel
theorem dX12_layDay_2 : decode cX12_layDay 2 = .ok (.getfield 98, 3) := by decide +kernel
theorem dX12_layDay_5 : decode cX12_layDay 5 = .ok (.iconst 0, 1) := by decide +kernel
theorem dX12_layDay_6 : decode cX12_layDay 6 = .ok (.iaload, 1) := by decide +kernel
theorem dX12_layDay_7 : decode cX12_layDay 7 = .ok (.putfield 379, 3) := by decide +kernel
theorem dX12_layDay_10 : decode cX12_layDay 10 = .ok (.aload_n 0, 1) := by decide +kernel
theorem dX12_layDay_11 : decode cX12_layDay 11 = .ok (.sipush 10000, 3) := by decide +kernel
theorem dX12_layDay_14 : decode cX12_layDay 14 = .ok (.putfield 382, 3) := by decide +kernel
theorem dX12_layDay_17 : decode cX12_layDay 17 = .ok (.iconst 0, 1) := by decide +kernel
theorem dX12_layDay_18 : decode cX12_layDay 18 = .ok (.istore_n 1, 1) := by decide +kernel
theorem dX12_layDay_19 : decode cX12_layDay 19 = .ok (.iload_n 1, 1) := by decide +kernel
theorem dX12_layDay_20 : decode cX12_layDay 20 = .ok (.aload_n 0, 1) := by decide +kernel
theorem dX12_layDay_21 : decode cX12_layDay 21 = .ok (.getfield 379, 3) := by decide +kernel
theorem dX12_layDay_24 : decode cX12_layDay 24 = .ok (.if_icmp .ge 62, 3) := by decide +kernel
theorem dX12_layDay_27 : decode cX12_layDay 27 = .ok (.aload_n 0, 1) := by decide +kernel
theorem dX12_layDay_28 : decode cX12_layDay 28 = .ok (.getfield 101, 3) := by decide +kernel
theorem dX12_layDay_31 : decode cX12_layDay 31 = .ok (.iload_n 1, 1) := by decide +kernel
theorem dX12_layDay_32 : decode cX12_layDay 32 = .ok (.aload_n 0, 1) := by decide +kernel
theorem dX12_layDay_33 : decode cX12_layDay 33 = .ok (.getfield 98, 3) := by decide +kernel
theorem dX12_layDay_36 : decode cX12_layDay 36 = .ok (.iconst 1, 1) := by decide +kernel
theorem dX12_layDay_37 : decode cX12_layDay 37 = .ok (.iload_n 1, 1) := by decide +kernel
theorem dX12_layDay_38 : decode cX12_layDay 38 = .ok (.iadd, 1) := by decide +kernel
theorem dX12_layDay_39 : decode cX12_layDay 39 = .ok (.iaload, 1) := by decide +kernel
theorem dX12_layDay_40 : decode cX12_layDay 40 = .ok (.iastore, 1) := by decide +kernel
theorem dX12_layDay_41 : decode cX12_layDay 41 = .ok (.aload_n 0, 1) := by decide +kernel
theorem dX12_layDay_42 : decode cX12_layDay 42 = .ok (.getfield 104, 3) := by decide +kernel
theorem dX12_layDay_45 : decode cX12_layDay 45 = .ok (.iload_n 1, 1) := by decide +kernel
theorem dX12_layDay_46 : decode cX12_layDay 46 = .ok (.aload_n 0, 1) := by decide +kernel
theorem dX12_layDay_47 : decode cX12_layDay 47 = .ok (.getfield 98, 3) := by decide +kernel
theorem dX12_layDay_50 : decode cX12_layDay 50 = .ok (.bipush 25, 2) := by decide +kernel
theorem dX12_layDay_52 : decode cX12_layDay 52 = .ok (.iload_n 1, 1) := by decide +kernel
theorem dX12_layDay_53 : decode cX12_layDay 53 = .ok (.iadd, 1) := by decide +kernel
theorem dX12_layDay_54 : decode cX12_layDay 54 = .ok (.iaload, 1) := by decide +kernel
theorem dX12_layDay_55 : decode cX12_layDay 55 = .ok (.iastore, 1) := by decide +kernel
theorem dX12_layDay_56 : decode cX12_layDay 56 = .ok (.aload_n 0, 1) := by decide +kernel
theorem dX12_layDay_57 : decode cX12_layDay 57 = .ok (.getfield 137, 3) := by decide +kernel
theorem dX12_layDay_60 : decode cX12_layDay 60 = .ok (.iload_n 1, 1) := by decide +kernel
theorem dX12_layDay_61 : decode cX12_layDay 61 = .ok (.aload_n 0, 1) := by decide +kernel
theorem dX12_layDay_62 : decode cX12_layDay 62 = .ok (.getfield 98, 3) := by decide +kernel
theorem dX12_layDay_65 : decode cX12_layDay 65 = .ok (.bipush 49, 2) := by decide +kernel
theorem dX12_layDay_67 : decode cX12_layDay 67 = .ok (.iload_n 1, 1) := by decide +kernel
theorem dX12_layDay_68 : decode cX12_layDay 68 = .ok (.iadd, 1) := by decide +kernel
theorem dX12_layDay_69 : decode cX12_layDay 69 = .ok (.iaload, 1) := by decide +kernel
theorem dX12_layDay_70 : decode cX12_layDay 70 = .ok (.iconst 1, 1) := by decide +kernel
theorem dX12_layDay_71 : decode cX12_layDay 71 = .ok (.if_icmp .ne 7, 3) := by decide +kernel
theorem dX12_layDay_74 : decode cX12_layDay 74 = .ok (.iconst 1, 1) := by decide +kernel
theorem dX12_layDay_75 : decode cX12_layDay 75 = .ok (.goto 4, 3) := by decide +kernel
theorem dX12_layDay_78 : decode cX12_layDay 78 = .ok (.iconst 0, 1) := by decide +kernel
theorem dX12_layDay_79 : decode cX12_layDay 79 = .ok (.bastore, 1) := by decide +kernel
theorem dX12_layDay_80 : decode cX12_layDay 80 = .ok (.iinc 1 1, 3) := by decide +kernel
theorem dX12_layDay_83 : decode cX12_layDay 83 = .ok (.goto (-64), 3) := by decide +kernel
theorem dX12_layDay_86 : decode cX12_layDay 86 = .ok (.iconst 0, 1) := by decide +kernel
theorem dX12_layDay_87 : decode cX12_layDay 87 = .ok (.istore_n 1, 1) := by decide +kernel
theorem dX12_layDay_88 : decode cX12_layDay 88 = .ok (.iload_n 1, 1) := by decide +kernel
theorem dX12_layDay_89 : decode cX12_layDay 89 = .ok (.iconst 5, 1) := by decide +kernel
theorem dX12_layDay_90 : decode cX12_layDay 90 = .ok (.if_icmp .ge 24, 3) := by decide +kernel
theorem dX12_layDay_93 : decode cX12_layDay 93 = .ok (.aload_n 0, 1) := by decide +kernel
theorem dX12_layDay_94 : decode cX12_layDay 94 = .ok (.getfield 107, 3) := by decide +kernel
theorem dX12_layDay_97 : decode cX12_layDay 97 = .ok (.iload_n 1, 1) := by decide +kernel
theorem dX12_layDay_98 : decode cX12_layDay 98 = .ok (.aload_n 0, 1) := by decide +kernel
theorem dX12_layDay_99 : decode cX12_layDay 99 = .ok (.getfield 98, 3) := by decide +kernel
theorem dX12_layDay_102 : decode cX12_layDay 102 = .ok (.bipush 73, 2) := by decide +kernel
theorem dX12_layDay_104 : decode cX12_layDay 104 = .ok (.iload_n 1, 1) := by decide +kernel
theorem dX12_layDay_105 : decode cX12_layDay 105 = .ok (.iadd, 1) := by decide +kernel
theorem dX12_layDay_106 : decode cX12_layDay 106 = .ok (.iaload, 1) := by decide +kernel
theorem dX12_layDay_107 : decode cX12_layDay 107 = .ok (.iastore, 1) := by decide +kernel
theorem dX12_layDay_108 : decode cX12_layDay 108 = .ok (.iinc 1 1, 3) := by decide +kernel
theorem dX12_layDay_111 : decode cX12_layDay 111 = .ok (.goto (-23), 3) := by decide +kernel
theorem dX12_layDay_114 : decode cX12_layDay 114 = .ok (.aload_n 0, 1) := by decide +kernel
theorem dX12_layDay_115 : decode cX12_layDay 115 = .ok (.invokevirtual 385, 3) := by decide +kernel
theorem dX12_layDay_118 : decode cX12_layDay 118 = .ok (.return_, 1) := by decide +kernel
set_option maxRecDepth 20000 in
theorem ggX12_laySeats_X12_postMany : GoodIn wsX12_laySeats wsX12_postMany := goodIn_r _ [10, 11, 3, 12, 13, 14, 15, 16, 17, 18, 19, 20, 21, 22, 23, 24, 25, 26, 27, 28, 29, 30, 31, 32, 33, 34, 35, 36, 37, 38, 39, 40, 41, 42, 43, 44, 45, 46, 47, 48, 49, 50, 51, 52, 53, 54, 55, 56, 57, 58, 59, 60, 61, 62, 63, 64, 65, 66, 67, 68, 69, 70, 71, 72, 73, 74, 75, 76, 77, 78, 79, 80, 81, 82, 83, 84, 85] (by decide +kernel) (by decide +kernel)
set_option maxRecDepth 20000 in
theorem gX12_laySeats_X12_postMany : GoodIn wsX12_laySeats (wsV RX12 370 RX12 yX12_postMany wsX12_postMany) := goodIn_app (goodIn_of _ (by decide +kernel)) ggX12_laySeats_X12_postMany
theorem dX12_laySeats_0 : decode cX12_laySeats 0 = .ok (.iconst 0, 1) := by decide +kernel
theorem dX12_laySeats_1 : decode cX12_laySeats 1 = .ok (.istore_n 1, 1) := by decide +kernel
theorem dX12_laySeats_2 : decode cX12_laySeats 2 = .ok (.iload_n 1, 1) := by decide +kernel
theorem dX12_laySeats_3 : decode cX12_laySeats 3 = .ok (.aload_n 0, 1) := by decide +kernel
theorem dX12_laySeats_4 : decode cX12_laySeats 4 = .ok (.invokevirtual 370, 3) := by decide +kernel
theorem dX12_laySeats_7 : decode cX12_laySeats 7 = .ok (.if_icmp .ge 73, 3) := by decide +kernel
theorem dX12_laySeats_10 : decode cX12_laySeats 10 = .ok (.aload_n 0, 1) := by decide +kernel
theorem dX12_laySeats_11 : decode cX12_laySeats 11 = .ok (.getfield 110, 3) := by decide +kernel
theorem dX12_laySeats_14 : decode cX12_laySeats 14 = .ok (.iload_n 1, 1) := by decide +kernel
theorem dX12_laySeats_15 : decode cX12_laySeats 15 = .ok (.aload_n 0, 1) := by decide +kernel
theorem dX12_laySeats_16 : decode cX12_laySeats 16 = .ok (.getfield 51, 3) := by decide +kernel
theorem dX12_laySeats_19 : decode cX12_laySeats 19 = .ok (.iconst 4, 1) := by decide +kernel
theorem dX12_laySeats_20 : decode cX12_laySeats 20 = .ok (.aload_n 0, 1) := by decide +kernel
theorem dX12_laySeats_21 : decode cX12_laySeats 21 = .ok (.getfield 286, 3) := by decide +kernel
theorem dX12_laySeats_24 : decode cX12_laySeats 24 = .ok (.imul, 1) := by decide +kernel
theorem dX12_laySeats_25 : decode cX12_laySeats 25 = .ok (.iload_n 1, 1) := by decide +kernel
theorem dX12_laySeats_26 : decode cX12_laySeats 26 = .ok (.iadd, 1) := by decide +kernel
theorem dX12_laySeats_27 : decode cX12_laySeats 27 = .ok (.iaload, 1) := by decide +kernel
theorem dX12_laySeats_28 : decode cX12_laySeats 28 = .ok (.iastore, 1) := by decide +kernel
theorem dX12_laySeats_29 : decode cX12_laySeats 29 = .ok (.iconst 0, 1) := by decide +kernel
theorem dX12_laySeats_30 : decode cX12_laySeats 30 = .ok (.istore_n 2, 1) := by decide +kernel
theorem dX12_laySeats_31 : decode cX12_laySeats 31 = .ok (.iload_n 2, 1) := by decide +kernel
theorem dX12_laySeats_32 : decode cX12_laySeats 32 = .ok (.aload_n 0, 1) := by decide +kernel
theorem dX12_laySeats_33 : decode cX12_laySeats 33 = .ok (.getfield 110, 3) := by decide +kernel
theorem dX12_laySeats_36 : decode cX12_laySeats 36 = .ok (.iload_n 1, 1) := by decide +kernel
theorem dX12_laySeats_37 : decode cX12_laySeats 37 = .ok (.iaload, 1) := by decide +kernel
theorem dX12_laySeats_38 : decode cX12_laySeats 38 = .ok (.if_icmp .ge 36, 3) := by decide +kernel
theorem dX12_laySeats_41 : decode cX12_laySeats 41 = .ok (.aload_n 0, 1) := by decide +kernel
theorem dX12_laySeats_42 : decode cX12_laySeats 42 = .ok (.getfield 113, 3) := by decide +kernel
theorem dX12_laySeats_45 : decode cX12_laySeats 45 = .ok (.iconst 5, 1) := by decide +kernel
theorem dX12_laySeats_46 : decode cX12_laySeats 46 = .ok (.iload_n 1, 1) := by decide +kernel
theorem dX12_laySeats_47 : decode cX12_laySeats 47 = .ok (.imul, 1) := by decide +kernel
theorem dX12_laySeats_48 : decode cX12_laySeats 48 = .ok (.iload_n 2, 1) := by decide +kernel
theorem dX12_laySeats_49 : decode cX12_laySeats 49 = .ok (.iadd, 1) := by decide +kernel
theorem dX12_laySeats_50 : decode cX12_laySeats 50 = .ok (.aload_n 0, 1) := by decide +kernel
theorem dX12_laySeats_51 : decode cX12_laySeats 51 = .ok (.getfield 54, 3) := by decide +kernel
theorem dX12_laySeats_54 : decode cX12_laySeats 54 = .ok (.iconst 5, 1) := by decide +kernel
theorem dX12_laySeats_55 : decode cX12_laySeats 55 = .ok (.iconst 4, 1) := by decide +kernel
theorem dX12_laySeats_56 : decode cX12_laySeats 56 = .ok (.aload_n 0, 1) := by decide +kernel
theorem dX12_laySeats_57 : decode cX12_laySeats 57 = .ok (.getfield 286, 3) := by decide +kernel
theorem dX12_laySeats_60 : decode cX12_laySeats 60 = .ok (.imul, 1) := by decide +kernel
theorem dX12_laySeats_61 : decode cX12_laySeats 61 = .ok (.iload_n 1, 1) := by decide +kernel
theorem dX12_laySeats_62 : decode cX12_laySeats 62 = .ok (.iadd, 1) := by decide +kernel
theorem dX12_laySeats_63 : decode cX12_laySeats 63 = .ok (.imul, 1) := by decide +kernel
theorem dX12_laySeats_64 : decode cX12_laySeats 64 = .ok (.iload_n 2, 1) := by decide +kernel
theorem dX12_laySeats_65 : decode cX12_laySeats 65 = .ok (.iadd, 1) := by decide +kernel
theorem dX12_laySeats_66 : decode cX12_laySeats 66 = .ok (.iaload, 1) := by decide +kernel
theorem dX12_laySeats_67 : decode cX12_laySeats 67 = .ok (.iastore, 1) := by decide +kernel
theorem dX12_laySeats_68 : decode cX12_laySeats 68 = .ok (.iinc 2 1, 3) := by decide +kernel
theorem dX12_laySeats_71 : decode cX12_laySeats 71 = .ok (.goto (-40), 3) := by decide +kernel
theorem dX12_laySeats_74 : decode cX12_laySeats 74 = .ok (.iinc 1 1, 3) := by decide +kernel
theorem dX12_laySeats_77 : decode cX12_laySeats 77 = .ok (.goto (-75), 3) := by decide +kernel
theorem dX12_laySeats_80 : decode cX12_laySeats 80 = .ok (.return_, 1) := by decide +kernel
theorem dX12_add_0 : decode cX12_add 0 = .ok (.aload_n 0, 1) := by decide +kernel
theorem dX12_add_1 : decode cX12_add 1 = .ok (.getfield 101, 3) := by decide +kernel
theorem dX12_add_4 : decode cX12_add 4 = .ok (.aload_n 0, 1) := by decide +kernel
theorem dX12_add_5 : decode cX12_add 5 = .ok (.getfield 379, 3) := by decide +kernel
theorem dX12_add_8 : decode cX12_add 8 = .ok (.iload_n 1, 1) := by decide +kernel
theorem dX12_add_9 : decode cX12_add 9 = .ok (.iastore, 1) := by decide +kernel
theorem dX12_add_10 : decode cX12_add 10 = .ok (.aload_n 0, 1) := by decide +kernel
theorem dX12_add_11 : decode cX12_add 11 = .ok (.getfield 104, 3) := by decide +kernel
theorem dX12_add_14 : decode cX12_add 14 = .ok (.aload_n 0, 1) := by decide +kernel
theorem dX12_add_15 : decode cX12_add 15 = .ok (.getfield 379, 3) := by decide +kernel
theorem dX12_add_18 : decode cX12_add 18 = .ok (.iload_n 2, 1) := by decide +kernel
theorem dX12_add_19 : decode cX12_add 19 = .ok (.iastore, 1) := by decide +kernel
theorem dX12_add_20 : decode cX12_add 20 = .ok (.aload_n 0, 1) := by decide +kernel
theorem dX12_add_21 : decode cX12_add 21 = .ok (.getfield 137, 3) := by decide +kernel
theorem dX12_add_24 : decode cX12_add 24 = .ok (.aload_n 0, 1) := by decide +kernel
theorem dX12_add_25 : decode cX12_add 25 = .ok (.getfield 379, 3) := by decide +kernel
theorem dX12_add_28 : decode cX12_add 28 = .ok (.iconst 1, 1) := by decide +kernel
theorem dX12_add_29 : decode cX12_add 29 = .ok (.bastore, 1) := by decide +kernel
theorem dX12_add_30 : decode cX12_add 30 = .ok (.aload_n 0, 1) := by decide +kernel
theorem dX12_add_31 : decode cX12_add 31 = .ok (.dup, 1) := by decide +kernel
theorem dX12_add_32 : decode cX12_add 32 = .ok (.getfield 379, 3) := by decide +kernel
theorem dX12_add_35 : decode cX12_add 35 = .ok (.iconst 1, 1) := by decide +kernel
theorem dX12_add_36 : decode cX12_add 36 = .ok (.iadd, 1) := by decide +kernel
theorem dX12_add_37 : decode cX12_add 37 = .ok (.putfield 379, 3) := by decide +kernel
theorem dX12_add_40 : decode cX12_add 40 = .ok (.return_, 1) := by decide +kernel
theorem dX12_layTurns_0 : decode cX12_layTurns 0 = .ok (.iconst 0, 1) := by decide +kernel
theorem dX12_layTurns_1 : decode cX12_layTurns 1 = .ok (.istore_n 1, 1) := by decide +kernel
theorem dX12_layTurns_2 : decode cX12_layTurns 2 = .ok (.iconst 0, 1) := by decide +kernel
theorem dX12_layTurns_3 : decode cX12_layTurns 3 = .ok (.istore_n 2, 1) := by decide +kernel
theorem dX12_layTurns_4 : decode cX12_layTurns 4 = .ok (.iload_n 2, 1) := by decide +kernel
theorem dX12_layTurns_5 : decode cX12_layTurns 5 = .ok (.aload_n 0, 1) := by decide +kernel
theorem dX12_layTurns_6 : decode cX12_layTurns 6 = .ok (.getfield 379, 3) := by decide +kernel
theorem dX12_layTurns_9 : decode cX12_layTurns 9 = .ok (.if_icmp .ge 79, 3) := by decide +kernel
theorem dX12_layTurns_12 : decode cX12_layTurns 12 = .ok (.aload_n 0, 1) := by decide +kernel
theorem dX12_layTurns_13 : decode cX12_layTurns 13 = .ok (.getfield 137, 3) := by decide +kernel
theorem dX12_layTurns_16 : decode cX12_layTurns 16 = .ok (.iload_n 2, 1) := by decide +kernel
theorem dX12_layTurns_17 : decode cX12_layTurns 17 = .ok (.baload, 1) := by decide +kernel
theorem dX12_layTurns_18 : decode cX12_layTurns 18 = .ok (.ifCond .ne 6, 3) := by decide +kernel
theorem dX12_layTurns_21 : decode cX12_layTurns 21 = .ok (.goto 61, 3) := by decide +kernel
theorem dX12_layTurns_24 : decode cX12_layTurns 24 = .ok (.iload_n 1, 1) := by decide +kernel
theorem dX12_layTurns_25 : decode cX12_layTurns 25 = .ok (.istore_n 3, 1) := by decide +kernel
theorem dX12_layTurns_26 : decode cX12_layTurns 26 = .ok (.iload_n 3, 1) := by decide +kernel
theorem dX12_layTurns_27 : decode cX12_layTurns 27 = .ok (.ifCond .le 45, 3) := by decide +kernel
theorem dX12_layTurns_30 : decode cX12_layTurns 30 = .ok (.aload_n 0, 1) := by decide +kernel
theorem dX12_layTurns_31 : decode cX12_layTurns 31 = .ok (.getfield 101, 3) := by decide +kernel
theorem dX12_layTurns_34 : decode cX12_layTurns 34 = .ok (.aload_n 0, 1) := by decide +kernel
theorem dX12_layTurns_35 : decode cX12_layTurns 35 = .ok (.getfield 116, 3) := by decide +kernel
theorem dX12_layTurns_38 : decode cX12_layTurns 38 = .ok (.iload_n 3, 1) := by decide +kernel
theorem dX12_layTurns_39 : decode cX12_layTurns 39 = .ok (.iconst 1, 1) := by decide +kernel
theorem dX12_layTurns_40 : decode cX12_layTurns 40 = .ok (.isub, 1) := by decide +kernel
theorem dX12_layTurns_41 : decode cX12_layTurns 41 = .ok (.iaload, 1) := by decide +kernel
theorem dX12_layTurns_42 : decode cX12_layTurns 42 = .ok (.iaload, 1) := by decide +kernel
theorem dX12_layTurns_43 : decode cX12_layTurns 43 = .ok (.aload_n 0, 1) := by decide +kernel
theorem dX12_layTurns_44 : decode cX12_layTurns 44 = .ok (.getfield 101, 3) := by decide +kernel
theorem dX12_layTurns_47 : decode cX12_layTurns 47 = .ok (.iload_n 2, 1) := by decide +kernel
theorem dX12_layTurns_48 : decode cX12_layTurns 48 = .ok (.iaload, 1) := by decide +kernel
theorem dX12_layTurns_49 : decode cX12_layTurns 49 = .ok (.if_icmp .le 23, 3) := by decide +kernel
theorem dX12_layTurns_52 : decode cX12_layTurns 52 = .ok (.aload_n 0, 1) := by decide +kernel
theorem dX12_layTurns_53 : decode cX12_layTurns 53 = .ok (.getfield 116, 3) := by decide +kernel
theorem dX12_layTurns_56 : decode cX12_layTurns 56 = .ok (.iload_n 3, 1) := by decide +kernel
theorem dX12_layTurns_57 : decode cX12_layTurns 57 = .ok (.aload_n 0, 1) := by decide +kernel
theorem dX12_layTurns_58 : decode cX12_layTurns 58 = .ok (.getfield 116, 3) := by decide +kernel
theorem dX12_layTurns_61 : decode cX12_layTurns 61 = .ok (.iload_n 3, 1) := by decide +kernel
theorem dX12_layTurns_62 : decode cX12_layTurns 62 = .ok (.iconst 1, 1) := by decide +kernel
theorem dX12_layTurns_63 : decode cX12_layTurns 63 = .ok (.isub, 1) := by decide +kernel
theorem dX12_layTurns_64 : decode cX12_layTurns 64 = .ok (.iaload, 1) := by decide +kernel
theorem dX12_layTurns_65 : decode cX12_layTurns 65 = .ok (.iastore, 1) := by decide +kernel
theorem dX12_layTurns_66 : decode cX12_layTurns 66 = .ok (.iinc 3 (-1), 3) := by decide +kernel
theorem dX12_layTurns_69 : decode cX12_layTurns 69 = .ok (.goto (-43), 3) := by decide +kernel
theorem dX12_layTurns_72 : decode cX12_layTurns 72 = .ok (.aload_n 0, 1) := by decide +kernel
theorem dX12_layTurns_73 : decode cX12_layTurns 73 = .ok (.getfield 116, 3) := by decide +kernel
theorem dX12_layTurns_76 : decode cX12_layTurns 76 = .ok (.iload_n 3, 1) := by decide +kernel
theorem dX12_layTurns_77 : decode cX12_layTurns 77 = .ok (.iload_n 2, 1) := by decide +kernel
theorem dX12_layTurns_78 : decode cX12_layTurns 78 = .ok (.iastore, 1) := by decide +kernel
theorem dX12_layTurns_79 : decode cX12_layTurns 79 = .ok (.iinc 1 1, 3) := by decide +kernel
theorem dX12_layTurns_82 : decode cX12_layTurns 82 = .ok (.iinc 2 1, 3) := by decide +kernel
theorem dX12_layTurns_85 : decode cX12_layTurns 85 = .ok (.goto (-81), 3) := by decide +kernel
theorem dX12_layTurns_88 : decode cX12_layTurns 88 = .ok (.iload_n 1, 1) := by decide +kernel
theorem dX12_layTurns_89 : decode cX12_layTurns 89 = .ok (.ireturn, 1) := by decide +kernel
set_option maxRecDepth 20000 in
theorem ggX12_goesBy_X12_layTurns : GoodIn wsX12_goesBy wsX12_layTurns := goodIn_r _ [15, 16, 17, 6, 7, 51, 52, 53, 54, 55, 56, 57, 58, 59, 60, 61, 62, 63, 64, 65, 66, 67, 68, 69, 70, 71, 72, 73, 74, 75, 76, 77, 78, 79, 80, 81, 82, 83, 84, 85, 86, 87, 88, 89, 90, 91, 92, 93, 94, 95, 96, 97, 98, 99, 100, 101, 102, 103, 104, 105, 106, 107, 108, 109, 110, 111, 112, 113, 114, 115, 116, 117, 118, 119, 120, 121, 122, 123, 124] (by decide +kernel) (by decide +kernel)
set_option maxRecDepth 20000 in
theorem gX12_goesBy_X12_layTurns : GoodIn wsX12_goesBy (wsV RX12 388 RX12 yX12_layTurns wsX12_layTurns) := goodIn_app (goodIn_of _ (by decide +kernel)) ggX12_goesBy_X12_layTurns
set_option maxRecDepth 20000 in
theorem ggX12_goesBy_X12_postMany : GoodIn wsX12_goesBy wsX12_postMany := goodIn_r _ [21, 22, 9, 51, 52, 53, 54, 55, 56, 57, 58, 59, 60, 61, 62, 63, 64, 65, 66, 67, 68, 69, 70, 71, 72, 73, 74, 75, 76, 77, 78, 79, 80, 81, 82, 83, 84, 85, 86, 87, 88, 89, 90, 91, 92, 93, 94, 95, 96, 97, 98, 99, 100, 101, 102, 103, 104, 105, 106, 107, 108, 109, 110, 111, 112, 113, 114, 115, 116, 117, 118, 119, 120, 121, 122, 123, 124] (by decide +kernel) (by decide +kernel)
set_option maxRecDepth 20000 in
theorem gX12_goesBy_X12_postMany : GoodIn wsX12_goesBy (wsV RX12 370 RX12 yX12_postMany wsX12_postMany) := goodIn_app (goodIn_of _ (by decide +kernel)) ggX12_goesBy_X12_postMany
set_option maxRecDepth 20000 in
theorem ggX12_goesBy_X12_comesBy : GoodIn wsX12_goesBy wsX12_comesBy := goodIn_r _ [26, 6, 8, 9, 27, 28, 3, 29, 30, 1, 31, 32, 33, 2, 5, 4, 34, 35, 36, 37, 38, 14, 39, 40, 41, 42, 43, 44, 45, 46, 47, 48, 49, 50, 51, 52, 53, 54, 55, 56, 57, 58, 59, 60, 61, 62, 63, 64, 65, 66, 67, 68, 69, 70, 71, 72, 73, 74, 75, 76, 77, 78, 79, 80, 81, 82, 83, 84, 85, 86, 87, 88, 89, 90, 91, 92, 93, 94, 95, 96, 97, 98, 99, 100, 101, 102, 103, 104, 105, 106, 107, 108, 109, 110, 111, 112, 113, 114, 115, 116, 117, 118, 119, 120, 121, 122, 123, 124] (by decide +kernel) (by decide +kernel)
set_option maxRecDepth 20000 in
theorem gX12_goesBy_X12_comesBy : GoodIn wsX12_goesBy (wsV RX12 391 RX12 yX12_comesBy wsX12_comesBy) := goodIn_app (goodIn_of _ (by decide +kernel)) ggX12_goesBy_X12_comesBy
theorem dX12_goesBy_0 : decode cX12_goesBy 0 = .ok (.aload_n 0, 1) := by decide +kernel
theorem dX12_goesBy_1 : decode cX12_goesBy 1 = .ok (.invokevirtual 388, 3) := by decide +kernel
theorem dX12_goesBy_4 : decode cX12_goesBy 4 = .ok (.istore_n 1, 1) := by decide +kernel
theorem dX12_goesBy_5 : decode cX12_goesBy 5 = .ok (.iconst 0, 1) := by decide +kernel
theorem dX12_goesBy_6 : decode cX12_goesBy 6 = .ok (.istore_n 2, 1) := by decide +kernel
theorem dX12_goesBy_7 : decode cX12_goesBy 7 = .ok (.iload_n 2, 1) := by decide +kernel
theorem dX12_goesBy_8 : decode cX12_goesBy 8 = .ok (.iconst 5, 1) := by decide +kernel
theorem dX12_goesBy_9 : decode cX12_goesBy 9 = .ok (.if_icmp .ge 30, 3) := by decide +kernel
theorem dX12_goesBy_12 : decode cX12_goesBy 12 = .ok (.aload_n 0, 1) := by decide +kernel
theorem dX12_goesBy_13 : decode cX12_goesBy 13 = .ok (.getfield 125, 3) := by decide +kernel
theorem dX12_goesBy_16 : decode cX12_goesBy 16 = .ok (.iload_n 2, 1) := by decide +kernel
theorem dX12_goesBy_17 : decode cX12_goesBy 17 = .ok (.iconst 0, 1) := by decide +kernel
theorem dX12_goesBy_18 : decode cX12_goesBy 18 = .ok (.iastore, 1) := by decide +kernel
theorem dX12_goesBy_19 : decode cX12_goesBy 19 = .ok (.aload_n 0, 1) := by decide +kernel
theorem dX12_goesBy_20 : decode cX12_goesBy 20 = .ok (.getfield 134, 3) := by decide +kernel
theorem dX12_goesBy_23 : decode cX12_goesBy 23 = .ok (.iload_n 2, 1) := by decide +kernel
theorem dX12_goesBy_24 : decode cX12_goesBy 24 = .ok (.iconst 0, 1) := by decide +kernel
theorem dX12_goesBy_25 : decode cX12_goesBy 25 = .ok (.iastore, 1) := by decide +kernel
theorem dX12_goesBy_26 : decode cX12_goesBy 26 = .ok (.aload_n 0, 1) := by decide +kernel
theorem dX12_goesBy_27 : decode cX12_goesBy 27 = .ok (.getfield 140, 3) := by decide +kernel
theorem dX12_goesBy_30 : decode cX12_goesBy 30 = .ok (.iload_n 2, 1) := by decide +kernel
theorem dX12_goesBy_31 : decode cX12_goesBy 31 = .ok (.iconst 0, 1) := by decide +kernel
theorem dX12_goesBy_32 : decode cX12_goesBy 32 = .ok (.bastore, 1) := by decide +kernel
theorem dX12_goesBy_33 : decode cX12_goesBy 33 = .ok (.iinc 2 1, 3) := by decide +kernel
theorem dX12_goesBy_36 : decode cX12_goesBy 36 = .ok (.goto (-29), 3) := by decide +kernel
theorem dX12_goesBy_39 : decode cX12_goesBy 39 = .ok (.iconst 0, 1) := by decide +kernel
theorem dX12_goesBy_40 : decode cX12_goesBy 40 = .ok (.istore_n 2, 1) := by decide +kernel
theorem dX12_goesBy_41 : decode cX12_goesBy 41 = .ok (.iload_n 2, 1) := by decide +kernel
theorem dX12_goesBy_42 : decode cX12_goesBy 42 = .ok (.bipush 120, 2) := by decide +kernel
theorem dX12_goesBy_44 : decode cX12_goesBy 44 = .ok (.if_icmp .ge 23, 3) := by decide +kernel
theorem dX12_goesBy_47 : decode cX12_goesBy 47 = .ok (.aload_n 0, 1) := by decide +kernel
theorem dX12_goesBy_48 : decode cX12_goesBy 48 = .ok (.getfield 119, 3) := by decide +kernel
theorem dX12_goesBy_51 : decode cX12_goesBy 51 = .ok (.iload_n 2, 1) := by decide +kernel
theorem dX12_goesBy_52 : decode cX12_goesBy 52 = .ok (.iconst 0, 1) := by decide +kernel
theorem dX12_goesBy_53 : decode cX12_goesBy 53 = .ok (.iastore, 1) := by decide +kernel
theorem dX12_goesBy_54 : decode cX12_goesBy 54 = .ok (.aload_n 0, 1) := by decide +kernel
theorem dX12_goesBy_55 : decode cX12_goesBy 55 = .ok (.getfield 122, 3) := by decide +kernel
theorem dX12_goesBy_58 : decode cX12_goesBy 58 = .ok (.iload_n 2, 1) := by decide +kernel
theorem dX12_goesBy_59 : decode cX12_goesBy 59 = .ok (.iconst (-1), 1) := by decide +kernel
theorem dX12_goesBy_60 : decode cX12_goesBy 60 = .ok (.iastore, 1) := by decide +kernel
theorem dX12_goesBy_61 : decode cX12_goesBy 61 = .ok (.iinc 2 1, 3) := by decide +kernel
theorem dX12_goesBy_64 : decode cX12_goesBy 64 = .ok (.goto (-23), 3) := by decide +kernel
theorem dX12_goesBy_67 : decode cX12_goesBy 67 = .ok (.iconst 0, 1) := by decide +kernel
theorem dX12_goesBy_68 : decode cX12_goesBy 68 = .ok (.istore_n 2, 1) := by decide +kernel
theorem dX12_goesBy_69 : decode cX12_goesBy 69 = .ok (.iload_n 2, 1) := by decide +kernel
theorem dX12_goesBy_70 : decode cX12_goesBy 70 = .ok (.aload_n 0, 1) := by decide +kernel
theorem dX12_goesBy_71 : decode cX12_goesBy 71 = .ok (.invokevirtual 370, 3) := by decide +kernel
theorem dX12_goesBy_74 : decode cX12_goesBy 74 = .ok (.if_icmp .ge 65, 3) := by decide +kernel
theorem dX12_goesBy_77 : decode cX12_goesBy 77 = .ok (.iconst 0, 1) := by decide +kernel
theorem dX12_goesBy_78 : decode cX12_goesBy 78 = .ok (.istore_n 3, 1) := by decide +kernel
theorem dX12_goesBy_79 : decode cX12_goesBy 79 = .ok (.iload_n 3, 1) := by decide +kernel
theorem dX12_goesBy_80 : decode cX12_goesBy 80 = .ok (.iload_n 1, 1) := by decide +kernel
theorem dX12_goesBy_81 : decode cX12_goesBy 81 = .ok (.if_icmp .ge 52, 3) := by decide +kernel
theorem dX12_goesBy_84 : decode cX12_goesBy 84 = .ok (.aload_n 0, 1) := by decide +kernel
theorem dX12_goesBy_85 : decode cX12_goesBy 85 = .ok (.getfield 101, 3) := by decide +kernel
theorem dX12_goesBy_88 : decode cX12_goesBy 88 = .ok (.aload_n 0, 1) := by decide +kernel
theorem dX12_goesBy_89 : decode cX12_goesBy 89 = .ok (.getfield 116, 3) := by decide +kernel
theorem dX12_goesBy_92 : decode cX12_goesBy 92 = .ok (.iload_n 3, 1) := by decide +kernel
theorem dX12_goesBy_93 : decode cX12_goesBy 93 = .ok (.iaload, 1) := by decide +kernel
theorem dX12_goesBy_94 : decode cX12_goesBy 94 = .ok (.iaload, 1) := by decide +kernel
theorem dX12_goesBy_95 : decode cX12_goesBy 95 = .ok (.aload_n 0, 1) := by decide +kernel
theorem dX12_goesBy_96 : decode cX12_goesBy 96 = .ok (.getfield 45, 3) := by decide +kernel
theorem dX12_goesBy_99 : decode cX12_goesBy 99 = .ok (.iconst 4, 1) := by decide +kernel
theorem dX12_goesBy_100 : decode cX12_goesBy 100 = .ok (.aload_n 0, 1) := by decide +kernel
theorem dX12_goesBy_101 : decode cX12_goesBy 101 = .ok (.getfield 286, 3) := by decide +kernel
theorem dX12_goesBy_104 : decode cX12_goesBy 104 = .ok (.imul, 1) := by decide +kernel
theorem dX12_goesBy_105 : decode cX12_goesBy 105 = .ok (.iload_n 2, 1) := by decide +kernel
theorem dX12_goesBy_106 : decode cX12_goesBy 106 = .ok (.iadd, 1) := by decide +kernel
theorem dX12_goesBy_107 : decode cX12_goesBy 107 = .ok (.iaload, 1) := by decide +kernel
theorem dX12_goesBy_108 : decode cX12_goesBy 108 = .ok (.iadd, 1) := by decide +kernel
theorem dX12_goesBy_109 : decode cX12_goesBy 109 = .ok (.aload_n 0, 1) := by decide +kernel
theorem dX12_goesBy_110 : decode cX12_goesBy 110 = .ok (.getfield 382, 3) := by decide +kernel
theorem dX12_goesBy_113 : decode cX12_goesBy 113 = .ok (.if_icmp .gt 14, 3) := by decide +kernel
theorem dX12_goesBy_116 : decode cX12_goesBy 116 = .ok (.aload_n 0, 1) := by decide +kernel
theorem dX12_goesBy_117 : decode cX12_goesBy 117 = .ok (.aload_n 0, 1) := by decide +kernel
theorem dX12_goesBy_118 : decode cX12_goesBy 118 = .ok (.getfield 116, 3) := by decide +kernel
theorem dX12_goesBy_121 : decode cX12_goesBy 121 = .ok (.iload_n 3, 1) := by decide +kernel
theorem dX12_goesBy_122 : decode cX12_goesBy 122 = .ok (.iaload, 1) := by decide +kernel
theorem dX12_goesBy_123 : decode cX12_goesBy 123 = .ok (.iload_n 2, 1) := by decide +kernel
theorem dX12_goesBy_124 : decode cX12_goesBy 124 = .ok (.invokevirtual 391, 3) := by decide +kernel
theorem dX12_goesBy_127 : decode cX12_goesBy 127 = .ok (.iinc 3 1, 3) := by decide +kernel
theorem dX12_goesBy_130 : decode cX12_goesBy 130 = .ok (.goto (-51), 3) := by decide +kernel
theorem dX12_goesBy_133 : decode cX12_goesBy 133 = .ok (.iinc 2 1, 3) := by decide +kernel
theorem dX12_goesBy_136 : decode cX12_goesBy 136 = .ok (.goto (-67), 3) := by decide +kernel
theorem dX12_goesBy_139 : decode cX12_goesBy 139 = .ok (.return_, 1) := by decide +kernel
set_option maxRecDepth 20000 in
theorem ggX12_paidBy_X12_postMany : GoodIn wsX12_paidBy wsX12_postMany := goodIn_r _ [6, 7, 8, 9, 10, 11, 12, 13, 14, 15, 16, 17, 18, 19, 20, 21, 22, 23, 24, 25, 26, 27, 28, 29, 30, 31, 32, 33, 34, 35, 36, 37, 38, 39, 40, 41, 42, 43, 44, 45, 46, 47, 48, 49, 50, 51, 52, 53, 54, 55, 56, 57, 58, 59, 60, 61, 62, 63, 64, 65, 66, 67, 68, 69, 70, 71, 72, 73, 74, 75, 76, 77, 78, 79, 80, 81, 82] (by decide +kernel) (by decide +kernel)
set_option maxRecDepth 20000 in
theorem gX12_paidBy_X12_postMany : GoodIn wsX12_paidBy (wsV RX12 370 RX12 yX12_postMany wsX12_postMany) := goodIn_app (goodIn_of _ (by decide +kernel)) ggX12_paidBy_X12_postMany
theorem dX12_paidBy_0 : decode cX12_paidBy 0 = .ok (.iconst 0, 1) := by decide +kernel
theorem dX12_paidBy_1 : decode cX12_paidBy 1 = .ok (.istore_n 2, 1) := by decide +kernel
theorem dX12_paidBy_2 : decode cX12_paidBy 2 = .ok (.iconst 0, 1) := by decide +kernel
theorem dX12_paidBy_3 : decode cX12_paidBy 3 = .ok (.istore_n 3, 1) := by decide +kernel
theorem dX12_paidBy_4 : decode cX12_paidBy 4 = .ok (.iload_n 3, 1) := by decide +kernel
theorem dX12_paidBy_5 : decode cX12_paidBy 5 = .ok (.aload_n 0, 1) := by decide +kernel
theorem dX12_paidBy_6 : decode cX12_paidBy 6 = .ok (.invokevirtual 370, 3) := by decide +kernel
theorem dX12_paidBy_9 : decode cX12_paidBy 9 = .ok (.if_icmp .ge 22, 3) := by decide +kernel
theorem dX12_paidBy_12 : decode cX12_paidBy 12 = .ok (.iload_n 2, 1) := by decide +kernel
theorem dX12_paidBy_13 : decode cX12_paidBy 13 = .ok (.aload_n 0, 1) := by decide +kernel
theorem dX12_paidBy_14 : decode cX12_paidBy 14 = .ok (.getfield 119, 3) := by decide +kernel
theorem dX12_paidBy_17 : decode cX12_paidBy 17 = .ok (.iconst 4, 1) := by decide +kernel
theorem dX12_paidBy_18 : decode cX12_paidBy 18 = .ok (.iload_n 1, 1) := by decide +kernel
theorem dX12_paidBy_19 : decode cX12_paidBy 19 = .ok (.imul, 1) := by decide +kernel
theorem dX12_paidBy_20 : decode cX12_paidBy 20 = .ok (.iload_n 3, 1) := by decide +kernel
theorem dX12_paidBy_21 : decode cX12_paidBy 21 = .ok (.iadd, 1) := by decide +kernel
theorem dX12_paidBy_22 : decode cX12_paidBy 22 = .ok (.iaload, 1) := by decide +kernel
theorem dX12_paidBy_23 : decode cX12_paidBy 23 = .ok (.iadd, 1) := by decide +kernel
theorem dX12_paidBy_24 : decode cX12_paidBy 24 = .ok (.istore_n 2, 1) := by decide +kernel
theorem dX12_paidBy_25 : decode cX12_paidBy 25 = .ok (.iinc 3 1, 3) := by decide +kernel
theorem dX12_paidBy_28 : decode cX12_paidBy 28 = .ok (.goto (-24), 3) := by decide +kernel
theorem dX12_paidBy_31 : decode cX12_paidBy 31 = .ok (.iload_n 2, 1) := by decide +kernel
theorem dX12_paidBy_32 : decode cX12_paidBy 32 = .ok (.ireturn, 1) := by decide +kernel
set_option maxRecDepth 20000 in
theorem ggX12_incomeOf_X12_paidBy : GoodIn wsX12_incomeOf wsX12_paidBy := goodIn_r _ [6, 7, 8, 9, 10, 5, 11, 12, 13, 14, 15, 16, 17, 18, 19, 20, 21, 22, 23, 24, 25, 26, 27, 28, 29, 30, 31, 32, 33, 34, 35, 36, 37, 38, 39, 40, 41, 42, 43, 44, 45, 46, 47, 48, 49, 50, 51, 52, 53, 54, 55, 56, 57, 58, 59, 60, 61, 62, 63, 64, 65, 66, 67, 68, 69, 70, 71, 72, 73, 74, 75, 76, 77, 78, 79, 80, 81, 82, 83, 84, 85, 86, 87] (by decide +kernel) (by decide +kernel)
set_option maxRecDepth 20000 in
theorem gX12_incomeOf_X12_paidBy : GoodIn wsX12_incomeOf (wsV RX12 397 RX12 yX12_paidBy wsX12_paidBy) := goodIn_app (goodIn_of _ (by decide +kernel)) ggX12_incomeOf_X12_paidBy
theorem dX12_incomeOf_0 : decode cX12_incomeOf 0 = .ok (.iconst 0, 1) := by decide +kernel
theorem dX12_incomeOf_1 : decode cX12_incomeOf 1 = .ok (.istore_n 1, 1) := by decide +kernel
theorem dX12_incomeOf_2 : decode cX12_incomeOf 2 = .ok (.iconst 0, 1) := by decide +kernel
theorem dX12_incomeOf_3 : decode cX12_incomeOf 3 = .ok (.istore_n 2, 1) := by decide +kernel
theorem dX12_incomeOf_4 : decode cX12_incomeOf 4 = .ok (.iload_n 2, 1) := by decide +kernel
theorem dX12_incomeOf_5 : decode cX12_incomeOf 5 = .ok (.aload_n 0, 1) := by decide +kernel
theorem dX12_incomeOf_6 : decode cX12_incomeOf 6 = .ok (.getfield 379, 3) := by decide +kernel
theorem dX12_incomeOf_9 : decode cX12_incomeOf 9 = .ok (.if_icmp .ge 17, 3) := by decide +kernel
theorem dX12_incomeOf_12 : decode cX12_incomeOf 12 = .ok (.iload_n 1, 1) := by decide +kernel
theorem dX12_incomeOf_13 : decode cX12_incomeOf 13 = .ok (.aload_n 0, 1) := by decide +kernel
theorem dX12_incomeOf_14 : decode cX12_incomeOf 14 = .ok (.iload_n 2, 1) := by decide +kernel
theorem dX12_incomeOf_15 : decode cX12_incomeOf 15 = .ok (.invokevirtual 397, 3) := by decide +kernel
theorem dX12_incomeOf_18 : decode cX12_incomeOf 18 = .ok (.iadd, 1) := by decide +kernel
theorem dX12_incomeOf_19 : decode cX12_incomeOf 19 = .ok (.istore_n 1, 1) := by decide +kernel
theorem dX12_incomeOf_20 : decode cX12_incomeOf 20 = .ok (.iinc 2 1, 3) := by decide +kernel
theorem dX12_incomeOf_23 : decode cX12_incomeOf 23 = .ok (.goto (-19), 3) := by decide +kernel
theorem dX12_incomeOf_26 : decode cX12_incomeOf 26 = .ok (.iload_n 1, 1) := by decide +kernel
theorem dX12_incomeOf_27 : decode cX12_incomeOf 27 = .ok (.ireturn, 1) := by decide +kernel
set_option maxRecDepth 20000 in
theorem ggX12_dayNow_X12_layDay : GoodIn wsX12_dayNow wsX12_layDay := goodIn_r _ [5, 6, 7, 8, 9, 10, 11, 12, 13, 14, 15, 4, 16, 17, 18, 19, 20, 21, 22, 23, 24, 25, 26, 66, 67, 68, 69, 70, 71, 72, 73, 74, 75, 76, 77, 78, 79, 80, 81, 82, 83, 84, 85, 86, 87, 88, 89, 90, 91, 92, 93, 94, 95, 96, 97, 98, 99, 100, 101, 102, 103, 104, 105, 106, 107, 108, 109, 110, 111, 112, 113, 114, 115, 116, 117, 118, 119, 120, 121, 122, 123, 124, 125, 126, 127, 128, 129, 130, 131, 132, 133, 134, 135, 136, 137, 138, 139] (by decide +kernel) (by decide +kernel)
set_option maxRecDepth 20000 in
theorem gX12_dayNow_X12_layDay : GoodIn wsX12_dayNow (wsV RX12 400 RX12 yX12_layDay wsX12_layDay) := goodIn_app (goodIn_of _ (by decide +kernel)) ggX12_dayNow_X12_layDay
set_option maxRecDepth 20000 in
theorem ggX12_dayNow_X12_goesBy : GoodIn wsX12_dayNow wsX12_goesBy := goodIn_r _ [30, 31, 32, 33, 34, 35, 9, 36, 37, 19, 8, 38, 39, 40, 4, 41, 7, 11, 22, 23, 24, 25, 26, 42, 43, 44, 45, 17, 20, 46, 47, 48, 49, 12, 10, 50, 51, 52, 53, 54, 55, 56, 57, 58, 59, 60, 61, 62, 63, 64, 65, 66, 67, 68, 69, 70, 71, 72, 73, 74, 75, 76, 77, 78, 79, 80, 81, 82, 83, 84, 85, 86, 87, 88, 89, 90, 91, 92, 93, 94, 95, 96, 97, 98, 99, 100, 101, 102, 103, 104, 105, 106, 107, 108, 109, 110, 111, 112, 113, 114, 115, 116, 117, 118, 119, 120, 121, 122, 123, 124, 125, 126, 127, 128, 129, 130, 131, 132, 133, 134, 135, 136, 137, 138, 139] (by decide +kernel) (by decide +kernel)
set_option maxRecDepth 20000 in
theorem gX12_dayNow_X12_goesBy : GoodIn wsX12_dayNow (wsV RX12 403 RX12 yX12_goesBy wsX12_goesBy) := goodIn_app (goodIn_of _ (by decide +kernel)) ggX12_dayNow_X12_goesBy
theorem dX12_dayNow_0 : decode cX12_dayNow 0 = .ok (.aload_n 0, 1) := by decide +kernel
theorem dX12_dayNow_1 : decode cX12_dayNow 1 = .ok (.invokevirtual 400, 3) := by decide +kernel
theorem dX12_dayNow_4 : decode cX12_dayNow 4 = .ok (.aload_n 0, 1) := by decide +kernel
theorem dX12_dayNow_5 : decode cX12_dayNow 5 = .ok (.invokevirtual 403, 3) := by decide +kernel
theorem dX12_dayNow_8 : decode cX12_dayNow 8 = .ok (.return_, 1) := by decide +kernel
set_option maxRecDepth 20000 in
theorem ggX12_cart_X12_isCart : GoodIn wsX12_cart wsX12_isCart := goodIn_r _ [6, 1, 7, 8, 5, 9, 87, 88, 89, 90, 91, 92, 93, 94, 95, 96, 97, 98, 99, 100, 101, 102, 103, 104, 105, 106, 107, 108, 109, 110, 111, 112, 113, 114, 115, 116, 117, 118, 119, 120, 121, 122, 123, 124, 125, 126, 127, 128, 129, 130, 131, 132, 133, 134, 135, 136, 137, 138, 139, 140, 141, 142, 143, 144, 145, 146, 147, 148, 149, 150, 151, 152, 153, 154, 155, 156, 157, 158, 159, 160] (by decide +kernel) (by decide +kernel)
set_option maxRecDepth 20000 in
theorem gX12_cart_X12_isCart : GoodIn wsX12_cart (wsV RX12 406 RX12 yX12_isCart wsX12_isCart) := goodIn_app (goodIn_of _ (by decide +kernel)) ggX12_cart_X12_isCart
set_option maxRecDepth 20000 in
theorem ggX12_cart_X12_isMaybeOne : GoodIn wsX12_cart wsX12_isMaybeOne := goodIn_r _ [13, 14, 15, 16, 87, 88, 89, 90, 91, 92, 93, 94, 95, 96, 97, 98, 99, 100, 101, 102, 103, 104, 105, 106, 107, 108, 109, 110, 111, 112, 113, 114, 115, 116, 117, 118, 119, 120, 121, 122, 123, 124, 125, 126, 127, 128, 129, 130, 131, 132, 133, 134, 135, 136, 137, 138, 139, 140, 141, 142, 143, 144, 145, 146, 147, 148, 149, 150, 151, 152, 153, 154, 155, 156, 157, 158, 159, 160] (by decide +kernel) (by decide +kernel)
set_option maxRecDepth 20000 in
theorem gX12_cart_X12_isMaybeOne : GoodIn wsX12_cart (wsV RX12 409 RX12 yX12_isMaybeOne wsX12_isMaybeOne) := goodIn_app (goodIn_of _ (by decide +kernel)) ggX12_cart_X12_isMaybeOne
set_option maxRecDepth 20000 in
theorem ggX12_cart_X12_dayNow : GoodIn wsX12_cart wsX12_dayNow := goodIn_r _ [20, 21, 22, 23, 5, 24, 1, 25, 26, 27, 28, 29, 30, 31, 32, 33, 34, 35, 36, 15, 37, 38, 39, 40, 41, 42, 43, 44, 45, 46, 47, 48, 49, 50, 51, 52, 53, 54, 55, 56, 57, 58, 59, 60, 61, 62, 63, 64, 65, 66, 67, 68, 69, 70, 71, 72, 73, 74, 75, 76, 77, 78, 79, 80, 81, 82, 87, 88, 89, 90, 91, 92, 93, 94, 95, 96, 97, 98, 99, 100, 101, 102, 103, 104, 105, 106, 107, 108, 109, 110, 111, 112, 113, 114, 115, 116, 117, 118, 119, 120, 121, 122, 123, 124, 125, 126, 127, 128, 129, 130, 131, 132, 133, 134, 135, 136, 137, 138, 139, 140, 141, 142, 143, 144, 145, 146, 147, 148, 149, 150, 151, 152, 153, 154, 155, 156, 157, 158, 159, 160] (by decide +kernel) (by decide +kernel)
set_option maxRecDepth 20000 in
theorem gX12_cart_X12_dayNow : GoodIn wsX12_cart (wsV RX12 412 RX12 yX12_dayNow wsX12_dayNow) := goodIn_app (goodIn_of _ (by decide +kernel)) ggX12_cart_X12_dayNow
set_option maxRecDepth 20000 in
theorem ggX12_cart_X12_paidBy : GoodIn wsX12_cart wsX12_paidBy := goodIn_r _ [86, 51, 39, 40, 41, 5, 42, 43, 15, 87, 88, 89, 90, 91, 92, 93, 94, 95, 96, 97, 98, 99, 100, 101, 102, 103, 104, 105, 106, 107, 108, 109, 110, 111, 112, 113, 114, 115, 116, 117, 118, 119, 120, 121, 122, 123, 124, 125, 126, 127, 128, 129, 130, 131, 132, 133, 134, 135, 136, 137, 138, 139, 140, 141, 142, 143, 144, 145, 146, 147, 148, 149, 150, 151, 152, 153, 154, 155, 156, 157, 158, 159, 160] (by decide +kernel) (by decide +kernel)
set_option maxRecDepth 20000 in
theorem gX12_cart_X12_paidBy : GoodIn wsX12_cart (wsV RX12 397 RX12 yX12_paidBy wsX12_paidBy) := goodIn_app (goodIn_of _ (by decide +kernel)) ggX12_cart_X12_paidBy
theorem dX12_cart_0 : decode cX12_cart 0 = .ok (.aload_n 0, 1) := by decide +kernel
theorem dX12_cart_1 : decode cX12_cart 1 = .ok (.iload_n 1, 1) := by decide +kernel
theorem dX12_cart_2 : decode cX12_cart 2 = .ok (.invokevirtual 406, 3) := by decide +kernel
theorem dX12_cart_5 : decode cX12_cart 5 = .ok (.ifCond .ne 5, 3) := by decide +kernel
theorem dX12_cart_8 : decode cX12_cart 8 = .ok (.iconst (-1), 1) := by decide +kernel
theorem dX12_cart_9 : decode cX12_cart 9 = .ok (.ireturn, 1) := by decide +kernel
theorem dX12_cart_10 : decode cX12_cart 10 = .ok (.iload_n 2, 1) := by decide +kernel
theorem dX12_cart_11 : decode cX12_cart 11 = .ok (.tableswitch 86 0 4 #[33, 42, 52, 62, 76], 33) := by decide +kernel
theorem dX12_cart_44 : decode cX12_cart 44 = .ok (.aload_n 0, 1) := by decide +kernel
theorem dX12_cart_45 : decode cX12_cart 45 = .ok (.getfield 98, 3) := by decide +kernel
theorem dX12_cart_48 : decode cX12_cart 48 = .ok (.iconst 1, 1) := by decide +kernel
theorem dX12_cart_49 : decode cX12_cart 49 = .ok (.iload_n 1, 1) := by decide +kernel
theorem dX12_cart_50 : decode cX12_cart 50 = .ok (.iadd, 1) := by decide +kernel
theorem dX12_cart_51 : decode cX12_cart 51 = .ok (.iaload, 1) := by decide +kernel
theorem dX12_cart_52 : decode cX12_cart 52 = .ok (.ireturn, 1) := by decide +kernel
theorem dX12_cart_53 : decode cX12_cart 53 = .ok (.aload_n 0, 1) := by decide +kernel
theorem dX12_cart_54 : decode cX12_cart 54 = .ok (.getfield 98, 3) := by decide +kernel
theorem dX12_cart_57 : decode cX12_cart 57 = .ok (.bipush 25, 2) := by decide +kernel
theorem dX12_cart_59 : decode cX12_cart 59 = .ok (.iload_n 1, 1) := by decide +kernel
theorem dX12_cart_60 : decode cX12_cart 60 = .ok (.iadd, 1) := by decide +kernel
theorem dX12_cart_61 : decode cX12_cart 61 = .ok (.iaload, 1) := by decide +kernel
theorem dX12_cart_62 : decode cX12_cart 62 = .ok (.ireturn, 1) := by decide +kernel
theorem dX12_cart_63 : decode cX12_cart 63 = .ok (.aload_n 0, 1) := by decide +kernel
theorem dX12_cart_64 : decode cX12_cart 64 = .ok (.getfield 98, 3) := by decide +kernel
theorem dX12_cart_67 : decode cX12_cart 67 = .ok (.bipush 49, 2) := by decide +kernel
theorem dX12_cart_69 : decode cX12_cart 69 = .ok (.iload_n 1, 1) := by decide +kernel
theorem dX12_cart_70 : decode cX12_cart 70 = .ok (.iadd, 1) := by decide +kernel
theorem dX12_cart_71 : decode cX12_cart 71 = .ok (.iaload, 1) := by decide +kernel
theorem dX12_cart_72 : decode cX12_cart 72 = .ok (.ireturn, 1) := by decide +kernel
theorem dX12_cart_73 : decode cX12_cart 73 = .ok (.aload_n 0, 1) := by decide +kernel
theorem dX12_cart_74 : decode cX12_cart 74 = .ok (.iload_n 1, 1) := by decide +kernel
theorem dX12_cart_75 : decode cX12_cart 75 = .ok (.invokevirtual 409, 3) := by decide +kernel
theorem dX12_cart_78 : decode cX12_cart 78 = .ok (.ifCond .eq 7, 3) := by decide +kernel
theorem dX12_cart_81 : decode cX12_cart 81 = .ok (.iconst 1, 1) := by decide +kernel
theorem dX12_cart_82 : decode cX12_cart 82 = .ok (.goto 4, 3) := by decide +kernel
theorem dX12_cart_85 : decode cX12_cart 85 = .ok (.iconst 0, 1) := by decide +kernel
theorem dX12_cart_86 : decode cX12_cart 86 = .ok (.ireturn, 1) := by decide +kernel
theorem dX12_cart_87 : decode cX12_cart 87 = .ok (.aload_n 0, 1) := by decide +kernel
theorem dX12_cart_88 : decode cX12_cart 88 = .ok (.invokevirtual 412, 3) := by decide +kernel
theorem dX12_cart_91 : decode cX12_cart 91 = .ok (.aload_n 0, 1) := by decide +kernel
theorem dX12_cart_92 : decode cX12_cart 92 = .ok (.iload_n 1, 1) := by decide +kernel
theorem dX12_cart_93 : decode cX12_cart 93 = .ok (.invokevirtual 397, 3) := by decide +kernel
theorem dX12_cart_96 : decode cX12_cart 96 = .ok (.ireturn, 1) := by decide +kernel
theorem dX12_cart_97 : decode cX12_cart 97 = .ok (.iconst (-1), 1) := by decide +kernel
theorem dX12_cart_98 : decode cX12_cart 98 = .ok (.ireturn, 1) := by decide +kernel
set_option maxRecDepth 20000 in
theorem ggX12_counter_X12_isCart : GoodIn wsX12_counter wsX12_isCart := goodIn_r _ [6, 7, 8, 9, 5, 10, 81, 82, 83, 84, 85, 86, 87, 88, 89, 90, 91, 92, 93, 94, 95, 96, 97, 98, 99, 100, 101, 102, 103, 104, 105, 106, 107, 108, 109, 110, 111, 112, 113, 114, 115, 116, 117, 118, 119, 120, 121, 122, 123, 124, 125, 126, 127, 128, 129, 130, 131, 132, 133, 134, 135, 136, 137, 138, 139, 140, 141, 142, 143, 144, 145, 146, 147, 148, 149, 150, 151, 152, 153, 154] (by decide +kernel) (by decide +kernel)
set_option maxRecDepth 20000 in
theorem gX12_counter_X12_isCart : GoodIn wsX12_counter (wsV RX12 406 RX12 yX12_isCart wsX12_isCart) := goodIn_app (goodIn_of _ (by decide +kernel)) ggX12_counter_X12_isCart
set_option maxRecDepth 20000 in
theorem ggX12_counter_X12_isPost : GoodIn wsX12_counter wsX12_isPost := goodIn_r _ [14, 15, 16, 17, 5, 18, 19, 20, 8, 9, 10, 81, 82, 83, 84, 85, 86, 87, 88, 89, 90, 91, 92, 93, 94, 95, 96, 97, 98, 99, 100, 101, 102, 103, 104, 105, 106, 107, 108, 109, 110, 111, 112, 113, 114, 115, 116, 117, 118, 119, 120, 121, 122, 123, 124, 125, 126, 127, 128, 129, 130, 131, 132, 133, 134, 135, 136, 137, 138, 139, 140, 141, 142, 143, 144, 145, 146, 147, 148, 149, 150, 151, 152, 153, 154] (by decide +kernel) (by decide +kernel)
set_option maxRecDepth 20000 in
theorem gX12_counter_X12_isPost : GoodIn wsX12_counter (wsV RX12 415 RX12 yX12_isPost wsX12_isPost) := goodIn_app (goodIn_of _ (by decide +kernel)) ggX12_counter_X12_isPost
set_option maxRecDepth 20000 in
theorem ggX12_counter_X12_dayNow : GoodIn wsX12_counter wsX12_dayNow := goodIn_r _ [24, 25, 26, 27, 5, 28, 7, 29, 30, 31, 32, 33, 34, 35, 36, 37, 38, 39, 40, 20, 41, 42, 15, 16, 17, 18, 19, 43, 44, 45, 46, 47, 48, 49, 50, 1, 51, 52, 53, 54, 55, 56, 57, 58, 59, 60, 61, 62, 63, 64, 65, 66, 67, 68, 69, 70, 71, 72, 73, 74, 75, 76, 77, 78, 79, 80, 81, 82, 83, 84, 85, 86, 87, 88, 89, 90, 91, 92, 93, 94, 95, 96, 97, 98, 99, 100, 101, 102, 103, 104, 105, 106, 107, 108, 109, 110, 111, 112, 113, 114, 115, 116, 117, 118, 119, 120, 121, 122, 123, 124, 125, 126, 127, 128, 129, 130, 131, 132, 133, 134, 135, 136, 137, 138, 139, 140, 141, 142, 143, 144, 145, 146, 147, 148, 149, 150, 151, 152, 153, 154] (by decide +kernel) (by decide +kernel)
set_option maxRecDepth 20000 in
theorem gX12_counter_X12_dayNow : GoodIn wsX12_counter (wsV RX12 412 RX12 yX12_dayNow wsX12_dayNow) := goodIn_app (goodIn_of _ (by decide +kernel)) ggX12_counter_X12_dayNow
theorem dX12_counter_0 : decode cX12_counter 0 = .ok (.aload_n 0, 1) := by decide +kernel
theorem dX12_counter_1 : decode cX12_counter 1 = .ok (.iload_n 1, 1) := by decide +kernel
theorem dX12_counter_2 : decode cX12_counter 2 = .ok (.invokevirtual 406, 3) := by decide +kernel
theorem dX12_counter_5 : decode cX12_counter 5 = .ok (.ifCond .eq 11, 3) := by decide +kernel
theorem dX12_counter_8 : decode cX12_counter 8 = .ok (.aload_n 0, 1) := by decide +kernel
theorem dX12_counter_9 : decode cX12_counter 9 = .ok (.iload_n 2, 1) := by decide +kernel
theorem dX12_counter_10 : decode cX12_counter 10 = .ok (.invokevirtual 415, 3) := by decide +kernel
theorem dX12_counter_13 : decode cX12_counter 13 = .ok (.ifCond .ne 6, 3) := by decide +kernel
theorem dX12_counter_16 : decode cX12_counter 16 = .ok (.bipush (-2), 2) := by decide +kernel
theorem dX12_counter_18 : decode cX12_counter 18 = .ok (.ireturn, 1) := by decide +kernel
theorem dX12_counter_19 : decode cX12_counter 19 = .ok (.aload_n 0, 1) := by decide +kernel
theorem dX12_counter_20 : decode cX12_counter 20 = .ok (.invokevirtual 412, 3) := by decide +kernel
theorem dX12_counter_23 : decode cX12_counter 23 = .ok (.aload_n 0, 1) := by decide +kernel
theorem dX12_counter_24 : decode cX12_counter 24 = .ok (.getfield 122, 3) := by decide +kernel
theorem dX12_counter_27 : decode cX12_counter 27 = .ok (.iconst 4, 1) := by decide +kernel
theorem dX12_counter_28 : decode cX12_counter 28 = .ok (.iload_n 1, 1) := by decide +kernel
theorem dX12_counter_29 : decode cX12_counter 29 = .ok (.imul, 1) := by decide +kernel
theorem dX12_counter_30 : decode cX12_counter 30 = .ok (.iload_n 2, 1) := by decide +kernel
theorem dX12_counter_31 : decode cX12_counter 31 = .ok (.iadd, 1) := by decide +kernel
theorem dX12_counter_32 : decode cX12_counter 32 = .ok (.iaload, 1) := by decide +kernel
theorem dX12_counter_33 : decode cX12_counter 33 = .ok (.ireturn, 1) := by decide +kernel
set_option maxRecDepth 20000 in
theorem ggX12_pays_X12_isCart : GoodIn wsX12_pays wsX12_isCart := goodIn_r _ [6, 7, 8, 9, 5, 10, 81, 82, 83, 84, 85, 86, 87, 88, 89, 90, 91, 92, 93, 94, 95, 96, 97, 98, 99, 100, 101, 102, 103, 104, 105, 106, 107, 108, 109, 110, 111, 112, 113, 114, 115, 116, 117, 118, 119, 120, 121, 122, 123, 124, 125, 126, 127, 128, 129, 130, 131, 132, 133, 134, 135, 136, 137, 138, 139, 140, 141, 142, 143, 144, 145, 146, 147, 148, 149, 150, 151, 152, 153, 154] (by decide +kernel) (by decide +kernel)
set_option maxRecDepth 20000 in
theorem gX12_pays_X12_isCart : GoodIn wsX12_pays (wsV RX12 406 RX12 yX12_isCart wsX12_isCart) := goodIn_app (goodIn_of _ (by decide +kernel)) ggX12_pays_X12_isCart
set_option maxRecDepth 20000 in
theorem ggX12_pays_X12_isPost : GoodIn wsX12_pays wsX12_isPost := goodIn_r _ [14, 15, 16, 17, 5, 18, 19, 20, 8, 9, 10, 81, 82, 83, 84, 85, 86, 87, 88, 89, 90, 91, 92, 93, 94, 95, 96, 97, 98, 99, 100, 101, 102, 103, 104, 105, 106, 107, 108, 109, 110, 111, 112, 113, 114, 115, 116, 117, 118, 119, 120, 121, 122, 123, 124, 125, 126, 127, 128, 129, 130, 131, 132, 133, 134, 135, 136, 137, 138, 139, 140, 141, 142, 143, 144, 145, 146, 147, 148, 149, 150, 151, 152, 153, 154] (by decide +kernel) (by decide +kernel)
set_option maxRecDepth 20000 in
theorem gX12_pays_X12_isPost : GoodIn wsX12_pays (wsV RX12 415 RX12 yX12_isPost wsX12_isPost) := goodIn_app (goodIn_of _ (by decide +kernel)) ggX12_pays_X12_isPost
set_option maxRecDepth 20000 in
theorem ggX12_pays_X12_dayNow : GoodIn wsX12_pays wsX12_dayNow := goodIn_r _ [24, 25, 26, 27, 5, 28, 7, 29, 30, 31, 32, 33, 34, 35, 36, 37, 38, 39, 40, 20, 41, 42, 15, 16, 17, 18, 19, 43, 44, 45, 46, 47, 48, 49, 1, 50, 51, 52, 53, 54, 55, 56, 57, 58, 59, 60, 61, 62, 63, 64, 65, 66, 67, 68, 69, 70, 71, 72, 73, 74, 75, 76, 77, 78, 79, 80, 81, 82, 83, 84, 85, 86, 87, 88, 89, 90, 91, 92, 93, 94, 95, 96, 97, 98, 99, 100, 101, 102, 103, 104, 105, 106, 107, 108, 109, 110, 111, 112, 113, 114, 115, 116, 117, 118, 119, 120, 121, 122, 123, 124, 125, 126, 127, 128, 129, 130, 131, 132, 133, 134, 135, 136, 137, 138, 139, 140, 141, 142, 143, 144, 145, 146, 147, 148, 149, 150, 151, 152, 153, 154] (by decide +kernel) (by decide +kernel)
set_option maxRecDepth 20000 in
theorem gX12_pays_X12_dayNow : GoodIn wsX12_pays (wsV RX12 412 RX12 yX12_dayNow wsX12_dayNow) := goodIn_app (goodIn_of _ (by decide +kernel)) ggX12_pays_X12_dayNow
theorem dX12_pays_0 : decode cX12_pays 0 = .ok (.aload_n 0, 1) := by decide +kernel
theorem dX12_pays_1 : decode cX12_pays 1 = .ok (.iload_n 1, 1) := by decide +kernel
theorem dX12_pays_2 : decode cX12_pays 2 = .ok (.invokevirtual 406, 3) := by decide +kernel
theorem dX12_pays_5 : decode cX12_pays 5 = .ok (.ifCond .eq 11, 3) := by decide +kernel
theorem dX12_pays_8 : decode cX12_pays 8 = .ok (.aload_n 0, 1) := by decide +kernel
theorem dX12_pays_9 : decode cX12_pays 9 = .ok (.iload_n 2, 1) := by decide +kernel
theorem dX12_pays_10 : decode cX12_pays 10 = .ok (.invokevirtual 415, 3) := by decide +kernel
theorem dX12_pays_13 : decode cX12_pays 13 = .ok (.ifCond .ne 5, 3) := by decide +kernel
theorem dX12_pays_16 : decode cX12_pays 16 = .ok (.iconst (-1), 1) := by decide +kernel
theorem dX12_pays_17 : decode cX12_pays 17 = .ok (.ireturn, 1) := by decide +kernel
theorem dX12_pays_18 : decode cX12_pays 18 = .ok (.aload_n 0, 1) := by decide +kernel
theorem dX12_pays_19 : decode cX12_pays 19 = .ok (.invokevirtual 412, 3) := by decide +kernel
theorem dX12_pays_22 : decode cX12_pays 22 = .ok (.aload_n 0, 1) := by decide +kernel
theorem dX12_pays_23 : decode cX12_pays 23 = .ok (.getfield 119, 3) := by decide +kernel
theorem dX12_pays_26 : decode cX12_pays 26 = .ok (.iconst 4, 1) := by decide +kernel
theorem dX12_pays_27 : decode cX12_pays 27 = .ok (.iload_n 1, 1) := by decide +kernel
theorem dX12_pays_28 : decode cX12_pays 28 = .ok (.imul, 1) := by decide +kernel
theorem dX12_pays_29 : decode cX12_pays 29 = .ok (.iload_n 2, 1) := by decide +kernel
theorem dX12_pays_30 : decode cX12_pays 30 = .ok (.iadd, 1) := by decide +kernel
theorem dX12_pays_31 : decode cX12_pays 31 = .ok (.iaload, 1) := by decide +kernel
theorem dX12_pays_32 : decode cX12_pays 32 = .ok (.ireturn, 1) := by decide +kernel
set_option maxRecDepth 20000 in
theorem ggX12_bird_X12_isBird : GoodIn wsX12_bird wsX12_isBird := goodIn_r _ [10, 11, 12, 13, 9, 14, 15, 3, 16, 17, 18, 83, 84, 85, 86, 87, 88, 89, 90, 91, 92, 93, 94, 95, 96, 97, 98, 99, 100, 101, 102, 103, 104, 105, 106, 107, 108, 109, 110, 111, 112, 113, 114, 115, 116, 117, 118, 119, 120, 121, 122, 123, 124, 125, 126, 127, 128, 129, 130, 131, 132, 133, 134, 135, 136, 137, 138, 139, 140, 141, 142, 143, 144, 145, 146, 147, 148, 149, 150, 151, 152, 153, 154, 155, 156] (by decide +kernel) (by decide +kernel)
set_option maxRecDepth 20000 in
theorem gX12_bird_X12_isBird : GoodIn wsX12_bird (wsV RX12 418 RX12 yX12_isBird wsX12_isBird) := goodIn_app (goodIn_of _ (by decide +kernel)) ggX12_bird_X12_isBird
set_option maxRecDepth 20000 in
theorem ggX12_bird_X12_dayNow : GoodIn wsX12_bird wsX12_dayNow := goodIn_r _ [22, 23, 24, 25, 9, 26, 1, 27, 28, 29, 30, 31, 32, 33, 34, 35, 36, 37, 38, 3, 39, 40, 41, 42, 43, 44, 45, 46, 47, 48, 49, 4, 5, 50, 51, 52, 53, 54, 55, 56, 57, 58, 59, 60, 61, 62, 63, 64, 65, 66, 67, 68, 69, 70, 71, 72, 73, 74, 75, 76, 77, 78, 79, 80, 81, 82, 83, 84, 85, 86, 87, 88, 89, 90, 91, 92, 93, 94, 95, 96, 97, 98, 99, 100, 101, 102, 103, 104, 105, 106, 107, 108, 109, 110, 111, 112, 113, 114, 115, 116, 117, 118, 119, 120, 121, 122, 123, 124, 125, 126, 127, 128, 129, 130, 131, 132, 133, 134, 135, 136, 137, 138, 139, 140, 141, 142, 143, 144, 145, 146, 147, 148, 149, 150, 151, 152, 153, 154, 155, 156] (by decide +kernel) (by decide +kernel)
set_option maxRecDepth 20000 in
theorem gX12_bird_X12_dayNow : GoodIn wsX12_bird (wsV RX12 412 RX12 yX12_dayNow wsX12_dayNow) := goodIn_app (goodIn_of _ (by decide +kernel)) ggX12_bird_X12_dayNow
theorem dX12_bird_0 : decode cX12_bird 0 = .ok (.aload_n 0, 1) := by decide +kernel
theorem dX12_bird_1 : decode cX12_bird 1 = .ok (.iload_n 1, 1) := by decide +kernel
theorem dX12_bird_2 : decode cX12_bird 2 = .ok (.invokevirtual 418, 3) := by decide +kernel
theorem dX12_bird_5 : decode cX12_bird 5 = .ok (.ifCond .ne 5, 3) := by decide +kernel
theorem dX12_bird_8 : decode cX12_bird 8 = .ok (.iconst (-1), 1) := by decide +kernel
theorem dX12_bird_9 : decode cX12_bird 9 = .ok (.ireturn, 1) := by decide +kernel
theorem dX12_bird_10 : decode cX12_bird 10 = .ok (.aload_n 0, 1) := by decide +kernel
theorem dX12_bird_11 : decode cX12_bird 11 = .ok (.invokevirtual 412, 3) := by decide +kernel
theorem dX12_bird_14 : decode cX12_bird 14 = .ok (.iload_n 2, 1) := by decide +kernel
theorem dX12_bird_15 : decode cX12_bird 15 = .ok (.ifCond .ne 15, 3) := by decide +kernel
theorem dX12_bird_18 : decode cX12_bird 18 = .ok (.aload_n 0, 1) := by decide +kernel
theorem dX12_bird_19 : decode cX12_bird 19 = .ok (.getfield 98, 3) := by decide +kernel
theorem dX12_bird_22 : decode cX12_bird 22 = .ok (.bipush 73, 2) := by decide +kernel
theorem dX12_bird_24 : decode cX12_bird 24 = .ok (.iload_n 1, 1) := by decide +kernel
theorem dX12_bird_25 : decode cX12_bird 25 = .ok (.iadd, 1) := by decide +kernel
theorem dX12_bird_26 : decode cX12_bird 26 = .ok (.iaload, 1) := by decide +kernel
theorem dX12_bird_27 : decode cX12_bird 27 = .ok (.goto 53, 3) := by decide +kernel
theorem dX12_bird_30 : decode cX12_bird 30 = .ok (.iload_n 2, 1) := by decide +kernel
theorem dX12_bird_31 : decode cX12_bird 31 = .ok (.iconst 1, 1) := by decide +kernel
theorem dX12_bird_32 : decode cX12_bird 32 = .ok (.if_icmp .ne 19, 3) := by decide +kernel
theorem dX12_bird_35 : decode cX12_bird 35 = .ok (.aload_n 0, 1) := by decide +kernel
theorem dX12_bird_36 : decode cX12_bird 36 = .ok (.getfield 42, 3) := by decide +kernel
theorem dX12_bird_39 : decode cX12_bird 39 = .ok (.iconst 5, 1) := by decide +kernel
theorem dX12_bird_40 : decode cX12_bird 40 = .ok (.aload_n 0, 1) := by decide +kernel
theorem dX12_bird_41 : decode cX12_bird 41 = .ok (.getfield 286, 3) := by decide +kernel
theorem dX12_bird_44 : decode cX12_bird 44 = .ok (.imul, 1) := by decide +kernel
theorem dX12_bird_45 : decode cX12_bird 45 = .ok (.iload_n 1, 1) := by decide +kernel
theorem dX12_bird_46 : decode cX12_bird 46 = .ok (.iadd, 1) := by decide +kernel
theorem dX12_bird_47 : decode cX12_bird 47 = .ok (.iaload, 1) := by decide +kernel
theorem dX12_bird_48 : decode cX12_bird 48 = .ok (.goto 32, 3) := by decide +kernel
theorem dX12_bird_51 : decode cX12_bird 51 = .ok (.iload_n 2, 1) := by decide +kernel
theorem dX12_bird_52 : decode cX12_bird 52 = .ok (.iconst 2, 1) := by decide +kernel
theorem dX12_bird_53 : decode cX12_bird 53 = .ok (.if_icmp .ne 12, 3) := by decide +kernel
theorem dX12_bird_56 : decode cX12_bird 56 = .ok (.aload_n 0, 1) := by decide +kernel
theorem dX12_bird_57 : decode cX12_bird 57 = .ok (.getfield 125, 3) := by decide +kernel
theorem dX12_bird_60 : decode cX12_bird 60 = .ok (.iload_n 1, 1) := by decide +kernel
theorem dX12_bird_61 : decode cX12_bird 61 = .ok (.iaload, 1) := by decide +kernel
theorem dX12_bird_62 : decode cX12_bird 62 = .ok (.goto 18, 3) := by decide +kernel
theorem dX12_bird_65 : decode cX12_bird 65 = .ok (.iload_n 2, 1) := by decide +kernel
theorem dX12_bird_66 : decode cX12_bird 66 = .ok (.iconst 3, 1) := by decide +kernel
theorem dX12_bird_67 : decode cX12_bird 67 = .ok (.if_icmp .ne 12, 3) := by decide +kernel
theorem dX12_bird_70 : decode cX12_bird 70 = .ok (.aload_n 0, 1) := by decide +kernel
theorem dX12_bird_71 : decode cX12_bird 71 = .ok (.getfield 134, 3) := by decide +kernel
theorem dX12_bird_74 : decode cX12_bird 74 = .ok (.iload_n 1, 1) := by decide +kernel
theorem dX12_bird_75 : decode cX12_bird 75 = .ok (.iaload, 1) := by decide +kernel
theorem dX12_bird_76 : decode cX12_bird 76 = .ok (.goto 4, 3) := by decide +kernel
theorem dX12_bird_79 : decode cX12_bird 79 = .ok (.iconst (-1), 1) := by decide +kernel
theorem dX12_bird_80 : decode cX12_bird 80 = .ok (.ireturn, 1) := by decide +kernel
