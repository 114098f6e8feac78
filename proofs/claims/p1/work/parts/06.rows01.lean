set_option maxRecDepth 20000 in
theorem ggX2_payOfOneMore_X10_begin : GoodIn wsX2_payOfOneMore wsX10_begin := goodIn_r _ [15, 16, 17, 18, 19, 20, 21, 22, 23, 97, 98, 99, 100, 101, 102, 103, 104] (by decide +kernel) (by decide +kernel)
set_option maxRecDepth 20000 in
theorem gX2_payOfOneMore_X10_begin : GoodIn wsX2_payOfOneMore (wsV RX2 88 RX10 yX10_begin wsX10_begin) := goodIn_app (goodIn_of _ (by decide +kernel)) ggX2_payOfOneMore_X10_begin
set_option maxRecDepth 20000 in
theorem ggX2_payOfOneMore_X10_look : GoodIn wsX2_payOfOneMore wsX10_look := goodIn_r _ [27, 28, 29, 19, 18, 30, 31, 16, 32, 33, 17, 97, 98, 99, 100, 101, 102, 103, 104, 74, 75, 76, 77, 78, 79, 80, 81, 82, 83, 84, 85, 86, 87, 88, 89, 90, 91] (by decide +kernel) (by decide +kernel)
set_option maxRecDepth 20000 in
theorem gX2_payOfOneMore_X10_look : GoodIn wsX2_payOfOneMore (wsV RX2 99 RX10 yX10_look wsX10_look) := goodIn_app (goodIn_of _ (by decide +kernel)) ggX2_payOfOneMore_X10_look
set_option maxRecDepth 20000 in
theorem ggX2_payOfOneMore_X5_of : GoodIn wsX2_payOfOneMore wsX5_of := goodIn_r _ [38, 39, 40, 41, 42, 43, 44, 45, 46, 47, 48, 49, 50, 51, 52, 53, 54, 55, 56, 57, 58, 59, 60, 61, 62, 105, 106, 107, 74, 75, 76, 77, 78, 79, 80, 81, 82, 83, 84, 85, 86, 87, 88, 89, 90, 91, 108, 109, 110, 111, 112] (by decide +kernel) (by decide +kernel)
set_option maxRecDepth 20000 in
theorem gX2_payOfOneMore_X5_of : GoodIn wsX2_payOfOneMore (wsV RX2 105 RX5 yX5_of wsX5_of) := goodIn_app (goodIn_of _ (by decide +kernel)) ggX2_payOfOneMore_X5_of
theorem dX2_payOfOneMore_0 : decode cX2_payOfOneMore 0 = .ok (.aload_n 0, 1) := by decide +kernel
theorem dX2_payOfOneMore_1 : decode cX2_payOfOneMore 1 = .ok (.getfield 44, 3) := by decide +kernel
theorem dX2_payOfOneMore_4 : decode cX2_payOfOneMore 4 = .ok (.invokevirtual 88, 3) := by decide +kernel
theorem dX2_payOfOneMore_7 : decode cX2_payOfOneMore 7 = .ok (.iconst 0, 1) := by decide +kernel
theorem dX2_payOfOneMore_8 : decode cX2_payOfOneMore 8 = .ok (.istore_n 3, 1) := by decide +kernel
theorem dX2_payOfOneMore_9 : decode cX2_payOfOneMore 9 = .ok (.iconst 0, 1) := by decide +kernel
theorem dX2_payOfOneMore_10 : decode cX2_payOfOneMore 10 = .ok (.istore 4, 2) := by decide +kernel
theorem dX2_payOfOneMore_12 : decode cX2_payOfOneMore 12 = .ok (.iload 4, 2) := by decide +kernel
theorem dX2_payOfOneMore_14 : decode cX2_payOfOneMore 14 = .ok (.aload_n 0, 1) := by decide +kernel
theorem dX2_payOfOneMore_15 : decode cX2_payOfOneMore 15 = .ok (.getfield 27, 3) := by decide +kernel
theorem dX2_payOfOneMore_18 : decode cX2_payOfOneMore 18 = .ok (.getfield 91, 3) := by decide +kernel
theorem dX2_payOfOneMore_21 : decode cX2_payOfOneMore 21 = .ok (.if_icmp .ge 134, 3) := by decide +kernel
theorem dX2_payOfOneMore_24 : decode cX2_payOfOneMore 24 = .ok (.iconst 0, 1) := by decide +kernel
theorem dX2_payOfOneMore_25 : decode cX2_payOfOneMore 25 = .ok (.istore 5, 2) := by decide +kernel
theorem dX2_payOfOneMore_27 : decode cX2_payOfOneMore 27 = .ok (.iload 5, 2) := by decide +kernel
theorem dX2_payOfOneMore_29 : decode cX2_payOfOneMore 29 = .ok (.aload_n 0, 1) := by decide +kernel
theorem dX2_payOfOneMore_30 : decode cX2_payOfOneMore 30 = .ok (.getfield 71, 3) := by decide +kernel
theorem dX2_payOfOneMore_33 : decode cX2_payOfOneMore 33 = .ok (.if_icmp .ge 64, 3) := by decide +kernel
theorem dX2_payOfOneMore_36 : decode cX2_payOfOneMore 36 = .ok (.aload_n 0, 1) := by decide +kernel
theorem dX2_payOfOneMore_37 : decode cX2_payOfOneMore 37 = .ok (.getfield 31, 3) := by decide +kernel
theorem dX2_payOfOneMore_40 : decode cX2_payOfOneMore 40 = .ok (.getfield 74, 3) := by decide +kernel
theorem dX2_payOfOneMore_43 : decode cX2_payOfOneMore 43 = .ok (.aload_n 0, 1) := by decide +kernel
theorem dX2_payOfOneMore_44 : decode cX2_payOfOneMore 44 = .ok (.getfield 9, 3) := by decide +kernel
theorem dX2_payOfOneMore_47 : decode cX2_payOfOneMore 47 = .ok (.iload 5, 2) := by decide +kernel
theorem dX2_payOfOneMore_49 : decode cX2_payOfOneMore 49 = .ok (.iaload, 1) := by decide +kernel
theorem dX2_payOfOneMore_50 : decode cX2_payOfOneMore 50 = .ok (.iaload, 1) := by decide +kernel
theorem dX2_payOfOneMore_51 : decode cX2_payOfOneMore 51 = .ok (.iload_n 2, 1) := by decide +kernel
theorem dX2_payOfOneMore_52 : decode cX2_payOfOneMore 52 = .ok (.if_icmp .gt 45, 3) := by decide +kernel
theorem dX2_payOfOneMore_55 : decode cX2_payOfOneMore 55 = .ok (.aload_n 0, 1) := by decide +kernel
theorem dX2_payOfOneMore_56 : decode cX2_payOfOneMore 56 = .ok (.getfield 44, 3) := by decide +kernel
theorem dX2_payOfOneMore_59 : decode cX2_payOfOneMore 59 = .ok (.iload 4, 2) := by decide +kernel
theorem dX2_payOfOneMore_61 : decode cX2_payOfOneMore 61 = .ok (.aload_n 0, 1) := by decide +kernel
theorem dX2_payOfOneMore_62 : decode cX2_payOfOneMore 62 = .ok (.getfield 31, 3) := by decide +kernel
theorem dX2_payOfOneMore_65 : decode cX2_payOfOneMore 65 = .ok (.getfield 74, 3) := by decide +kernel
theorem dX2_payOfOneMore_68 : decode cX2_payOfOneMore 68 = .ok (.aload_n 0, 1) := by decide +kernel
theorem dX2_payOfOneMore_69 : decode cX2_payOfOneMore 69 = .ok (.getfield 9, 3) := by decide +kernel
theorem dX2_payOfOneMore_72 : decode cX2_payOfOneMore 72 = .ok (.iload 5, 2) := by decide +kernel
theorem dX2_payOfOneMore_74 : decode cX2_payOfOneMore 74 = .ok (.iaload, 1) := by decide +kernel
theorem dX2_payOfOneMore_75 : decode cX2_payOfOneMore 75 = .ok (.iaload, 1) := by decide +kernel
theorem dX2_payOfOneMore_76 : decode cX2_payOfOneMore 76 = .ok (.aload_n 0, 1) := by decide +kernel
theorem dX2_payOfOneMore_77 : decode cX2_payOfOneMore 77 = .ok (.getfield 27, 3) := by decide +kernel
theorem dX2_payOfOneMore_80 : decode cX2_payOfOneMore 80 = .ok (.getfield 96, 3) := by decide +kernel
theorem dX2_payOfOneMore_83 : decode cX2_payOfOneMore 83 = .ok (.iload 4, 2) := by decide +kernel
theorem dX2_payOfOneMore_85 : decode cX2_payOfOneMore 85 = .ok (.iaload, 1) := by decide +kernel
theorem dX2_payOfOneMore_86 : decode cX2_payOfOneMore 86 = .ok (.iadd, 1) := by decide +kernel
theorem dX2_payOfOneMore_87 : decode cX2_payOfOneMore 87 = .ok (.invokevirtual 99, 3) := by decide +kernel
theorem dX2_payOfOneMore_90 : decode cX2_payOfOneMore 90 = .ok (.pop, 1) := by decide +kernel
theorem dX2_payOfOneMore_91 : decode cX2_payOfOneMore 91 = .ok (.iinc 5 1, 3) := by decide +kernel
theorem dX2_payOfOneMore_94 : decode cX2_payOfOneMore 94 = .ok (.goto (-67), 3) := by decide +kernel
theorem dX2_payOfOneMore_97 : decode cX2_payOfOneMore 97 = .ok (.aload_n 0, 1) := by decide +kernel
theorem dX2_payOfOneMore_98 : decode cX2_payOfOneMore 98 = .ok (.getfield 44, 3) := by decide +kernel
theorem dX2_payOfOneMore_101 : decode cX2_payOfOneMore 101 = .ok (.iload 4, 2) := by decide +kernel
theorem dX2_payOfOneMore_103 : decode cX2_payOfOneMore 103 = .ok (.iload_n 2, 1) := by decide +kernel
theorem dX2_payOfOneMore_104 : decode cX2_payOfOneMore 104 = .ok (.aload_n 0, 1) := by decide +kernel
theorem dX2_payOfOneMore_105 : decode cX2_payOfOneMore 105 = .ok (.getfield 27, 3) := by decide +kernel
theorem dX2_payOfOneMore_108 : decode cX2_payOfOneMore 108 = .ok (.getfield 96, 3) := by decide +kernel
theorem dX2_payOfOneMore_111 : decode cX2_payOfOneMore 111 = .ok (.iload 4, 2) := by decide +kernel
theorem dX2_payOfOneMore_113 : decode cX2_payOfOneMore 113 = .ok (.iaload, 1) := by decide +kernel
theorem dX2_payOfOneMore_114 : decode cX2_payOfOneMore 114 = .ok (.iadd, 1) := by decide +kernel
theorem dX2_payOfOneMore_115 : decode cX2_payOfOneMore 115 = .ok (.invokevirtual 99, 3) := by decide +kernel
theorem dX2_payOfOneMore_118 : decode cX2_payOfOneMore 118 = .ok (.istore 5, 2) := by decide +kernel
theorem dX2_payOfOneMore_120 : decode cX2_payOfOneMore 120 = .ok (.iload 5, 2) := by decide +kernel
theorem dX2_payOfOneMore_122 : decode cX2_payOfOneMore 122 = .ok (.iconst (-1), 1) := by decide +kernel
theorem dX2_payOfOneMore_123 : decode cX2_payOfOneMore 123 = .ok (.if_icmp .eq 26, 3) := by decide +kernel
theorem dX2_payOfOneMore_126 : decode cX2_payOfOneMore 126 = .ok (.iload_n 3, 1) := by decide +kernel
theorem dX2_payOfOneMore_127 : decode cX2_payOfOneMore 127 = .ok (.aload_n 0, 1) := by decide +kernel
theorem dX2_payOfOneMore_128 : decode cX2_payOfOneMore 128 = .ok (.getfield 35, 3) := by decide +kernel
theorem dX2_payOfOneMore_131 : decode cX2_payOfOneMore 131 = .ok (.iload 4, 2) := by decide +kernel
theorem dX2_payOfOneMore_133 : decode cX2_payOfOneMore 133 = .ok (.iload_n 1, 1) := by decide +kernel
theorem dX2_payOfOneMore_134 : decode cX2_payOfOneMore 134 = .ok (.aload_n 0, 1) := by decide +kernel
theorem dX2_payOfOneMore_135 : decode cX2_payOfOneMore 135 = .ok (.getfield 44, 3) := by decide +kernel
theorem dX2_payOfOneMore_138 : decode cX2_payOfOneMore 138 = .ok (.getfield 102, 3) := by decide +kernel
theorem dX2_payOfOneMore_141 : decode cX2_payOfOneMore 141 = .ok (.iload 5, 2) := by decide +kernel
theorem dX2_payOfOneMore_143 : decode cX2_payOfOneMore 143 = .ok (.iaload, 1) := by decide +kernel
theorem dX2_payOfOneMore_144 : decode cX2_payOfOneMore 144 = .ok (.invokevirtual 105, 3) := by decide +kernel
theorem dX2_payOfOneMore_147 : decode cX2_payOfOneMore 147 = .ok (.iadd, 1) := by decide +kernel
theorem dX2_payOfOneMore_148 : decode cX2_payOfOneMore 148 = .ok (.istore_n 3, 1) := by decide +kernel
theorem dX2_payOfOneMore_149 : decode cX2_payOfOneMore 149 = .ok (.iinc 4 1, 3) := by decide +kernel
theorem dX2_payOfOneMore_152 : decode cX2_payOfOneMore 152 = .ok (.goto (-140), 3) := by decide +kernel
theorem dX2_payOfOneMore_155 : decode cX2_payOfOneMore 155 = .ok (.iload_n 3, 1) := by decide +kernel
theorem dX2_payOfOneMore_156 : decode cX2_payOfOneMore 156 = .ok (.ireturn, 1) := by decide +kernel
set_option maxRecDepth 20000 in
theorem ggX2_turnsTillRest_X9_coming : GoodIn wsX2_turnsTillRest wsX9_coming := goodIn_r _ [17, 18, 19, 20, 21, 22, 118, 119, 120, 121, 122] (by decide +kernel) (by decide +kernel)
set_option maxRecDepth 20000 in
theorem gX2_turnsTillRest_X9_coming : GoodIn wsX2_turnsTillRest (wsV RX2 65 RX9 yX9_coming wsX9_coming) := goodIn_app (goodIn_of _ (by decide +kernel)) ggX2_turnsTillRest_X9_coming
set_option maxRecDepth 20000 in
theorem ggX2_turnsTillRest_J7_fill_53178 : GoodIn wsX2_turnsTillRest wsJ7_fill_53178 := goodIn_r _ [26] (by decide +kernel) (by decide +kernel)
set_option maxRecDepth 20000 in
theorem gX2_turnsTillRest_J7_fill_53178 : GoodIn wsX2_turnsTillRest (va_wsS RX2 55 yJ7_fill_53178 wsJ7_fill_53178) := goodIn_app (goodIn_of _ (by decide +kernel)) ggX2_turnsTillRest_J7_fill_53178
set_option maxRecDepth 20000 in
theorem ggX2_turnsTillRest_X10_sit : GoodIn wsX2_turnsTillRest wsX10_sit := goodIn_r _ [31, 32, 33, 8, 9, 10, 34, 35, 36, 37, 38, 39, 40, 41, 30, 42, 43, 44, 45, 46, 47, 24, 25, 26, 123, 124, 125, 126, 127, 128, 129, 130, 131, 132, 133, 134, 135, 136, 137, 138, 139, 140, 141, 142, 143, 144, 145, 146, 147, 148] (by decide +kernel) (by decide +kernel)
set_option maxRecDepth 20000 in
theorem gX2_turnsTillRest_X10_sit : GoodIn wsX2_turnsTillRest (wsV RX2 84 RX10 yX10_sit wsX10_sit) := goodIn_app (goodIn_of _ (by decide +kernel)) ggX2_turnsTillRest_X10_sit
set_option maxRecDepth 20000 in
theorem ggX2_turnsTillRest_X2_turnOfAll : GoodIn wsX2_turnsTillRest wsX2_turnOfAll := goodIn_r _ [52, 3, 2, 4, 6, 1, 5, 53, 54, 55, 51, 56, 57, 58, 59, 60, 61, 7, 8, 9, 10, 11, 62, 63, 64, 65, 66, 67, 68, 69, 21, 70, 71, 40, 41, 30, 42, 43, 44, 45, 46, 47, 24, 25, 26, 72, 73, 74, 75, 38, 36, 34, 76, 77, 32, 78, 79, 80, 81, 82, 83, 84, 85, 86, 87, 88, 89, 90, 91, 92, 93, 94, 95, 96, 97, 98, 99, 100, 101, 102, 103, 104, 105, 106, 107, 108, 109, 110, 111, 112, 113, 114, 115, 116, 117, 118, 119, 120, 121, 122, 131, 132, 133, 134, 135, 136, 137, 138, 139, 140, 141, 142, 143, 144, 145, 146, 147, 148, 123, 124, 125, 126, 127, 128, 129, 130, 149, 150, 151, 152, 153, 154, 155, 156] (by decide +kernel) (by decide +kernel)
set_option maxRecDepth 20000 in
theorem gX2_turnsTillRest_X2_turnOfAll : GoodIn wsX2_turnsTillRest (wsV RX2 117 RX2 yX2_turnOfAll wsX2_turnOfAll) := goodIn_app (goodIn_of _ (by decide +kernel)) ggX2_turnsTillRest_X2_turnOfAll
theorem dX2_turnsTillRest_0 : decode cX2_turnsTillRest 0 = .ok (.aload_n 0, 1) := by decide +kernel
theorem dX2_turnsTillRest_1 : decode cX2_turnsTillRest 1 = .ok (.aload_n 0, 1) := by decide +kernel
theorem dX2_turnsTillRest_2 : decode cX2_turnsTillRest 2 = .ok (.getfield 31, 3) := by decide +kernel
theorem dX2_turnsTillRest_5 : decode cX2_turnsTillRest 5 = .ok (.aload_n 0, 1) := by decide +kernel
theorem dX2_turnsTillRest_6 : decode cX2_turnsTillRest 6 = .ok (.getfield 15, 3) := by decide +kernel
theorem dX2_turnsTillRest_9 : decode cX2_turnsTillRest 9 = .ok (.invokevirtual 65, 3) := by decide +kernel
theorem dX2_turnsTillRest_12 : decode cX2_turnsTillRest 12 = .ok (.putfield 71, 3) := by decide +kernel
theorem dX2_turnsTillRest_15 : decode cX2_turnsTillRest 15 = .ok (.aload_n 0, 1) := by decide +kernel
theorem dX2_turnsTillRest_16 : decode cX2_turnsTillRest 16 = .ok (.getfield 71, 3) := by decide +kernel
theorem dX2_turnsTillRest_19 : decode cX2_turnsTillRest 19 = .ok (.bipush 8, 2) := by decide +kernel
theorem dX2_turnsTillRest_21 : decode cX2_turnsTillRest 21 = .ok (.if_icmp .le 5, 3) := by decide +kernel
theorem dX2_turnsTillRest_24 : decode cX2_turnsTillRest 24 = .ok (.iconst (-1), 1) := by decide +kernel
theorem dX2_turnsTillRest_25 : decode cX2_turnsTillRest 25 = .ok (.ireturn, 1) := by decide +kernel
theorem dX2_turnsTillRest_26 : decode cX2_turnsTillRest 26 = .ok (.aload_n 0, 1) := by decide +kernel
theorem dX2_turnsTillRest_27 : decode cX2_turnsTillRest 27 = .ok (.getfield 24, 3) := by decide +kernel
theorem dX2_turnsTillRest_30 : decode cX2_turnsTillRest 30 = .ok (.iconst 0, 1) := by decide +kernel
theorem dX2_turnsTillRest_31 : decode cX2_turnsTillRest 31 = .ok (.invokestatic 55, 3) := by decide +kernel
theorem dX2_turnsTillRest_34 : decode cX2_turnsTillRest 34 = .ok (.aload_n 0, 1) := by decide +kernel
theorem dX2_turnsTillRest_35 : decode cX2_turnsTillRest 35 = .ok (.getfield 31, 3) := by decide +kernel
theorem dX2_turnsTillRest_38 : decode cX2_turnsTillRest 38 = .ok (.getfield 74, 3) := by decide +kernel
theorem dX2_turnsTillRest_41 : decode cX2_turnsTillRest 41 = .ok (.iconst 0, 1) := by decide +kernel
theorem dX2_turnsTillRest_42 : decode cX2_turnsTillRest 42 = .ok (.aload_n 0, 1) := by decide +kernel
theorem dX2_turnsTillRest_43 : decode cX2_turnsTillRest 43 = .ok (.getfield 18, 3) := by decide +kernel
theorem dX2_turnsTillRest_46 : decode cX2_turnsTillRest 46 = .ok (.iconst 0, 1) := by decide +kernel
theorem dX2_turnsTillRest_47 : decode cX2_turnsTillRest 47 = .ok (.bipush 24, 2) := by decide +kernel
theorem dX2_turnsTillRest_49 : decode cX2_turnsTillRest 49 = .ok (.invokestatic 111, 3) := by decide +kernel
theorem dX2_turnsTillRest_52 : decode cX2_turnsTillRest 52 = .ok (.aload_n 0, 1) := by decide +kernel
theorem dX2_turnsTillRest_53 : decode cX2_turnsTillRest 53 = .ok (.getfield 44, 3) := by decide +kernel
theorem dX2_turnsTillRest_56 : decode cX2_turnsTillRest 56 = .ok (.aload_n 0, 1) := by decide +kernel
theorem dX2_turnsTillRest_57 : decode cX2_turnsTillRest 57 = .ok (.getfield 31, 3) := by decide +kernel
theorem dX2_turnsTillRest_60 : decode cX2_turnsTillRest 60 = .ok (.getfield 81, 3) := by decide +kernel
theorem dX2_turnsTillRest_63 : decode cX2_turnsTillRest 63 = .ok (.invokevirtual 84, 3) := by decide +kernel
theorem dX2_turnsTillRest_66 : decode cX2_turnsTillRest 66 = .ok (.iconst 1, 1) := by decide +kernel
theorem dX2_turnsTillRest_67 : decode cX2_turnsTillRest 67 = .ok (.istore_n 1, 1) := by decide +kernel
theorem dX2_turnsTillRest_68 : decode cX2_turnsTillRest 68 = .ok (.iload_n 1, 1) := by decide +kernel
theorem dX2_turnsTillRest_69 : decode cX2_turnsTillRest 69 = .ok (.bipush 20, 2) := by decide +kernel
theorem dX2_turnsTillRest_71 : decode cX2_turnsTillRest 71 = .ok (.if_icmp .gt 18, 3) := by decide +kernel
theorem dX2_turnsTillRest_74 : decode cX2_turnsTillRest 74 = .ok (.aload_n 0, 1) := by decide +kernel
theorem dX2_turnsTillRest_75 : decode cX2_turnsTillRest 75 = .ok (.invokevirtual 117, 3) := by decide +kernel
theorem dX2_turnsTillRest_78 : decode cX2_turnsTillRest 78 = .ok (.ifCond .ne 5, 3) := by decide +kernel
theorem dX2_turnsTillRest_81 : decode cX2_turnsTillRest 81 = .ok (.iload_n 1, 1) := by decide +kernel
theorem dX2_turnsTillRest_82 : decode cX2_turnsTillRest 82 = .ok (.ireturn, 1) := by decide +kernel
theorem dX2_turnsTillRest_83 : decode cX2_turnsTillRest 83 = .ok (.iinc 1 1, 3) := by decide +kernel
theorem dX2_turnsTillRest_86 : decode cX2_turnsTillRest 86 = .ok (.goto (-18), 3) := by decide +kernel
theorem dX2_turnsTillRest_89 : decode cX2_turnsTillRest 89 = .ok (.iconst (-1), 1) := by decide +kernel
theorem dX2_turnsTillRest_90 : decode cX2_turnsTillRest 90 = .ok (.ireturn, 1) := by decide +kernel
set_option maxRecDepth 20000 in
theorem ggX2_turnOfAll_X2_bestLater : GoodIn wsX2_turnOfAll wsX2_bestLater := goodIn_r _ [11, 4, 5, 6, 12, 13, 14, 10, 15, 2, 16, 1, 17, 18, 19, 20, 21, 22, 23, 24, 25, 26, 27, 28, 29, 30, 31, 32, 33, 34, 35, 36, 37, 38, 39, 40, 41, 42, 43, 44, 45, 46, 47, 48, 49, 50, 51, 52, 53, 54, 55, 56, 57, 58, 59, 60, 61, 62, 63, 64, 65, 66, 67, 68, 69, 70, 71, 72, 73, 74, 75, 76, 77, 78, 79, 80, 81, 82, 83, 84, 85, 86, 87, 88, 89, 90, 91, 92, 93, 94, 95, 96, 97, 98, 99, 100, 101, 102, 103, 104, 105, 106, 107, 108, 109, 110, 111, 112, 113, 114, 115, 116, 117, 118, 119, 120, 121, 122, 123, 124, 125, 126, 127, 128, 129, 130, 131, 132, 133] (by decide +kernel) (by decide +kernel)
set_option maxRecDepth 20000 in
theorem gX2_turnOfAll_X2_bestLater : GoodIn wsX2_turnOfAll (wsV RX2 121 RX2 yX2_bestLater wsX2_bestLater) := goodIn_app (goodIn_of _ (by decide +kernel)) ggX2_turnOfAll_X2_bestLater
theorem dX2_turnOfAll_0 : decode cX2_turnOfAll 0 = .ok (.iconst 0, 1) := by decide +kernel
theorem dX2_turnOfAll_1 : decode cX2_turnOfAll 1 = .ok (.istore_n 1, 1) := by decide +kernel
theorem dX2_turnOfAll_2 : decode cX2_turnOfAll 2 = .ok (.iconst 0, 1) := by decide +kernel
theorem dX2_turnOfAll_3 : decode cX2_turnOfAll 3 = .ok (.istore_n 2, 1) := by decide +kernel
theorem dX2_turnOfAll_4 : decode cX2_turnOfAll 4 = .ok (.iload_n 2, 1) := by decide +kernel
theorem dX2_turnOfAll_5 : decode cX2_turnOfAll 5 = .ok (.aload_n 0, 1) := by decide +kernel
theorem dX2_turnOfAll_6 : decode cX2_turnOfAll 6 = .ok (.getfield 71, 3) := by decide +kernel
theorem dX2_turnOfAll_9 : decode cX2_turnOfAll 9 = .ok (.if_icmp .ge 70, 3) := by decide +kernel
theorem dX2_turnOfAll_12 : decode cX2_turnOfAll 12 = .ok (.aload_n 0, 1) := by decide +kernel
theorem dX2_turnOfAll_13 : decode cX2_turnOfAll 13 = .ok (.getfield 15, 3) := by decide +kernel
theorem dX2_turnOfAll_16 : decode cX2_turnOfAll 16 = .ok (.iload_n 2, 1) := by decide +kernel
theorem dX2_turnOfAll_17 : decode cX2_turnOfAll 17 = .ok (.iaload, 1) := by decide +kernel
theorem dX2_turnOfAll_18 : decode cX2_turnOfAll 18 = .ok (.istore_n 3, 1) := by decide +kernel
theorem dX2_turnOfAll_19 : decode cX2_turnOfAll 19 = .ok (.aload_n 0, 1) := by decide +kernel
theorem dX2_turnOfAll_20 : decode cX2_turnOfAll 20 = .ok (.iload_n 3, 1) := by decide +kernel
theorem dX2_turnOfAll_21 : decode cX2_turnOfAll 21 = .ok (.invokevirtual 121, 3) := by decide +kernel
theorem dX2_turnOfAll_24 : decode cX2_turnOfAll 24 = .ok (.istore 4, 2) := by decide +kernel
theorem dX2_turnOfAll_26 : decode cX2_turnOfAll 26 = .ok (.iload_n 1, 1) := by decide +kernel
theorem dX2_turnOfAll_27 : decode cX2_turnOfAll 27 = .ok (.ifCond .ne 14, 3) := by decide +kernel
theorem dX2_turnOfAll_30 : decode cX2_turnOfAll 30 = .ok (.iload 4, 2) := by decide +kernel
theorem dX2_turnOfAll_32 : decode cX2_turnOfAll 32 = .ok (.aload_n 0, 1) := by decide +kernel
theorem dX2_turnOfAll_33 : decode cX2_turnOfAll 33 = .ok (.getfield 24, 3) := by decide +kernel
theorem dX2_turnOfAll_36 : decode cX2_turnOfAll 36 = .ok (.iload_n 3, 1) := by decide +kernel
theorem dX2_turnOfAll_37 : decode cX2_turnOfAll 37 = .ok (.iaload, 1) := by decide +kernel
theorem dX2_turnOfAll_38 : decode cX2_turnOfAll 38 = .ok (.if_icmp .eq 7, 3) := by decide +kernel
theorem dX2_turnOfAll_41 : decode cX2_turnOfAll 41 = .ok (.iconst 1, 1) := by decide +kernel
theorem dX2_turnOfAll_42 : decode cX2_turnOfAll 42 = .ok (.goto 4, 3) := by decide +kernel
theorem dX2_turnOfAll_45 : decode cX2_turnOfAll 45 = .ok (.iconst 0, 1) := by decide +kernel
theorem dX2_turnOfAll_46 : decode cX2_turnOfAll 46 = .ok (.istore_n 1, 1) := by decide +kernel
theorem dX2_turnOfAll_47 : decode cX2_turnOfAll 47 = .ok (.aload_n 0, 1) := by decide +kernel
theorem dX2_turnOfAll_48 : decode cX2_turnOfAll 48 = .ok (.getfield 24, 3) := by decide +kernel
theorem dX2_turnOfAll_51 : decode cX2_turnOfAll 51 = .ok (.iload_n 3, 1) := by decide +kernel
theorem dX2_turnOfAll_52 : decode cX2_turnOfAll 52 = .ok (.iload 4, 2) := by decide +kernel
theorem dX2_turnOfAll_54 : decode cX2_turnOfAll 54 = .ok (.iastore, 1) := by decide +kernel
theorem dX2_turnOfAll_55 : decode cX2_turnOfAll 55 = .ok (.aload_n 0, 1) := by decide +kernel
theorem dX2_turnOfAll_56 : decode cX2_turnOfAll 56 = .ok (.getfield 18, 3) := by decide +kernel
theorem dX2_turnOfAll_59 : decode cX2_turnOfAll 59 = .ok (.iload_n 3, 1) := by decide +kernel
theorem dX2_turnOfAll_60 : decode cX2_turnOfAll 60 = .ok (.aload_n 0, 1) := by decide +kernel
theorem dX2_turnOfAll_61 : decode cX2_turnOfAll 61 = .ok (.getfield 31, 3) := by decide +kernel
theorem dX2_turnOfAll_64 : decode cX2_turnOfAll 64 = .ok (.getfield 74, 3) := by decide +kernel
theorem dX2_turnOfAll_67 : decode cX2_turnOfAll 67 = .ok (.iload_n 3, 1) := by decide +kernel
theorem dX2_turnOfAll_68 : decode cX2_turnOfAll 68 = .ok (.iaload, 1) := by decide +kernel
theorem dX2_turnOfAll_69 : decode cX2_turnOfAll 69 = .ok (.iload 4, 2) := by decide +kernel
theorem dX2_turnOfAll_71 : decode cX2_turnOfAll 71 = .ok (.iadd, 1) := by decide +kernel
theorem dX2_turnOfAll_72 : decode cX2_turnOfAll 72 = .ok (.iastore, 1) := by decide +kernel
theorem dX2_turnOfAll_73 : decode cX2_turnOfAll 73 = .ok (.iinc 2 1, 3) := by decide +kernel
theorem dX2_turnOfAll_76 : decode cX2_turnOfAll 76 = .ok (.goto (-72), 3) := by decide +kernel
theorem dX2_turnOfAll_79 : decode cX2_turnOfAll 79 = .ok (.iload_n 1, 1) := by decide +kernel
theorem dX2_turnOfAll_80 : decode cX2_turnOfAll 80 = .ok (.ireturn, 1) := by decide +kernel
set_option maxRecDepth 20000 in
theorem ggX3_init_X10_init : GoodIn wsX3_init wsX10_init := goodIn_r _ [18, 19, 2, 3, 4, 20, 21, 22, 23, 24, 25, 26, 27, 37, 38, 39, 40, 41, 42, 43, 44] (by decide +kernel) (by decide +kernel)
set_option maxRecDepth 20000 in
theorem gX3_init_X10_init : GoodIn wsX3_init (wsX10_init) := ggX3_init_X10_init
theorem dX3_init_0 : decode cX3_init 0 = .ok (.aload_n 0, 1) := by decide +kernel
theorem dX3_init_1 : decode cX3_init 1 = .ok (.invokespecial 3, 3) := by decide +kernel
theorem dX3_init_4 : decode cX3_init 4 = .ok (.aload_n 0, 1) := by decide +kernel
theorem dX3_init_5 : decode cX3_init 5 = .ok (.bipush 24, 2) := by decide +kernel
theorem dX3_init_7 : decode cX3_init 7 = .ok (.newarray .int, 2) := by decide +kernel
theorem dX3_init_9 : decode cX3_init 9 = .ok (.putfield 9, 3) := by decide +kernel
theorem dX3_init_12 : decode cX3_init 12 = .ok (.aload_n 0, 1) := by decide +kernel
theorem dX3_init_13 : decode cX3_init 13 = .ok (.iconst 5, 1) := by decide +kernel
theorem dX3_init_14 : decode cX3_init 14 = .ok (.newarray .int, 2) := by decide +kernel
theorem dX3_init_16 : decode cX3_init 16 = .ok (.putfield 15, 3) := by decide +kernel
theorem dX3_init_19 : decode cX3_init 19 = .ok (.aload_n 0, 1) := by decide +kernel
theorem dX3_init_20 : decode cX3_init 20 = .ok (.sipush 128, 3) := by decide +kernel
theorem dX3_init_23 : decode cX3_init 23 = .ok (.newarray .int, 2) := by decide +kernel
theorem dX3_init_25 : decode cX3_init 25 = .ok (.putfield 18, 3) := by decide +kernel
theorem dX3_init_28 : decode cX3_init 28 = .ok (.aload_n 0, 1) := by decide +kernel
theorem dX3_init_29 : decode cX3_init 29 = .ok (.iconst 5, 1) := by decide +kernel
theorem dX3_init_30 : decode cX3_init 30 = .ok (.newarray .int, 2) := by decide +kernel
theorem dX3_init_32 : decode cX3_init 32 = .ok (.putfield 21, 3) := by decide +kernel
theorem dX3_init_35 : decode cX3_init 35 = .ok (.aload_n 0, 1) := by decide +kernel
theorem dX3_init_36 : decode cX3_init 36 = .ok (.aload_n 1, 1) := by decide +kernel
theorem dX3_init_37 : decode cX3_init 37 = .ok (.putfield 24, 3) := by decide +kernel
theorem dX3_init_40 : decode cX3_init 40 = .ok (.aload_n 0, 1) := by decide +kernel
theorem dX3_init_41 : decode cX3_init 41 = .ok (.aload_n 2, 1) := by decide +kernel
theorem dX3_init_42 : decode cX3_init 42 = .ok (.putfield 28, 3) := by decide +kernel
theorem dX3_init_45 : decode cX3_init 45 = .ok (.aload_n 0, 1) := by decide +kernel
theorem dX3_init_46 : decode cX3_init 46 = .ok (.aload_n 3, 1) := by decide +kernel
theorem dX3_init_47 : decode cX3_init 47 = .ok (.putfield 32, 3) := by decide +kernel
theorem dX3_init_50 : decode cX3_init 50 = .ok (.aload_n 0, 1) := by decide +kernel
theorem dX3_init_51 : decode cX3_init 51 = .ok (.new 36, 3) := by decide +kernel
theorem dX3_init_54 : decode cX3_init 54 = .ok (.dup, 1) := by decide +kernel
theorem dX3_init_55 : decode cX3_init 55 = .ok (.aload_n 1, 1) := by decide +kernel
theorem dX3_init_56 : decode cX3_init 56 = .ok (.invokespecial 38, 3) := by decide +kernel
theorem dX3_init_59 : decode cX3_init 59 = .ok (.putfield 41, 3) := by decide +kernel
theorem dX3_init_62 : decode cX3_init 62 = .ok (.return_, 1) := by decide +kernel
set_option maxRecDepth 20000 in
theorem ggX3_mostByTeaching_X3_begin : GoodIn wsX3_mostByTeaching wsX3_begin := goodIn_r _ [8, 9, 10, 11, 12, 13, 14, 15, 16, 17, 18, 19, 20, 21, 22, 23, 24, 25, 26, 27, 28, 29, 30, 31, 32, 33, 34, 35, 36, 37, 38, 39, 40, 41, 42, 43, 44, 45, 46, 47, 48, 49, 50, 51, 52, 53, 118, 119, 120, 121, 122, 123, 124, 125, 126, 145, 146, 147, 148, 149, 150, 151, 152, 153, 154, 155, 156, 157, 127, 128, 129, 130, 131, 132, 133, 134, 135, 136, 137, 138, 139, 140, 141, 142, 143, 144] (by decide +kernel) (by decide +kernel)
set_option maxRecDepth 20000 in
theorem gX3_mostByTeaching_X3_begin : GoodIn wsX3_mostByTeaching (wsV RX3 45 RX3 yX3_begin wsX3_begin) := goodIn_app (goodIn_of _ (by decide +kernel)) ggX3_mostByTeaching_X3_begin
set_option maxRecDepth 20000 in
theorem ggX3_mostByTeaching_X11_power : GoodIn wsX3_mostByTeaching wsX11_power := goodIn_r _ [55] (by decide +kernel) (by decide +kernel)
set_option maxRecDepth 20000 in
theorem gX3_mostByTeaching_X11_power_n54 : GoodIn wsX3_mostByTeaching (wsX11_power) := ggX3_mostByTeaching_X11_power
set_option maxRecDepth 20000 in
theorem ggX3_mostByTeaching_X11_spread : GoodIn wsX3_mostByTeaching wsX11_spread := goodIn_r _ [57] (by decide +kernel) (by decide +kernel)
set_option maxRecDepth 20000 in
theorem gX3_mostByTeaching_X11_spread_n58 : GoodIn wsX3_mostByTeaching (wsX11_spread) := ggX3_mostByTeaching_X11_spread
set_option maxRecDepth 20000 in
theorem ggX3_mostByTeaching_X3_canTeach : GoodIn wsX3_mostByTeaching wsX3_canTeach := goodIn_r _ [61, 1, 2, 3, 9, 14, 118, 119, 120, 121, 122, 123, 124, 125, 126, 127, 128, 129, 130, 131, 132, 133, 134, 135, 136, 137, 138, 139, 140, 141, 142, 143, 144, 145, 146, 147, 148, 149] (by decide +kernel) (by decide +kernel)
set_option maxRecDepth 20000 in
theorem gX3_mostByTeaching_X3_canTeach : GoodIn wsX3_mostByTeaching (wsV RX3 62 RX3 yX3_canTeach wsX3_canTeach) := goodIn_app (goodIn_of _ (by decide +kernel)) ggX3_mostByTeaching_X3_canTeach
set_option maxRecDepth 20000 in
theorem ggX3_mostByTeaching_X3_takenWhenTaught : GoodIn wsX3_mostByTeaching wsX3_takenWhenTaught := goodIn_r _ [65, 1, 2, 13, 66, 9, 14, 3, 67, 68, 43, 44, 30, 45, 46, 47, 48, 49, 50, 51, 52, 53, 69, 70, 71, 7, 72, 11, 10, 12, 73, 74, 75, 76, 77, 78, 79, 80, 41, 39, 37, 81, 82, 32, 83, 84, 85, 86, 87, 88, 89, 90, 91, 92, 93, 94, 95, 96, 97, 98, 99, 100, 101, 102, 103, 104, 105, 106, 107, 108, 109, 110, 111, 118, 119, 120, 121, 122, 123, 124, 125, 126, 127, 128, 129, 130, 131, 132, 133, 134, 135, 136, 137, 138, 139, 140, 141, 142, 143, 144, 150, 151, 152, 153, 154, 155, 156, 157, 145, 146, 147, 148, 149, 158, 159, 160, 161, 162, 163, 164, 165] (by decide +kernel) (by decide +kernel)
set_option maxRecDepth 20000 in
theorem gX3_mostByTeaching_X3_takenWhenTaught : GoodIn wsX3_mostByTeaching (wsV RX3 66 RX3 yX3_takenWhenTaught wsX3_takenWhenTaught) := goodIn_app (goodIn_of _ (by decide +kernel)) ggX3_mostByTeaching_X3_takenWhenTaught
set_option maxRecDepth 20000 in
theorem ggX3_mostByTeaching_X3_better : GoodIn wsX3_mostByTeaching wsX3_better := goodIn_r _ [115, 3, 116, 117, 34, 35, 36, 118, 119, 120, 121, 122, 123, 124, 125, 126] (by decide +kernel) (by decide +kernel)
set_option maxRecDepth 20000 in
theorem gX3_mostByTeaching_X3_better : GoodIn wsX3_mostByTeaching (wsV RX3 70 RX3 yX3_better wsX3_better) := goodIn_app (goodIn_of _ (by decide +kernel)) ggX3_mostByTeaching_X3_better
theorem dX3_mostByTeaching_0 : decode cX3_mostByTeaching 0 = .ok (.aload_n 0, 1) := by decide +kernel
theorem dX3_mostByTeaching_1 : decode cX3_mostByTeaching 1 = .ok (.invokevirtual 45, 3) := by decide +kernel
theorem dX3_mostByTeaching_4 : decode cX3_mostByTeaching 4 = .ok (.iconst (-1), 1) := by decide +kernel
theorem dX3_mostByTeaching_5 : decode cX3_mostByTeaching 5 = .ok (.istore_n 2, 1) := by decide +kernel
theorem dX3_mostByTeaching_6 : decode cX3_mostByTeaching 6 = .ok (.iload_n 1, 1) := by decide +kernel
theorem dX3_mostByTeaching_7 : decode cX3_mostByTeaching 7 = .ok (.iconst 1, 1) := by decide +kernel
theorem dX3_mostByTeaching_8 : decode cX3_mostByTeaching 8 = .ok (.iadd, 1) := by decide +kernel
theorem dX3_mostByTeaching_9 : decode cX3_mostByTeaching 9 = .ok (.aload_n 0, 1) := by decide +kernel
theorem dX3_mostByTeaching_10 : decode cX3_mostByTeaching 10 = .ok (.getfield 24, 3) := by decide +kernel
theorem dX3_mostByTeaching_13 : decode cX3_mostByTeaching 13 = .ok (.getfield 48, 3) := by decide +kernel
theorem dX3_mostByTeaching_16 : decode cX3_mostByTeaching 16 = .ok (.invokestatic 54, 3) := by decide +kernel
theorem dX3_mostByTeaching_19 : decode cX3_mostByTeaching 19 = .ok (.istore_n 3, 1) := by decide +kernel
theorem dX3_mostByTeaching_20 : decode cX3_mostByTeaching 20 = .ok (.iconst 0, 1) := by decide +kernel
theorem dX3_mostByTeaching_21 : decode cX3_mostByTeaching 21 = .ok (.istore 4, 2) := by decide +kernel
theorem dX3_mostByTeaching_23 : decode cX3_mostByTeaching 23 = .ok (.iload 4, 2) := by decide +kernel
theorem dX3_mostByTeaching_25 : decode cX3_mostByTeaching 25 = .ok (.iload_n 3, 1) := by decide +kernel
theorem dX3_mostByTeaching_26 : decode cX3_mostByTeaching 26 = .ok (.if_icmp .ge 46, 3) := by decide +kernel
theorem dX3_mostByTeaching_29 : decode cX3_mostByTeaching 29 = .ok (.iload 4, 2) := by decide +kernel
theorem dX3_mostByTeaching_31 : decode cX3_mostByTeaching 31 = .ok (.iload_n 1, 1) := by decide +kernel
theorem dX3_mostByTeaching_32 : decode cX3_mostByTeaching 32 = .ok (.iconst 1, 1) := by decide +kernel
theorem dX3_mostByTeaching_33 : decode cX3_mostByTeaching 33 = .ok (.iadd, 1) := by decide +kernel
theorem dX3_mostByTeaching_34 : decode cX3_mostByTeaching 34 = .ok (.aload_n 0, 1) := by decide +kernel
theorem dX3_mostByTeaching_35 : decode cX3_mostByTeaching 35 = .ok (.getfield 24, 3) := by decide +kernel
theorem dX3_mostByTeaching_38 : decode cX3_mostByTeaching 38 = .ok (.getfield 48, 3) := by decide +kernel
theorem dX3_mostByTeaching_41 : decode cX3_mostByTeaching 41 = .ok (.aload_n 0, 1) := by decide +kernel
theorem dX3_mostByTeaching_42 : decode cX3_mostByTeaching 42 = .ok (.getfield 15, 3) := by decide +kernel
theorem dX3_mostByTeaching_45 : decode cX3_mostByTeaching 45 = .ok (.invokestatic 58, 3) := by decide +kernel
theorem dX3_mostByTeaching_48 : decode cX3_mostByTeaching 48 = .ok (.aload_n 0, 1) := by decide +kernel
theorem dX3_mostByTeaching_49 : decode cX3_mostByTeaching 49 = .ok (.iload_n 1, 1) := by decide +kernel
theorem dX3_mostByTeaching_50 : decode cX3_mostByTeaching 50 = .ok (.invokevirtual 62, 3) := by decide +kernel
theorem dX3_mostByTeaching_53 : decode cX3_mostByTeaching 53 = .ok (.ifCond .eq 13, 3) := by decide +kernel
theorem dX3_mostByTeaching_56 : decode cX3_mostByTeaching 56 = .ok (.aload_n 0, 1) := by decide +kernel
theorem dX3_mostByTeaching_57 : decode cX3_mostByTeaching 57 = .ok (.aload_n 0, 1) := by decide +kernel
theorem dX3_mostByTeaching_58 : decode cX3_mostByTeaching 58 = .ok (.invokevirtual 66, 3) := by decide +kernel
theorem dX3_mostByTeaching_61 : decode cX3_mostByTeaching 61 = .ok (.iload_n 2, 1) := by decide +kernel
theorem dX3_mostByTeaching_62 : decode cX3_mostByTeaching 62 = .ok (.invokevirtual 70, 3) := by decide +kernel
theorem dX3_mostByTeaching_65 : decode cX3_mostByTeaching 65 = .ok (.istore_n 2, 1) := by decide +kernel
theorem dX3_mostByTeaching_66 : decode cX3_mostByTeaching 66 = .ok (.iinc 4 1, 3) := by decide +kernel
theorem dX3_mostByTeaching_69 : decode cX3_mostByTeaching 69 = .ok (.goto (-46), 3) := by decide +kernel
theorem dX3_mostByTeaching_72 : decode cX3_mostByTeaching 72 = .ok (.iload_n 2, 1) := by decide +kernel
theorem dX3_mostByTeaching_73 : decode cX3_mostByTeaching 73 = .ok (.ireturn, 1) := by decide +kernel
theorem dX3_canTeach_0 : decode cX3_canTeach 0 = .ok (.iconst 0, 1) := by decide +kernel
theorem dX3_canTeach_1 : decode cX3_canTeach 1 = .ok (.istore_n 2, 1) := by decide +kernel
theorem dX3_canTeach_2 : decode cX3_canTeach 2 = .ok (.iconst 0, 1) := by decide +kernel
theorem dX3_canTeach_3 : decode cX3_canTeach 3 = .ok (.istore_n 3, 1) := by decide +kernel
theorem dX3_canTeach_4 : decode cX3_canTeach 4 = .ok (.iload_n 3, 1) := by decide +kernel
theorem dX3_canTeach_5 : decode cX3_canTeach 5 = .ok (.aload_n 0, 1) := by decide +kernel
theorem dX3_canTeach_6 : decode cX3_canTeach 6 = .ok (.getfield 24, 3) := by decide +kernel
theorem dX3_canTeach_9 : decode cX3_canTeach 9 = .ok (.getfield 48, 3) := by decide +kernel
theorem dX3_canTeach_12 : decode cX3_canTeach 12 = .ok (.if_icmp .ge 41, 3) := by decide +kernel
theorem dX3_canTeach_15 : decode cX3_canTeach 15 = .ok (.iload_n 2, 1) := by decide +kernel
theorem dX3_canTeach_16 : decode cX3_canTeach 16 = .ok (.aload_n 0, 1) := by decide +kernel
theorem dX3_canTeach_17 : decode cX3_canTeach 17 = .ok (.getfield 15, 3) := by decide +kernel
theorem dX3_canTeach_20 : decode cX3_canTeach 20 = .ok (.iload_n 3, 1) := by decide +kernel
theorem dX3_canTeach_21 : decode cX3_canTeach 21 = .ok (.iaload, 1) := by decide +kernel
theorem dX3_canTeach_22 : decode cX3_canTeach 22 = .ok (.iadd, 1) := by decide +kernel
theorem dX3_canTeach_23 : decode cX3_canTeach 23 = .ok (.istore_n 2, 1) := by decide +kernel
theorem dX3_canTeach_24 : decode cX3_canTeach 24 = .ok (.aload_n 0, 1) := by decide +kernel
theorem dX3_canTeach_25 : decode cX3_canTeach 25 = .ok (.getfield 28, 3) := by decide +kernel
theorem dX3_canTeach_28 : decode cX3_canTeach 28 = .ok (.getfield 73, 3) := by decide +kernel
theorem dX3_canTeach_31 : decode cX3_canTeach 31 = .ok (.iload_n 3, 1) := by decide +kernel
theorem dX3_canTeach_32 : decode cX3_canTeach 32 = .ok (.iaload, 1) := by decide +kernel
theorem dX3_canTeach_33 : decode cX3_canTeach 33 = .ok (.aload_n 0, 1) := by decide +kernel
theorem dX3_canTeach_34 : decode cX3_canTeach 34 = .ok (.getfield 15, 3) := by decide +kernel
theorem dX3_canTeach_37 : decode cX3_canTeach 37 = .ok (.iload_n 3, 1) := by decide +kernel
theorem dX3_canTeach_38 : decode cX3_canTeach 38 = .ok (.iaload, 1) := by decide +kernel
theorem dX3_canTeach_39 : decode cX3_canTeach 39 = .ok (.iadd, 1) := by decide +kernel
theorem dX3_canTeach_40 : decode cX3_canTeach 40 = .ok (.bipush 20, 2) := by decide +kernel
theorem dX3_canTeach_42 : decode cX3_canTeach 42 = .ok (.if_icmp .le 5, 3) := by decide +kernel
theorem dX3_canTeach_45 : decode cX3_canTeach 45 = .ok (.iconst 0, 1) := by decide +kernel
theorem dX3_canTeach_46 : decode cX3_canTeach 46 = .ok (.ireturn, 1) := by decide +kernel
theorem dX3_canTeach_47 : decode cX3_canTeach 47 = .ok (.iinc 3 1, 3) := by decide +kernel
theorem dX3_canTeach_50 : decode cX3_canTeach 50 = .ok (.goto (-46), 3) := by decide +kernel
theorem dX3_canTeach_53 : decode cX3_canTeach 53 = .ok (.iload_n 2, 1) := by decide +kernel
theorem dX3_canTeach_54 : decode cX3_canTeach 54 = .ok (.iload_n 1, 1) := by decide +kernel
theorem dX3_canTeach_55 : decode cX3_canTeach 55 = .ok (.if_icmp .ne 7, 3) := by decide +kernel
theorem dX3_canTeach_58 : decode cX3_canTeach 58 = .ok (.iconst 1, 1) := by decide +kernel
theorem dX3_canTeach_59 : decode cX3_canTeach 59 = .ok (.goto 4, 3) := by decide +kernel
theorem dX3_canTeach_62 : decode cX3_canTeach 62 = .ok (.iconst 0, 1) := by decide +kernel
theorem dX3_canTeach_63 : decode cX3_canTeach 63 = .ok (.ireturn, 1) := by decide +kernel
set_option maxRecDepth 20000 in
theorem ggX3_takenWhenTaught_X10_begin : GoodIn wsX3_takenWhenTaught wsX10_begin := goodIn_r _ [13, 14, 15, 16, 17, 18, 19, 20, 21, 100, 101, 102, 103, 104, 105, 106, 107] (by decide +kernel) (by decide +kernel)
set_option maxRecDepth 20000 in
theorem gX3_takenWhenTaught_X10_begin : GoodIn wsX3_takenWhenTaught (wsV RX3 81 RX10 yX10_begin wsX10_begin) := goodIn_app (goodIn_of _ (by decide +kernel)) ggX3_takenWhenTaught_X10_begin
set_option maxRecDepth 20000 in
theorem ggX3_takenWhenTaught_X3_takenAt : GoodIn wsX3_takenWhenTaught wsX3_takenAt := goodIn_r _ [26, 27, 28, 3, 5, 29, 1, 30, 31, 32, 33, 34, 35, 36, 12, 37, 38, 39, 17, 16, 40, 41, 14, 42, 43, 15, 44, 45, 46, 47, 48, 49, 50, 51, 52, 53, 54, 55, 56, 57, 58, 59, 60, 61, 62, 63, 64, 65, 66, 67, 68, 69, 70, 71, 72, 73, 74, 75, 76, 77, 78, 79, 80, 81, 108, 109, 110, 111, 112, 82, 83, 84, 85, 86, 87, 88, 89, 90, 91, 92, 93, 94, 95, 96, 97, 98, 99, 100, 101, 102, 103, 104, 105, 106, 107, 113, 114, 115, 116, 117, 118, 119, 120] (by decide +kernel) (by decide +kernel)
set_option maxRecDepth 20000 in
theorem gX3_takenWhenTaught_X3_takenAt : GoodIn wsX3_takenWhenTaught (wsV RX3 85 RX3 yX3_takenAt wsX3_takenAt) := goodIn_app (goodIn_of _ (by decide +kernel)) ggX3_takenWhenTaught_X3_takenAt
theorem dX3_takenWhenTaught_0 : decode cX3_takenWhenTaught 0 = .ok (.iconst 0, 1) := by decide +kernel
theorem dX3_takenWhenTaught_1 : decode cX3_takenWhenTaught 1 = .ok (.istore_n 1, 1) := by decide +kernel
theorem dX3_takenWhenTaught_2 : decode cX3_takenWhenTaught 2 = .ok (.iload_n 1, 1) := by decide +kernel
theorem dX3_takenWhenTaught_3 : decode cX3_takenWhenTaught 3 = .ok (.aload_n 0, 1) := by decide +kernel
theorem dX3_takenWhenTaught_4 : decode cX3_takenWhenTaught 4 = .ok (.getfield 24, 3) := by decide +kernel
theorem dX3_takenWhenTaught_7 : decode cX3_takenWhenTaught 7 = .ok (.getfield 48, 3) := by decide +kernel
theorem dX3_takenWhenTaught_10 : decode cX3_takenWhenTaught 10 = .ok (.if_icmp .ge 34, 3) := by decide +kernel
theorem dX3_takenWhenTaught_13 : decode cX3_takenWhenTaught 13 = .ok (.aload_n 0, 1) := by decide +kernel
theorem dX3_takenWhenTaught_14 : decode cX3_takenWhenTaught 14 = .ok (.getfield 41, 3) := by decide +kernel
theorem dX3_takenWhenTaught_17 : decode cX3_takenWhenTaught 17 = .ok (.getfield 78, 3) := by decide +kernel
theorem dX3_takenWhenTaught_20 : decode cX3_takenWhenTaught 20 = .ok (.iload_n 1, 1) := by decide +kernel
theorem dX3_takenWhenTaught_21 : decode cX3_takenWhenTaught 21 = .ok (.aload_n 0, 1) := by decide +kernel
theorem dX3_takenWhenTaught_22 : decode cX3_takenWhenTaught 22 = .ok (.getfield 28, 3) := by decide +kernel
theorem dX3_takenWhenTaught_25 : decode cX3_takenWhenTaught 25 = .ok (.getfield 73, 3) := by decide +kernel
theorem dX3_takenWhenTaught_28 : decode cX3_takenWhenTaught 28 = .ok (.iload_n 1, 1) := by decide +kernel
theorem dX3_takenWhenTaught_29 : decode cX3_takenWhenTaught 29 = .ok (.iaload, 1) := by decide +kernel
theorem dX3_takenWhenTaught_30 : decode cX3_takenWhenTaught 30 = .ok (.aload_n 0, 1) := by decide +kernel
theorem dX3_takenWhenTaught_31 : decode cX3_takenWhenTaught 31 = .ok (.getfield 15, 3) := by decide +kernel
theorem dX3_takenWhenTaught_34 : decode cX3_takenWhenTaught 34 = .ok (.iload_n 1, 1) := by decide +kernel
theorem dX3_takenWhenTaught_35 : decode cX3_takenWhenTaught 35 = .ok (.iaload, 1) := by decide +kernel
theorem dX3_takenWhenTaught_36 : decode cX3_takenWhenTaught 36 = .ok (.iadd, 1) := by decide +kernel
theorem dX3_takenWhenTaught_37 : decode cX3_takenWhenTaught 37 = .ok (.iastore, 1) := by decide +kernel
theorem dX3_takenWhenTaught_38 : decode cX3_takenWhenTaught 38 = .ok (.iinc 1 1, 3) := by decide +kernel
theorem dX3_takenWhenTaught_41 : decode cX3_takenWhenTaught 41 = .ok (.goto (-39), 3) := by decide +kernel
theorem dX3_takenWhenTaught_44 : decode cX3_takenWhenTaught 44 = .ok (.aload_n 0, 1) := by decide +kernel
theorem dX3_takenWhenTaught_45 : decode cX3_takenWhenTaught 45 = .ok (.getfield 41, 3) := by decide +kernel
theorem dX3_takenWhenTaught_48 : decode cX3_takenWhenTaught 48 = .ok (.invokevirtual 81, 3) := by decide +kernel
theorem dX3_takenWhenTaught_51 : decode cX3_takenWhenTaught 51 = .ok (.iconst 0, 1) := by decide +kernel
theorem dX3_takenWhenTaught_52 : decode cX3_takenWhenTaught 52 = .ok (.istore_n 1, 1) := by decide +kernel
theorem dX3_takenWhenTaught_53 : decode cX3_takenWhenTaught 53 = .ok (.iconst 0, 1) := by decide +kernel
theorem dX3_takenWhenTaught_54 : decode cX3_takenWhenTaught 54 = .ok (.istore_n 2, 1) := by decide +kernel
theorem dX3_takenWhenTaught_55 : decode cX3_takenWhenTaught 55 = .ok (.iload_n 2, 1) := by decide +kernel
theorem dX3_takenWhenTaught_56 : decode cX3_takenWhenTaught 56 = .ok (.aload_n 0, 1) := by decide +kernel
theorem dX3_takenWhenTaught_57 : decode cX3_takenWhenTaught 57 = .ok (.getfield 24, 3) := by decide +kernel
theorem dX3_takenWhenTaught_60 : decode cX3_takenWhenTaught 60 = .ok (.getfield 82, 3) := by decide +kernel
theorem dX3_takenWhenTaught_63 : decode cX3_takenWhenTaught 63 = .ok (.if_icmp .ge 17, 3) := by decide +kernel
theorem dX3_takenWhenTaught_66 : decode cX3_takenWhenTaught 66 = .ok (.iload_n 1, 1) := by decide +kernel
theorem dX3_takenWhenTaught_67 : decode cX3_takenWhenTaught 67 = .ok (.aload_n 0, 1) := by decide +kernel
theorem dX3_takenWhenTaught_68 : decode cX3_takenWhenTaught 68 = .ok (.iload_n 2, 1) := by decide +kernel
theorem dX3_takenWhenTaught_69 : decode cX3_takenWhenTaught 69 = .ok (.invokevirtual 85, 3) := by decide +kernel
theorem dX3_takenWhenTaught_72 : decode cX3_takenWhenTaught 72 = .ok (.iadd, 1) := by decide +kernel
theorem dX3_takenWhenTaught_73 : decode cX3_takenWhenTaught 73 = .ok (.istore_n 1, 1) := by decide +kernel
theorem dX3_takenWhenTaught_74 : decode cX3_takenWhenTaught 74 = .ok (.iinc 2 1, 3) := by decide +kernel
theorem dX3_takenWhenTaught_77 : decode cX3_takenWhenTaught 77 = .ok (.goto (-22), 3) := by decide +kernel
theorem dX3_takenWhenTaught_80 : decode cX3_takenWhenTaught 80 = .ok (.iload_n 1, 1) := by decide +kernel
theorem dX3_takenWhenTaught_81 : decode cX3_takenWhenTaught 81 = .ok (.ireturn, 1) := by decide +kernel
set_option maxRecDepth 20000 in
theorem ggX3_begin_X9_coming : GoodIn wsX3_begin wsX9_coming := goodIn_r _ [11, 12, 13, 14, 15, 16, 55, 56, 57, 58, 59] (by decide +kernel) (by decide +kernel)
set_option maxRecDepth 20000 in
theorem gX3_begin_X9_coming : GoodIn wsX3_begin (wsV RX3 96 RX9 yX9_coming wsX9_coming) := goodIn_app (goodIn_of _ (by decide +kernel)) ggX3_begin_X9_coming
set_option maxRecDepth 20000 in
theorem ggX3_begin_X11_putByMinutes : GoodIn wsX3_begin wsX11_putByMinutes := goodIn_r _ [18] (by decide +kernel) (by decide +kernel)
set_option maxRecDepth 20000 in
theorem gX3_begin_X11_putByMinutes_n106 : GoodIn wsX3_begin (wsX11_putByMinutes) := ggX3_begin_X11_putByMinutes
set_option maxRecDepth 20000 in
theorem ggX3_begin_X10_sit : GoodIn wsX3_begin wsX10_sit := goodIn_r _ [23, 24, 25, 26, 27, 28, 29, 30, 31, 32, 33, 34, 35, 36, 22, 37, 38, 39, 40, 41, 42, 43, 44, 45, 60, 61, 62, 63, 64, 65, 66, 67, 68, 69, 70, 71, 72, 73, 74, 75, 76, 77, 78, 79, 80, 81, 82, 83, 84, 85] (by decide +kernel) (by decide +kernel)
set_option maxRecDepth 20000 in
theorem gX3_begin_X10_sit : GoodIn wsX3_begin (wsV RX3 110 RX10 yX10_sit wsX10_sit) := goodIn_app (goodIn_of _ (by decide +kernel)) ggX3_begin_X10_sit
theorem dX3_begin_0 : decode cX3_begin 0 = .ok (.aload_n 0, 1) := by decide +kernel
theorem dX3_begin_1 : decode cX3_begin 1 = .ok (.aload_n 0, 1) := by decide +kernel
theorem dX3_begin_2 : decode cX3_begin 2 = .ok (.getfield 28, 3) := by decide +kernel
theorem dX3_begin_5 : decode cX3_begin 5 = .ok (.aload_n 0, 1) := by decide +kernel
theorem dX3_begin_6 : decode cX3_begin 6 = .ok (.getfield 9, 3) := by decide +kernel
theorem dX3_begin_9 : decode cX3_begin 9 = .ok (.invokevirtual 96, 3) := by decide +kernel
theorem dX3_begin_12 : decode cX3_begin 12 = .ok (.putfield 100, 3) := by decide +kernel
theorem dX3_begin_15 : decode cX3_begin 15 = .ok (.aload_n 0, 1) := by decide +kernel
theorem dX3_begin_16 : decode cX3_begin 16 = .ok (.getfield 9, 3) := by decide +kernel
theorem dX3_begin_19 : decode cX3_begin 19 = .ok (.aload_n 0, 1) := by decide +kernel
theorem dX3_begin_20 : decode cX3_begin 20 = .ok (.getfield 100, 3) := by decide +kernel
theorem dX3_begin_23 : decode cX3_begin 23 = .ok (.aload_n 0, 1) := by decide +kernel
theorem dX3_begin_24 : decode cX3_begin 24 = .ok (.getfield 28, 3) := by decide +kernel
theorem dX3_begin_27 : decode cX3_begin 27 = .ok (.getfield 103, 3) := by decide +kernel
theorem dX3_begin_30 : decode cX3_begin 30 = .ok (.invokestatic 106, 3) := by decide +kernel
theorem dX3_begin_33 : decode cX3_begin 33 = .ok (.aload_n 0, 1) := by decide +kernel
theorem dX3_begin_34 : decode cX3_begin 34 = .ok (.getfield 41, 3) := by decide +kernel
theorem dX3_begin_37 : decode cX3_begin 37 = .ok (.aload_n 0, 1) := by decide +kernel
theorem dX3_begin_38 : decode cX3_begin 38 = .ok (.getfield 28, 3) := by decide +kernel
theorem dX3_begin_41 : decode cX3_begin 41 = .ok (.getfield 73, 3) := by decide +kernel
theorem dX3_begin_44 : decode cX3_begin 44 = .ok (.invokevirtual 110, 3) := by decide +kernel
theorem dX3_begin_47 : decode cX3_begin 47 = .ok (.return_, 1) := by decide +kernel
theorem dX3_better_0 : decode cX3_better 0 = .ok (.iload_n 1, 1) := by decide +kernel
theorem dX3_better_1 : decode cX3_better 1 = .ok (.iload_n 2, 1) := by decide +kernel
theorem dX3_better_2 : decode cX3_better 2 = .ok (.if_icmp .gt 5, 3) := by decide +kernel
theorem dX3_better_5 : decode cX3_better 5 = .ok (.iload_n 2, 1) := by decide +kernel
theorem dX3_better_6 : decode cX3_better 6 = .ok (.ireturn, 1) := by decide +kernel
theorem dX3_better_7 : decode cX3_better 7 = .ok (.aload_n 0, 1) := by decide +kernel
theorem dX3_better_8 : decode cX3_better 8 = .ok (.getfield 15, 3) := by decide +kernel
theorem dX3_better_11 : decode cX3_better 11 = .ok (.iconst 0, 1) := by decide +kernel
theorem dX3_better_12 : decode cX3_better 12 = .ok (.aload_n 0, 1) := by decide +kernel
theorem dX3_better_13 : decode cX3_better 13 = .ok (.getfield 21, 3) := by decide +kernel
theorem dX3_better_16 : decode cX3_better 16 = .ok (.iconst 0, 1) := by decide +kernel
theorem dX3_better_17 : decode cX3_better 17 = .ok (.iconst 5, 1) := by decide +kernel
theorem dX3_better_18 : decode cX3_better 18 = .ok (.invokestatic 114, 3) := by decide +kernel
theorem dX3_better_21 : decode cX3_better 21 = .ok (.iload_n 1, 1) := by decide +kernel
theorem dX3_better_22 : decode cX3_better 22 = .ok (.ireturn, 1) := by decide +kernel
theorem dX4_init_0 : decode cX4_init 0 = .ok (.aload_n 0, 1) := by decide +kernel
theorem dX4_init_1 : decode cX4_init 1 = .ok (.invokespecial 3, 3) := by decide +kernel
theorem dX4_init_4 : decode cX4_init 4 = .ok (.aload_n 0, 1) := by decide +kernel
theorem dX4_init_5 : decode cX4_init 5 = .ok (.sipush 300, 3) := by decide +kernel
theorem dX4_init_8 : decode cX4_init 8 = .ok (.newarray .int, 2) := by decide +kernel
theorem dX4_init_10 : decode cX4_init 10 = .ok (.putfield 11, 3) := by decide +kernel
theorem dX4_init_13 : decode cX4_init 13 = .ok (.aload_n 0, 1) := by decide +kernel
theorem dX4_init_14 : decode cX4_init 14 = .ok (.bipush 30, 2) := by decide +kernel
theorem dX4_init_16 : decode cX4_init 16 = .ok (.newarray .int, 2) := by decide +kernel
theorem dX4_init_18 : decode cX4_init 18 = .ok (.putfield 15, 3) := by decide +kernel
theorem dX4_init_21 : decode cX4_init 21 = .ok (.return_, 1) := by decide +kernel
theorem dX4_clear_0 : decode cX4_clear 0 = .ok (.aload_n 0, 1) := by decide +kernel
theorem dX4_clear_1 : decode cX4_clear 1 = .ok (.iconst 0, 1) := by decide +kernel
theorem dX4_clear_2 : decode cX4_clear 2 = .ok (.putfield 18, 3) := by decide +kernel
theorem dX4_clear_5 : decode cX4_clear 5 = .ok (.aload_n 0, 1) := by decide +kernel
theorem dX4_clear_6 : decode cX4_clear 6 = .ok (.iconst 0, 1) := by decide +kernel
theorem dX4_clear_7 : decode cX4_clear 7 = .ok (.putfield 22, 3) := by decide +kernel
theorem dX4_clear_10 : decode cX4_clear 10 = .ok (.aload_n 0, 1) := by decide +kernel
theorem dX4_clear_11 : decode cX4_clear 11 = .ok (.iconst 0, 1) := by decide +kernel
theorem dX4_clear_12 : decode cX4_clear 12 = .ok (.putfield 25, 3) := by decide +kernel
theorem dX4_clear_15 : decode cX4_clear 15 = .ok (.return_, 1) := by decide +kernel
theorem dX4_becomes_0 : decode cX4_becomes 0 = .ok (.aload_n 0, 1) := by decide +kernel
theorem dX4_becomes_1 : decode cX4_becomes 1 = .ok (.aload_n 1, 1) := by decide +kernel
theorem dX4_becomes_2 : decode cX4_becomes 2 = .ok (.getfield 18, 3) := by decide +kernel
theorem dX4_becomes_5 : decode cX4_becomes 5 = .ok (.putfield 18, 3) := by decide +kernel
theorem dX4_becomes_8 : decode cX4_becomes 8 = .ok (.aload_n 0, 1) := by decide +kernel
theorem dX4_becomes_9 : decode cX4_becomes 9 = .ok (.aload_n 1, 1) := by decide +kernel
theorem dX4_becomes_10 : decode cX4_becomes 10 = .ok (.getfield 22, 3) := by decide +kernel
theorem dX4_becomes_13 : decode cX4_becomes 13 = .ok (.putfield 22, 3) := by decide +kernel
theorem dX4_becomes_16 : decode cX4_becomes 16 = .ok (.aload_n 0, 1) := by decide +kernel
theorem dX4_becomes_17 : decode cX4_becomes 17 = .ok (.aload_n 1, 1) := by decide +kernel
theorem dX4_becomes_18 : decode cX4_becomes 18 = .ok (.getfield 25, 3) := by decide +kernel
theorem dX4_becomes_21 : decode cX4_becomes 21 = .ok (.putfield 25, 3) := by decide +kernel
theorem dX4_becomes_24 : decode cX4_becomes 24 = .ok (.aload_n 1, 1) := by decide +kernel
theorem dX4_becomes_25 : decode cX4_becomes 25 = .ok (.getfield 11, 3) := by decide +kernel
theorem dX4_becomes_28 : decode cX4_becomes 28 = .ok (.iconst 0, 1) := by decide +kernel
theorem dX4_becomes_29 : decode cX4_becomes 29 = .ok (.aload_n 0, 1) := by decide +kernel
theorem dX4_becomes_30 : decode cX4_becomes 30 = .ok (.getfield 11, 3) := by decide +kernel
theorem dX4_becomes_33 : decode cX4_becomes 33 = .ok (.iconst 0, 1) := by decide +kernel
theorem dX4_becomes_34 : decode cX4_becomes 34 = .ok (.aload_n 1, 1) := by decide +kernel
theorem dX4_becomes_35 : decode cX4_becomes 35 = .ok (.getfield 18, 3) := by decide +kernel
theorem dX4_becomes_38 : decode cX4_becomes 38 = .ok (.invokestatic 29, 3) := by decide +kernel
theorem dX4_becomes_41 : decode cX4_becomes 41 = .ok (.return_, 1) := by decide +kernel
theorem dX5_init_0 : decode cX5_init 0 = .ok (.aload_n 0, 1) := by decide +kernel
theorem dX5_init_1 : decode cX5_init 1 = .ok (.invokespecial 3, 3) := by decide +kernel
theorem dX5_init_4 : decode cX5_init 4 = .ok (.aload_n 0, 1) := by decide +kernel
theorem dX5_init_5 : decode cX5_init 5 = .ok (.bipush 80, 2) := by decide +kernel
theorem dX5_init_7 : decode cX5_init 7 = .ok (.newarray .int, 2) := by decide +kernel
theorem dX5_init_9 : decode cX5_init 9 = .ok (.putfield 9, 3) := by decide +kernel
theorem dX5_init_12 : decode cX5_init 12 = .ok (.aload_n 0, 1) := by decide +kernel
theorem dX5_init_13 : decode cX5_init 13 = .ok (.bipush 80, 2) := by decide +kernel
theorem dX5_init_15 : decode cX5_init 15 = .ok (.newarray .int, 2) := by decide +kernel
theorem dX5_init_17 : decode cX5_init 17 = .ok (.putfield 15, 3) := by decide +kernel
theorem dX5_init_20 : decode cX5_init 20 = .ok (.aload_n 0, 1) := by decide +kernel
theorem dX5_init_21 : decode cX5_init 21 = .ok (.aload_n 1, 1) := by decide +kernel
theorem dX5_init_22 : decode cX5_init 22 = .ok (.putfield 18, 3) := by decide +kernel
theorem dX5_init_25 : decode cX5_init 25 = .ok (.return_, 1) := by decide +kernel
set_option maxRecDepth 20000 in
theorem ggX5_forget_J7_fill_53178 : GoodIn wsX5_forget wsJ7_fill_53178 := goodIn_r _ [5] (by decide +kernel) (by decide +kernel)
set_option maxRecDepth 20000 in
theorem gX5_forget_J7_fill_53178 : GoodIn wsX5_forget (va_wsS RX5 22 yJ7_fill_53178 wsJ7_fill_53178) := goodIn_app (goodIn_of _ (by decide +kernel)) ggX5_forget_J7_fill_53178
theorem dX5_forget_0 : decode cX5_forget 0 = .ok (.aload_n 0, 1) := by decide +kernel
theorem dX5_forget_1 : decode cX5_forget 1 = .ok (.getfield 9, 3) := by decide +kernel
theorem dX5_forget_4 : decode cX5_forget 4 = .ok (.iconst 0, 1) := by decide +kernel
theorem dX5_forget_5 : decode cX5_forget 5 = .ok (.invokestatic 22, 3) := by decide +kernel
theorem dX5_forget_8 : decode cX5_forget 8 = .ok (.return_, 1) := by decide +kernel
set_option maxRecDepth 20000 in
theorem ggX6_init_X7_init : GoodIn wsX6_init wsX7_init := goodIn_r _ [12, 13, 2, 3, 14, 15, 9, 16, 17, 18, 19, 20, 21, 22, 23, 24, 25, 26, 27, 28, 29, 30, 31, 32, 33, 34, 35, 36, 37, 38, 39, 40, 41, 42, 43, 44, 45, 46, 47, 48, 49, 50, 51, 52, 53, 54, 67, 68, 69, 70, 71] (by decide +kernel) (by decide +kernel)
set_option maxRecDepth 20000 in
theorem gX6_init_X7_init_n11 : GoodIn wsX6_init (wsX7_init) := ggX6_init_X7_init
theorem dX6_init_0 : decode cX6_init 0 = .ok (.aload_n 0, 1) := by decide +kernel
theorem dX6_init_1 : decode cX6_init 1 = .ok (.invokespecial 3, 3) := by decide +kernel
theorem dX6_init_4 : decode cX6_init 4 = .ok (.aload_n 0, 1) := by decide +kernel
theorem dX6_init_5 : decode cX6_init 5 = .ok (.new 9, 3) := by decide +kernel
theorem dX6_init_8 : decode cX6_init 8 = .ok (.dup, 1) := by decide +kernel
theorem dX6_init_9 : decode cX6_init 9 = .ok (.invokespecial 11, 3) := by decide +kernel
theorem dX6_init_12 : decode cX6_init 12 = .ok (.putfield 12, 3) := by decide +kernel
theorem dX6_init_15 : decode cX6_init 15 = .ok (.aload_n 0, 1) := by decide +kernel
theorem dX6_init_16 : decode cX6_init 16 = .ok (.iconst (-1), 1) := by decide +kernel
theorem dX6_init_17 : decode cX6_init 17 = .ok (.putfield 18, 3) := by decide +kernel
theorem dX6_init_20 : decode cX6_init 20 = .ok (.aload_n 0, 1) := by decide +kernel
theorem dX6_init_21 : decode cX6_init 21 = .ok (.iconst 0, 1) := by decide +kernel
theorem dX6_init_22 : decode cX6_init 22 = .ok (.newarray .int, 2) := by decide +kernel
theorem dX6_init_24 : decode cX6_init 24 = .ok (.putfield 22, 3) := by decide +kernel
theorem dX6_init_27 : decode cX6_init 27 = .ok (.return_, 1) := by decide +kernel
set_option maxRecDepth 20000 in
theorem ggX6_read_X7_clear : GoodIn wsX6_read wsX7_clear := goodIn_r _ [16, 17, 18, 19, 20, 21, 22, 23, 24, 25, 26, 27, 28, 29, 30, 31, 32, 33, 34, 35, 273, 274, 275, 276, 277, 278, 279, 280, 281, 282, 283, 284, 285, 286, 287, 288, 289, 290, 291, 292, 293, 294, 295] (by decide +kernel) (by decide +kernel)
set_option maxRecDepth 20000 in
theorem gX6_read_X7_clear : GoodIn wsX6_read (wsV RX6 41 RX7 yX7_clear wsX7_clear) := goodIn_app (goodIn_of _ (by decide +kernel)) ggX6_read_X7_clear
set_option maxRecDepth 20000 in
theorem ggX6_read_X6_next : GoodIn wsX6_read wsX6_next := goodIn_r _ [40, 7, 6, 1, 41, 11, 42, 43, 44, 45, 39, 46, 47, 48, 49, 50, 51, 52, 53, 54, 55, 56, 57, 58, 59, 60, 61, 62, 63, 64, 65, 66, 67, 68, 69, 70, 71, 72, 73, 74, 75, 76, 77, 78, 79, 80, 81, 82, 83, 84, 4, 85, 86, 3, 5, 87, 88, 89, 90, 91, 92, 93, 94, 95, 96, 97, 98, 99, 100, 101, 102, 103, 104, 105, 106, 107, 108, 109, 110, 111, 112, 113, 114, 115, 116, 117, 118, 119, 120, 121, 122, 123, 124, 125, 126, 127, 128, 129, 130, 131, 132, 133, 134, 135, 136, 137, 138, 139, 140, 261, 262, 263, 264, 265, 266, 267, 268, 269, 270, 271, 272] (by decide +kernel) (by decide +kernel)
set_option maxRecDepth 20000 in
theorem gX6_read_X6_next : GoodIn wsX6_read (wsV RX6 44 RX6 yX6_next wsX6_next) := goodIn_app (goodIn_of _ (by decide +kernel)) ggX6_read_X6_next
set_option maxRecDepth 20000 in
theorem ggX6_read_X6_is : GoodIn wsX6_read wsX6_is := goodIn_r _ [144, 11, 49, 1, 41, 145, 72, 73, 58, 74, 64, 75, 76, 77, 78, 69, 70, 146, 147, 148, 149, 65, 66, 67, 68, 150, 151, 81, 152, 153, 154, 155, 112, 156, 157, 115, 158, 159, 160, 95, 161, 162, 163, 164, 106, 107, 108, 165, 120, 121, 122, 123, 124, 125, 261, 262, 263, 264, 265, 266, 267, 268, 269, 270, 271, 272] (by decide +kernel) (by decide +kernel)
set_option maxRecDepth 20000 in
theorem gX6_read_X6_is : GoodIn wsX6_read (wsV RX6 52 RX6 yX6_is wsX6_is) := goodIn_app (goodIn_of _ (by decide +kernel)) ggX6_read_X6_is
set_option maxRecDepth 20000 in
theorem ggX6_read_X6_readBird : GoodIn wsX6_read wsX6_readBird := goodIn_r _ [169, 10, 170, 171, 172, 173, 174, 175, 176, 177, 39, 178, 11, 179, 180, 181, 182, 8, 41, 9, 36, 37, 38, 40, 7, 6, 1, 42, 43, 44, 45, 46, 47, 48, 49, 50, 51, 52, 53, 54, 55, 56, 57, 58, 59, 60, 61, 62, 63, 64, 65, 66, 67, 68, 69, 70, 71, 72, 73, 74, 75, 76, 77, 78, 79, 80, 81, 82, 83, 84, 4, 85, 86, 3, 5, 87, 88, 89, 90, 91, 92, 93, 94, 95, 96, 97, 98, 99, 100, 101, 102, 103, 104, 105, 106, 107, 108, 109, 110, 111, 112, 113, 114, 115, 116, 117, 118, 119, 120, 121, 122, 123, 124, 125, 126, 127, 128, 129, 130, 131, 132, 133, 134, 135, 136, 137, 138, 139, 140, 183, 184, 185, 186, 187, 188, 189, 190, 191, 192, 193, 194, 141, 142, 143, 144, 145, 146, 147, 148, 149, 150, 151, 152, 153, 154, 155, 156, 157, 158, 159, 160, 161, 162, 163, 164, 165, 195, 196, 15, 197, 198, 199, 200, 201, 202, 203, 204, 205, 206, 207, 208, 209, 210, 211, 212, 261, 262, 263, 264, 265, 266, 267, 268, 269, 270, 271, 272, 273, 274, 275, 276, 277, 278, 279, 280, 281, 282, 283, 284, 285, 286, 287, 288, 289, 290] (by decide +kernel) (by decide +kernel)
set_option maxRecDepth 20000 in
theorem gX6_read_X6_readBird : GoodIn wsX6_read (wsV RX6 56 RX6 yX6_readBird wsX6_readBird) := goodIn_app (goodIn_of _ (by decide +kernel)) ggX6_read_X6_readBird
set_option maxRecDepth 20000 in
theorem ggX6_read_X6_readPost : GoodIn wsX6_read wsX6_readPost := goodIn_r _ [216, 10, 217, 218, 219, 220, 171, 170, 47, 221, 222, 223, 175, 176, 177, 39, 178, 11, 179, 180, 181, 182, 8, 41, 9, 36, 37, 38, 40, 7, 6, 1, 42, 43, 44, 45, 46, 48, 49, 50, 51, 52, 53, 54, 55, 56, 57, 58, 59, 60, 61, 62, 63, 64, 65, 66, 67, 68, 69, 70, 71, 72, 73, 74, 75, 76, 77, 78, 79, 80, 81, 82, 83, 84, 4, 85, 86, 3, 5, 87, 88, 89, 90, 91, 92, 93, 94, 95, 96, 97, 98, 99, 100, 101, 102, 103, 104, 105, 106, 107, 108, 109, 110, 111, 112, 113, 114, 115, 116, 117, 118, 119, 120, 121, 122, 123, 124, 125, 126, 127, 128, 129, 130, 131, 132, 133, 134, 135, 136, 137, 138, 139, 140, 183, 184, 185, 186, 187, 188, 189, 190, 191, 192, 193, 194, 141, 142, 143, 144, 145, 146, 147, 148, 149, 150, 151, 152, 153, 154, 155, 156, 157, 158, 159, 160, 161, 162, 163, 164, 165, 195, 196, 15, 197, 198, 199, 200, 201, 202, 203, 204, 205, 206, 207, 208, 209, 210, 211, 212, 261, 262, 263, 264, 265, 266, 267, 268, 269, 270, 271, 272, 273, 274, 275, 276, 277, 278, 279, 280, 281, 282, 283, 284, 285, 286, 287, 288, 289, 290] (by decide +kernel) (by decide +kernel)
set_option maxRecDepth 20000 in
theorem gX6_read_X6_readPost : GoodIn wsX6_read (wsV RX6 62 RX6 yX6_readPost wsX6_readPost) := goodIn_app (goodIn_of _ (by decide +kernel)) ggX6_read_X6_readPost
set_option maxRecDepth 20000 in
theorem ggX6_read_X6_readCart : GoodIn wsX6_read wsX6_readCart := goodIn_r _ [227, 10, 228, 229, 230, 231, 232, 175, 176, 177, 39, 178, 11, 179, 180, 181, 182, 8, 41, 9, 36, 37, 38, 40, 7, 6, 1, 42, 43, 44, 45, 46, 47, 48, 49, 50, 51, 52, 53, 54, 55, 56, 57, 58, 59, 60, 61, 62, 63, 64, 65, 66, 67, 68, 69, 70, 71, 72, 73, 74, 75, 76, 77, 78, 79, 80, 81, 82, 83, 84, 4, 85, 86, 3, 5, 87, 88, 89, 90, 91, 92, 93, 94, 95, 96, 97, 98, 99, 100, 101, 102, 103, 104, 105, 106, 107, 108, 109, 110, 111, 112, 113, 114, 115, 116, 117, 118, 119, 120, 121, 122, 123, 124, 125, 126, 127, 128, 129, 130, 131, 132, 133, 134, 135, 136, 137, 138, 139, 140, 183, 184, 185, 186, 187, 188, 189, 190, 191, 192, 193, 194, 141, 142, 143, 144, 145, 146, 147, 148, 149, 150, 151, 152, 153, 154, 155, 156, 157, 158, 159, 160, 161, 162, 163, 164, 165, 195, 196, 15, 197, 198, 199, 200, 201, 202, 203, 204, 205, 206, 207, 208, 209, 210, 211, 212, 261, 262, 263, 264, 265, 266, 267, 268, 269, 270, 271, 272, 273, 274, 275, 276, 277, 278, 279, 280, 281, 282, 283, 284, 285, 286, 287, 288, 289, 290] (by decide +kernel) (by decide +kernel)
set_option maxRecDepth 20000 in
theorem gX6_read_X6_readCart : GoodIn wsX6_read (wsV RX6 67 RX6 yX6_readCart wsX6_readCart) := goodIn_app (goodIn_of _ (by decide +kernel)) ggX6_read_X6_readCart
set_option maxRecDepth 20000 in
theorem ggX6_read_X6_readLaw : GoodIn wsX6_read wsX6_readLaw := goodIn_r _ [236, 10, 237, 238, 175, 176, 177, 39, 178, 11, 179, 180, 181, 182, 8, 41, 9, 36, 37, 38, 40, 7, 6, 1, 42, 43, 44, 45, 46, 47, 48, 49, 50, 51, 52, 53, 54, 55, 56, 57, 58, 59, 60, 61, 62, 63, 64, 65, 66, 67, 68, 69, 70, 71, 72, 73, 74, 75, 76, 77, 78, 79, 80, 81, 82, 83, 84, 4, 85, 86, 3, 5, 87, 88, 89, 90, 91, 92, 93, 94, 95, 96, 97, 98, 99, 100, 101, 102, 103, 104, 105, 106, 107, 108, 109, 110, 111, 112, 113, 114, 115, 116, 117, 118, 119, 120, 121, 122, 123, 124, 125, 126, 127, 128, 129, 130, 131, 132, 133, 134, 135, 136, 137, 138, 139, 140, 239, 240, 241, 242, 243, 244, 245, 141, 142, 143, 144, 145, 146, 147, 148, 149, 150, 151, 152, 153, 154, 155, 156, 157, 158, 159, 160, 161, 162, 163, 164, 165, 246, 247, 248, 249, 250, 251, 252, 253, 254, 255, 31, 256, 33, 257, 258, 259, 260, 209, 210, 211, 212, 261, 262, 263, 264, 265, 266, 267, 268, 269, 270, 271, 272, 273, 274, 275, 276, 277, 278, 279, 280, 281, 282, 283, 284, 285, 286, 287, 288, 289, 290, 291, 292, 293, 294, 295] (by decide +kernel) (by decide +kernel)
set_option maxRecDepth 20000 in
theorem gX6_read_X6_readLaw : GoodIn wsX6_read (wsV RX6 72 RX6 yX6_readLaw wsX6_readLaw) := goodIn_app (goodIn_of _ (by decide +kernel)) ggX6_read_X6_readLaw
set_option maxRecDepth 20000 in
theorem ggX6_read_X6_wrongHere : GoodIn wsX6_read wsX6_wrongHere := goodIn_r _ [178, 11, 179, 180, 181, 39, 182, 8, 41, 9, 261, 262, 263, 264, 265, 266, 267, 268, 269, 270, 271, 272] (by decide +kernel) (by decide +kernel)
set_option maxRecDepth 20000 in
theorem gX6_read_X6_wrongHere : GoodIn wsX6_read (wsV RX6 75 RX6 yX6_wrongHere wsX6_wrongHere) := goodIn_app (goodIn_of _ (by decide +kernel)) ggX6_read_X6_wrongHere
theorem dX6_read_0 : decode cX6_read 0 = .ok (.aload_n 0, 1) := by decide +kernel
theorem dX6_read_1 : decode cX6_read 1 = .ok (.aload_n 1, 1) := by decide +kernel
theorem dX6_read_2 : decode cX6_read 2 = .ok (.putfield 22, 3) := by decide +kernel
theorem dX6_read_5 : decode cX6_read 5 = .ok (.aload_n 0, 1) := by decide +kernel
theorem dX6_read_6 : decode cX6_read 6 = .ok (.iload_n 2, 1) := by decide +kernel
theorem dX6_read_7 : decode cX6_read 7 = .ok (.aload_n 1, 1) := by decide +kernel
theorem dX6_read_8 : decode cX6_read 8 = .ok (.arraylength, 1) := by decide +kernel
theorem dX6_read_9 : decode cX6_read 9 = .ok (.invokestatic 26, 3) := by decide +kernel
theorem dX6_read_12 : decode cX6_read 12 = .ok (.putfield 32, 3) := by decide +kernel
theorem dX6_read_15 : decode cX6_read 15 = .ok (.aload_n 0, 1) := by decide +kernel
theorem dX6_read_16 : decode cX6_read 16 = .ok (.iconst 0, 1) := by decide +kernel
theorem dX6_read_17 : decode cX6_read 17 = .ok (.putfield 35, 3) := by decide +kernel
theorem dX6_read_20 : decode cX6_read 20 = .ok (.aload_n 0, 1) := by decide +kernel
theorem dX6_read_21 : decode cX6_read 21 = .ok (.iconst 0, 1) := by decide +kernel
theorem dX6_read_22 : decode cX6_read 22 = .ok (.putfield 38, 3) := by decide +kernel
theorem dX6_read_25 : decode cX6_read 25 = .ok (.aload_n 0, 1) := by decide +kernel
theorem dX6_read_26 : decode cX6_read 26 = .ok (.iconst (-1), 1) := by decide +kernel
theorem dX6_read_27 : decode cX6_read 27 = .ok (.putfield 18, 3) := by decide +kernel
theorem dX6_read_30 : decode cX6_read 30 = .ok (.aload_n 0, 1) := by decide +kernel
theorem dX6_read_31 : decode cX6_read 31 = .ok (.getfield 12, 3) := by decide +kernel
theorem dX6_read_34 : decode cX6_read 34 = .ok (.invokevirtual 41, 3) := by decide +kernel
theorem dX6_read_37 : decode cX6_read 37 = .ok (.aload_n 0, 1) := by decide +kernel
theorem dX6_read_38 : decode cX6_read 38 = .ok (.invokevirtual 44, 3) := by decide +kernel
theorem dX6_read_41 : decode cX6_read 41 = .ok (.iconst 1, 1) := by decide +kernel
theorem dX6_read_42 : decode cX6_read 42 = .ok (.istore_n 3, 1) := by decide +kernel
theorem dX6_read_43 : decode cX6_read 43 = .ok (.iconst 0, 1) := by decide +kernel
theorem dX6_read_44 : decode cX6_read 44 = .ok (.istore 4, 2) := by decide +kernel
theorem dX6_read_46 : decode cX6_read 46 = .ok (.iload 4, 2) := by decide +kernel
theorem dX6_read_48 : decode cX6_read 48 = .ok (.aload_n 0, 1) := by decide +kernel
theorem dX6_read_49 : decode cX6_read 49 = .ok (.getfield 32, 3) := by decide +kernel
theorem dX6_read_52 : decode cX6_read 52 = .ok (.if_icmp .gt 93, 3) := by decide +kernel
theorem dX6_read_55 : decode cX6_read 55 = .ok (.iload_n 3, 1) := by decide +kernel
theorem dX6_read_56 : decode cX6_read 56 = .ok (.ifCond .eq 89, 3) := by decide +kernel
theorem dX6_read_59 : decode cX6_read 59 = .ok (.aload_n 0, 1) := by decide +kernel
theorem dX6_read_60 : decode cX6_read 60 = .ok (.getfield 47, 3) := by decide +kernel
theorem dX6_read_63 : decode cX6_read 63 = .ok (.ifCond .eq 82, 3) := by decide +kernel
theorem dX6_read_66 : decode cX6_read 66 = .ok (.aload_n 0, 1) := by decide +kernel
theorem dX6_read_67 : decode cX6_read 67 = .ok (.ldc 50, 2) := by decide +kernel
theorem dX6_read_69 : decode cX6_read 69 = .ok (.invokevirtual 52, 3) := by decide +kernel
theorem dX6_read_72 : decode cX6_read 72 = .ok (.ifCond .eq 11, 3) := by decide +kernel
theorem dX6_read_75 : decode cX6_read 75 = .ok (.aload_n 0, 1) := by decide +kernel
theorem dX6_read_76 : decode cX6_read 76 = .ok (.invokevirtual 56, 3) := by decide +kernel
theorem dX6_read_79 : decode cX6_read 79 = .ok (.istore_n 3, 1) := by decide +kernel
theorem dX6_read_80 : decode cX6_read 80 = .ok (.goto 59, 3) := by decide +kernel
theorem dX6_read_83 : decode cX6_read 83 = .ok (.aload_n 0, 1) := by decide +kernel
theorem dX6_read_84 : decode cX6_read 84 = .ok (.ldc 60, 2) := by decide +kernel
theorem dX6_read_86 : decode cX6_read 86 = .ok (.invokevirtual 52, 3) := by decide +kernel
theorem dX6_read_89 : decode cX6_read 89 = .ok (.ifCond .eq 11, 3) := by decide +kernel
theorem dX6_read_92 : decode cX6_read 92 = .ok (.aload_n 0, 1) := by decide +kernel
theorem dX6_read_93 : decode cX6_read 93 = .ok (.invokevirtual 62, 3) := by decide +kernel
theorem dX6_read_96 : decode cX6_read 96 = .ok (.istore_n 3, 1) := by decide +kernel
theorem dX6_read_97 : decode cX6_read 97 = .ok (.goto 42, 3) := by decide +kernel
theorem dX6_read_100 : decode cX6_read 100 = .ok (.aload_n 0, 1) := by decide +kernel
theorem dX6_read_101 : decode cX6_read 101 = .ok (.ldc 65, 2) := by decide +kernel
theorem dX6_read_103 : decode cX6_read 103 = .ok (.invokevirtual 52, 3) := by decide +kernel
theorem dX6_read_106 : decode cX6_read 106 = .ok (.ifCond .eq 11, 3) := by decide +kernel
theorem dX6_read_109 : decode cX6_read 109 = .ok (.aload_n 0, 1) := by decide +kernel
theorem dX6_read_110 : decode cX6_read 110 = .ok (.invokevirtual 67, 3) := by decide +kernel
theorem dX6_read_113 : decode cX6_read 113 = .ok (.istore_n 3, 1) := by decide +kernel
theorem dX6_read_114 : decode cX6_read 114 = .ok (.goto 25, 3) := by decide +kernel
theorem dX6_read_117 : decode cX6_read 117 = .ok (.aload_n 0, 1) := by decide +kernel
theorem dX6_read_118 : decode cX6_read 118 = .ok (.ldc 70, 2) := by decide +kernel
theorem dX6_read_120 : decode cX6_read 120 = .ok (.invokevirtual 52, 3) := by decide +kernel
theorem dX6_read_123 : decode cX6_read 123 = .ok (.ifCond .eq 11, 3) := by decide +kernel
theorem dX6_read_126 : decode cX6_read 126 = .ok (.aload_n 0, 1) := by decide +kernel
theorem dX6_read_127 : decode cX6_read 127 = .ok (.invokevirtual 72, 3) := by decide +kernel
theorem dX6_read_130 : decode cX6_read 130 = .ok (.istore_n 3, 1) := by decide +kernel
theorem dX6_read_131 : decode cX6_read 131 = .ok (.goto 8, 3) := by decide +kernel
theorem dX6_read_134 : decode cX6_read 134 = .ok (.aload_n 0, 1) := by decide +kernel
theorem dX6_read_135 : decode cX6_read 135 = .ok (.invokevirtual 75, 3) := by decide +kernel
theorem dX6_read_138 : decode cX6_read 138 = .ok (.istore_n 3, 1) := by decide +kernel
theorem dX6_read_139 : decode cX6_read 139 = .ok (.iinc 4 1, 3) := by decide +kernel
theorem dX6_read_142 : decode cX6_read 142 = .ok (.goto (-96), 3) := by decide +kernel
theorem dX6_read_145 : decode cX6_read 145 = .ok (.iload_n 3, 1) := by decide +kernel
theorem dX6_read_146 : decode cX6_read 146 = .ok (.ireturn, 1) := by decide +kernel
