set_option maxRecDepth 20000 in
theorem ggX12_rest_X12_bestLater : GoodIn wsX12_rest wsX12_bestLater := goodIn_r _ [9, 10, 11, 12, 8, 13, 14, 15, 3, 16, 17, 18, 19, 2, 20, 21, 22, 23, 24, 25, 26, 27, 28, 29, 30, 31, 32, 33, 34, 35, 36, 37, 38, 39, 40, 41, 42, 43, 44, 45, 46, 47, 48, 49, 50, 51, 52, 53, 54, 55, 56, 57, 58, 59, 60, 61, 62, 63, 64, 65, 66, 67, 68, 69, 70, 71, 72, 73, 74, 75, 76, 77, 78, 79, 80, 81, 82, 83, 84, 85, 86, 87, 88, 89, 90, 91, 92, 93, 94, 95, 96, 97, 98, 99, 100, 101, 102, 103, 104, 105, 106, 107, 108, 109, 110, 111, 112, 113, 114, 115, 116, 117, 118, 119, 120, 121, 122, 123, 124, 125, 126, 127, 128, 129, 130, 131, 132, 133, 134, 135, 136, 137, 138, 139, 140, 141, 142, 143, 144, 145, 146, 147, 148, 149, 150, 151, 152, 153, 154] (by decide +kernel) (by decide +kernel)
set_option maxRecDepth 20000 in
theorem gX12_rest_X12_bestLater : GoodIn wsX12_rest (wsV RX12 440 RX12 yX12_bestLater wsX12_bestLater) := goodIn_app (goodIn_of _ (by decide +kernel)) ggX12_rest_X12_bestLater
theorem dX12_rest_0 : decode cX12_rest 0 = .ok (.aload_n 0, 1) := by decide +kernel
theorem dX12_rest_1 : decode cX12_rest 1 = .ok (.iconst 0, 1) := by decide +kernel
theorem dX12_rest_2 : decode cX12_rest 2 = .ok (.putfield 295, 3) := by decide +kernel
theorem dX12_rest_5 : decode cX12_rest 5 = .ok (.iconst 0, 1) := by decide +kernel
theorem dX12_rest_6 : decode cX12_rest 6 = .ok (.istore_n 1, 1) := by decide +kernel
theorem dX12_rest_7 : decode cX12_rest 7 = .ok (.iconst 0, 1) := by decide +kernel
theorem dX12_rest_8 : decode cX12_rest 8 = .ok (.istore_n 2, 1) := by decide +kernel
theorem dX12_rest_9 : decode cX12_rest 9 = .ok (.iload_n 2, 1) := by decide +kernel
theorem dX12_rest_10 : decode cX12_rest 10 = .ok (.aload_n 0, 1) := by decide +kernel
theorem dX12_rest_11 : decode cX12_rest 11 = .ok (.getfield 98, 3) := by decide +kernel
theorem dX12_rest_14 : decode cX12_rest 14 = .ok (.iconst 0, 1) := by decide +kernel
theorem dX12_rest_15 : decode cX12_rest 15 = .ok (.iaload, 1) := by decide +kernel
theorem dX12_rest_16 : decode cX12_rest 16 = .ok (.if_icmp .ge 28, 3) := by decide +kernel
theorem dX12_rest_19 : decode cX12_rest 19 = .ok (.iload_n 1, 1) := by decide +kernel
theorem dX12_rest_20 : decode cX12_rest 20 = .ok (.aload_n 0, 1) := by decide +kernel
theorem dX12_rest_21 : decode cX12_rest 21 = .ok (.getfield 98, 3) := by decide +kernel
theorem dX12_rest_24 : decode cX12_rest 24 = .ok (.bipush 49, 2) := by decide +kernel
theorem dX12_rest_26 : decode cX12_rest 26 = .ok (.iload_n 2, 1) := by decide +kernel
theorem dX12_rest_27 : decode cX12_rest 27 = .ok (.iadd, 1) := by decide +kernel
theorem dX12_rest_28 : decode cX12_rest 28 = .ok (.iaload, 1) := by decide +kernel
theorem dX12_rest_29 : decode cX12_rest 29 = .ok (.iadd, 1) := by decide +kernel
theorem dX12_rest_30 : decode cX12_rest 30 = .ok (.istore_n 1, 1) := by decide +kernel
theorem dX12_rest_31 : decode cX12_rest 31 = .ok (.aload_n 0, 1) := by decide +kernel
theorem dX12_rest_32 : decode cX12_rest 32 = .ok (.getfield 149, 3) := by decide +kernel
theorem dX12_rest_35 : decode cX12_rest 35 = .ok (.iload_n 2, 1) := by decide +kernel
theorem dX12_rest_36 : decode cX12_rest 36 = .ok (.iconst 0, 1) := by decide +kernel
theorem dX12_rest_37 : decode cX12_rest 37 = .ok (.iastore, 1) := by decide +kernel
theorem dX12_rest_38 : decode cX12_rest 38 = .ok (.iinc 2 1, 3) := by decide +kernel
theorem dX12_rest_41 : decode cX12_rest 41 = .ok (.goto (-32), 3) := by decide +kernel
theorem dX12_rest_44 : decode cX12_rest 44 = .ok (.iload_n 1, 1) := by decide +kernel
theorem dX12_rest_45 : decode cX12_rest 45 = .ok (.bipush 8, 2) := by decide +kernel
theorem dX12_rest_47 : decode cX12_rest 47 = .ok (.if_icmp .le 5, 3) := by decide +kernel
theorem dX12_rest_50 : decode cX12_rest 50 = .ok (.iconst (-1), 1) := by decide +kernel
theorem dX12_rest_51 : decode cX12_rest 51 = .ok (.ireturn, 1) := by decide +kernel
theorem dX12_rest_52 : decode cX12_rest 52 = .ok (.iconst 1, 1) := by decide +kernel
theorem dX12_rest_53 : decode cX12_rest 53 = .ok (.istore_n 2, 1) := by decide +kernel
theorem dX12_rest_54 : decode cX12_rest 54 = .ok (.iload_n 2, 1) := by decide +kernel
theorem dX12_rest_55 : decode cX12_rest 55 = .ok (.bipush 20, 2) := by decide +kernel
theorem dX12_rest_57 : decode cX12_rest 57 = .ok (.if_icmp .gt 139, 3) := by decide +kernel
theorem dX12_rest_60 : decode cX12_rest 60 = .ok (.iconst 0, 1) := by decide +kernel
theorem dX12_rest_61 : decode cX12_rest 61 = .ok (.istore_n 3, 1) := by decide +kernel
theorem dX12_rest_62 : decode cX12_rest 62 = .ok (.iconst 0, 1) := by decide +kernel
theorem dX12_rest_63 : decode cX12_rest 63 = .ok (.istore 4, 2) := by decide +kernel
theorem dX12_rest_65 : decode cX12_rest 65 = .ok (.iload 4, 2) := by decide +kernel
theorem dX12_rest_67 : decode cX12_rest 67 = .ok (.aload_n 0, 1) := by decide +kernel
theorem dX12_rest_68 : decode cX12_rest 68 = .ok (.getfield 98, 3) := by decide +kernel
theorem dX12_rest_71 : decode cX12_rest 71 = .ok (.iconst 0, 1) := by decide +kernel
theorem dX12_rest_72 : decode cX12_rest 72 = .ok (.iaload, 1) := by decide +kernel
theorem dX12_rest_73 : decode cX12_rest 73 = .ok (.if_icmp .ge 64, 3) := by decide +kernel
theorem dX12_rest_76 : decode cX12_rest 76 = .ok (.aload_n 0, 1) := by decide +kernel
theorem dX12_rest_77 : decode cX12_rest 77 = .ok (.getfield 98, 3) := by decide +kernel
theorem dX12_rest_80 : decode cX12_rest 80 = .ok (.bipush 49, 2) := by decide +kernel
theorem dX12_rest_82 : decode cX12_rest 82 = .ok (.iload 4, 2) := by decide +kernel
theorem dX12_rest_84 : decode cX12_rest 84 = .ok (.iadd, 1) := by decide +kernel
theorem dX12_rest_85 : decode cX12_rest 85 = .ok (.iaload, 1) := by decide +kernel
theorem dX12_rest_86 : decode cX12_rest 86 = .ok (.ifCond .ne 6, 3) := by decide +kernel
theorem dX12_rest_89 : decode cX12_rest 89 = .ok (.goto 42, 3) := by decide +kernel
theorem dX12_rest_92 : decode cX12_rest 92 = .ok (.aload_n 0, 1) := by decide +kernel
theorem dX12_rest_93 : decode cX12_rest 93 = .ok (.iload 4, 2) := by decide +kernel
theorem dX12_rest_95 : decode cX12_rest 95 = .ok (.invokevirtual 440, 3) := by decide +kernel
theorem dX12_rest_98 : decode cX12_rest 98 = .ok (.istore 5, 2) := by decide +kernel
theorem dX12_rest_100 : decode cX12_rest 100 = .ok (.iload_n 3, 1) := by decide +kernel
theorem dX12_rest_101 : decode cX12_rest 101 = .ok (.ifCond .ne 15, 3) := by decide +kernel
theorem dX12_rest_104 : decode cX12_rest 104 = .ok (.iload 5, 2) := by decide +kernel
theorem dX12_rest_106 : decode cX12_rest 106 = .ok (.aload_n 0, 1) := by decide +kernel
theorem dX12_rest_107 : decode cX12_rest 107 = .ok (.getfield 149, 3) := by decide +kernel
theorem dX12_rest_110 : decode cX12_rest 110 = .ok (.iload 4, 2) := by decide +kernel
theorem dX12_rest_112 : decode cX12_rest 112 = .ok (.iaload, 1) := by decide +kernel
theorem dX12_rest_113 : decode cX12_rest 113 = .ok (.if_icmp .eq 7, 3) := by decide +kernel
theorem dX12_rest_116 : decode cX12_rest 116 = .ok (.iconst 1, 1) := by decide +kernel
theorem dX12_rest_117 : decode cX12_rest 117 = .ok (.goto 4, 3) := by decide +kernel
theorem dX12_rest_120 : decode cX12_rest 120 = .ok (.iconst 0, 1) := by decide +kernel
theorem dX12_rest_121 : decode cX12_rest 121 = .ok (.istore_n 3, 1) := by decide +kernel
theorem dX12_rest_122 : decode cX12_rest 122 = .ok (.aload_n 0, 1) := by decide +kernel
theorem dX12_rest_123 : decode cX12_rest 123 = .ok (.getfield 149, 3) := by decide +kernel
theorem dX12_rest_126 : decode cX12_rest 126 = .ok (.iload 4, 2) := by decide +kernel
theorem dX12_rest_128 : decode cX12_rest 128 = .ok (.iload 5, 2) := by decide +kernel
theorem dX12_rest_130 : decode cX12_rest 130 = .ok (.iastore, 1) := by decide +kernel
theorem dX12_rest_131 : decode cX12_rest 131 = .ok (.iinc 4 1, 3) := by decide +kernel
theorem dX12_rest_134 : decode cX12_rest 134 = .ok (.goto (-69), 3) := by decide +kernel
theorem dX12_rest_137 : decode cX12_rest 137 = .ok (.iload_n 3, 1) := by decide +kernel
theorem dX12_rest_138 : decode cX12_rest 138 = .ok (.ifCond .eq 6, 3) := by decide +kernel
theorem dX12_rest_141 : decode cX12_rest 141 = .ok (.goto 49, 3) := by decide +kernel
theorem dX12_rest_144 : decode cX12_rest 144 = .ok (.iconst 0, 1) := by decide +kernel
theorem dX12_rest_145 : decode cX12_rest 145 = .ok (.istore 4, 2) := by decide +kernel
theorem dX12_rest_147 : decode cX12_rest 147 = .ok (.iload 4, 2) := by decide +kernel
theorem dX12_rest_149 : decode cX12_rest 149 = .ok (.aload_n 0, 1) := by decide +kernel
theorem dX12_rest_150 : decode cX12_rest 150 = .ok (.getfield 98, 3) := by decide +kernel
theorem dX12_rest_153 : decode cX12_rest 153 = .ok (.iconst 0, 1) := by decide +kernel
theorem dX12_rest_154 : decode cX12_rest 154 = .ok (.iaload, 1) := by decide +kernel
theorem dX12_rest_155 : decode cX12_rest 155 = .ok (.if_icmp .ge 23, 3) := by decide +kernel
theorem dX12_rest_158 : decode cX12_rest 158 = .ok (.aload_n 0, 1) := by decide +kernel
theorem dX12_rest_159 : decode cX12_rest 159 = .ok (.getfield 146, 3) := by decide +kernel
theorem dX12_rest_162 : decode cX12_rest 162 = .ok (.iload 4, 2) := by decide +kernel
theorem dX12_rest_164 : decode cX12_rest 164 = .ok (.aload_n 0, 1) := by decide +kernel
theorem dX12_rest_165 : decode cX12_rest 165 = .ok (.getfield 149, 3) := by decide +kernel
theorem dX12_rest_168 : decode cX12_rest 168 = .ok (.iload 4, 2) := by decide +kernel
theorem dX12_rest_170 : decode cX12_rest 170 = .ok (.iaload, 1) := by decide +kernel
theorem dX12_rest_171 : decode cX12_rest 171 = .ok (.iastore, 1) := by decide +kernel
theorem dX12_rest_172 : decode cX12_rest 172 = .ok (.iinc 4 1, 3) := by decide +kernel
theorem dX12_rest_175 : decode cX12_rest 175 = .ok (.goto (-28), 3) := by decide +kernel
theorem dX12_rest_178 : decode cX12_rest 178 = .ok (.aload_n 0, 1) := by decide +kernel
theorem dX12_rest_179 : decode cX12_rest 179 = .ok (.aload_n 0, 1) := by decide +kernel
theorem dX12_rest_180 : decode cX12_rest 180 = .ok (.getfield 98, 3) := by decide +kernel
theorem dX12_rest_183 : decode cX12_rest 183 = .ok (.iconst 0, 1) := by decide +kernel
theorem dX12_rest_184 : decode cX12_rest 184 = .ok (.iaload, 1) := by decide +kernel
theorem dX12_rest_185 : decode cX12_rest 185 = .ok (.putfield 295, 3) := by decide +kernel
theorem dX12_rest_188 : decode cX12_rest 188 = .ok (.iload_n 2, 1) := by decide +kernel
theorem dX12_rest_189 : decode cX12_rest 189 = .ok (.ireturn, 1) := by decide +kernel
theorem dX12_rest_190 : decode cX12_rest 190 = .ok (.iinc 2 1, 3) := by decide +kernel
theorem dX12_rest_193 : decode cX12_rest 193 = .ok (.goto (-139), 3) := by decide +kernel
theorem dX12_rest_196 : decode cX12_rest 196 = .ok (.iconst (-1), 1) := by decide +kernel
theorem dX12_rest_197 : decode cX12_rest 197 = .ok (.ireturn, 1) := by decide +kernel
set_option maxRecDepth 20000 in
theorem ggX12_layRow_X12_birdMany : GoodIn wsX12_layRow wsX12_birdMany := goodIn_r _ [6, 7, 8, 9, 10, 11, 12, 13, 14, 15, 16, 17, 18, 19, 20, 21, 22, 23, 24, 25, 26, 27, 28, 29, 30, 31, 32, 33, 34, 35, 36, 37, 38, 39, 40, 41, 42, 43, 44, 45, 46, 47, 48, 49, 50, 51, 52, 53, 54, 55, 56, 57, 58, 59, 60, 61, 62, 63, 64, 65, 66, 67, 68, 69, 70, 71, 72, 73, 74, 75, 76, 77, 78, 79, 80, 81, 82] (by decide +kernel) (by decide +kernel)
set_option maxRecDepth 20000 in
theorem gX12_layRow_X12_birdMany : GoodIn wsX12_layRow (wsV RX12 363 RX12 yX12_birdMany wsX12_birdMany) := goodIn_app (goodIn_of _ (by decide +kernel)) ggX12_layRow_X12_birdMany
theorem dX12_layRow_0 : decode cX12_layRow 0 = .ok (.iload_n 1, 1) := by decide +kernel
theorem dX12_layRow_1 : decode cX12_layRow 1 = .ok (.istore_n 3, 1) := by decide +kernel
theorem dX12_layRow_2 : decode cX12_layRow 2 = .ok (.aload_n 0, 1) := by decide +kernel
theorem dX12_layRow_3 : decode cX12_layRow 3 = .ok (.invokevirtual 363, 3) := by decide +kernel
theorem dX12_layRow_6 : decode cX12_layRow 6 = .ok (.iconst 1, 1) := by decide +kernel
theorem dX12_layRow_7 : decode cX12_layRow 7 = .ok (.isub, 1) := by decide +kernel
theorem dX12_layRow_8 : decode cX12_layRow 8 = .ok (.istore 4, 2) := by decide +kernel
theorem dX12_layRow_10 : decode cX12_layRow 10 = .ok (.iload 4, 2) := by decide +kernel
theorem dX12_layRow_12 : decode cX12_layRow 12 = .ok (.ifCond .lt 23, 3) := by decide +kernel
theorem dX12_layRow_15 : decode cX12_layRow 15 = .ok (.aload_n 0, 1) := by decide +kernel
theorem dX12_layRow_16 : decode cX12_layRow 16 = .ok (.getfield 152, 3) := by decide +kernel
theorem dX12_layRow_19 : decode cX12_layRow 19 = .ok (.iload 4, 2) := by decide +kernel
theorem dX12_layRow_21 : decode cX12_layRow 21 = .ok (.iload_n 3, 1) := by decide +kernel
theorem dX12_layRow_22 : decode cX12_layRow 22 = .ok (.iload_n 2, 1) := by decide +kernel
theorem dX12_layRow_23 : decode cX12_layRow 23 = .ok (.irem, 1) := by decide +kernel
theorem dX12_layRow_24 : decode cX12_layRow 24 = .ok (.iastore, 1) := by decide +kernel
theorem dX12_layRow_25 : decode cX12_layRow 25 = .ok (.iload_n 3, 1) := by decide +kernel
theorem dX12_layRow_26 : decode cX12_layRow 26 = .ok (.iload_n 2, 1) := by decide +kernel
theorem dX12_layRow_27 : decode cX12_layRow 27 = .ok (.idiv, 1) := by decide +kernel
theorem dX12_layRow_28 : decode cX12_layRow 28 = .ok (.istore_n 3, 1) := by decide +kernel
theorem dX12_layRow_29 : decode cX12_layRow 29 = .ok (.iinc 4 (-1), 3) := by decide +kernel
theorem dX12_layRow_32 : decode cX12_layRow 32 = .ok (.goto (-22), 3) := by decide +kernel
theorem dX12_layRow_35 : decode cX12_layRow 35 = .ok (.return_, 1) := by decide +kernel
set_option maxRecDepth 20000 in
theorem ggX12_rows_X12_birdMany : GoodIn wsX12_rows wsX12_birdMany := goodIn_r _ [5, 6, 7, 8, 9, 10, 11, 12, 13, 14, 15, 16, 17, 18, 19, 20, 21, 22, 23, 24, 25, 26, 27, 28, 29, 30, 31, 32, 33, 34, 35, 36, 37, 38, 39, 40, 41, 42, 43, 44, 45, 46, 47, 48, 49, 50, 51, 52, 53, 54, 55, 56, 57, 58, 59, 60, 61, 62, 63, 64, 65, 66, 67, 68, 69, 70, 71, 72, 73, 74, 75, 76, 77, 78, 79, 80, 81] (by decide +kernel) (by decide +kernel)
set_option maxRecDepth 20000 in
theorem gX12_rows_X12_birdMany : GoodIn wsX12_rows (wsV RX12 363 RX12 yX12_birdMany wsX12_birdMany) := goodIn_app (goodIn_of _ (by decide +kernel)) ggX12_rows_X12_birdMany
theorem dX12_rows_0 : decode cX12_rows 0 = .ok (.iconst 1, 1) := by decide +kernel
theorem dX12_rows_1 : decode cX12_rows 1 = .ok (.istore_n 2, 1) := by decide +kernel
theorem dX12_rows_2 : decode cX12_rows 2 = .ok (.iconst 0, 1) := by decide +kernel
theorem dX12_rows_3 : decode cX12_rows 3 = .ok (.istore_n 3, 1) := by decide +kernel
theorem dX12_rows_4 : decode cX12_rows 4 = .ok (.iload_n 3, 1) := by decide +kernel
theorem dX12_rows_5 : decode cX12_rows 5 = .ok (.aload_n 0, 1) := by decide +kernel
theorem dX12_rows_6 : decode cX12_rows 6 = .ok (.invokevirtual 363, 3) := by decide +kernel
theorem dX12_rows_9 : decode cX12_rows 9 = .ok (.if_icmp .ge 13, 3) := by decide +kernel
theorem dX12_rows_12 : decode cX12_rows 12 = .ok (.iload_n 2, 1) := by decide +kernel
theorem dX12_rows_13 : decode cX12_rows 13 = .ok (.iload_n 1, 1) := by decide +kernel
theorem dX12_rows_14 : decode cX12_rows 14 = .ok (.imul, 1) := by decide +kernel
theorem dX12_rows_15 : decode cX12_rows 15 = .ok (.istore_n 2, 1) := by decide +kernel
theorem dX12_rows_16 : decode cX12_rows 16 = .ok (.iinc 3 1, 3) := by decide +kernel
theorem dX12_rows_19 : decode cX12_rows 19 = .ok (.goto (-15), 3) := by decide +kernel
theorem dX12_rows_22 : decode cX12_rows 22 = .ok (.iload_n 2, 1) := by decide +kernel
theorem dX12_rows_23 : decode cX12_rows 23 = .ok (.ireturn, 1) := by decide +kernel
set_option maxRecDepth 20000 in
theorem ggX12_isTaught_X12_birdMany : GoodIn wsX12_isTaught wsX12_birdMany := goodIn_r _ [7, 8, 9, 10, 11, 12, 13, 14, 15, 16, 17, 18, 19, 20, 21, 22, 23, 24, 25, 26, 27, 28, 29, 30, 31, 32, 33, 34, 35, 36, 37, 38, 39, 40, 41, 42, 43, 44, 45, 46, 47, 48, 49, 50, 51, 52, 53, 54, 55, 56, 57, 58, 59, 60, 61, 62, 63, 64, 65, 66, 67, 68, 69, 70, 71, 72, 73, 74, 75, 76, 77, 78, 79, 80, 81, 82, 83] (by decide +kernel) (by decide +kernel)
set_option maxRecDepth 20000 in
theorem gX12_isTaught_X12_birdMany : GoodIn wsX12_isTaught (wsV RX12 363 RX12 yX12_birdMany wsX12_birdMany) := goodIn_app (goodIn_of _ (by decide +kernel)) ggX12_isTaught_X12_birdMany
theorem dX12_isTaught_0 : decode cX12_isTaught 0 = .ok (.iconst 0, 1) := by decide +kernel
theorem dX12_isTaught_1 : decode cX12_isTaught 1 = .ok (.istore_n 2, 1) := by decide +kernel
theorem dX12_isTaught_2 : decode cX12_isTaught 2 = .ok (.iconst 0, 1) := by decide +kernel
theorem dX12_isTaught_3 : decode cX12_isTaught 3 = .ok (.istore_n 3, 1) := by decide +kernel
theorem dX12_isTaught_4 : decode cX12_isTaught 4 = .ok (.iload_n 3, 1) := by decide +kernel
theorem dX12_isTaught_5 : decode cX12_isTaught 5 = .ok (.aload_n 0, 1) := by decide +kernel
theorem dX12_isTaught_6 : decode cX12_isTaught 6 = .ok (.invokevirtual 363, 3) := by decide +kernel
theorem dX12_isTaught_9 : decode cX12_isTaught 9 = .ok (.if_icmp .ge 41, 3) := by decide +kernel
theorem dX12_isTaught_12 : decode cX12_isTaught 12 = .ok (.iload_n 2, 1) := by decide +kernel
theorem dX12_isTaught_13 : decode cX12_isTaught 13 = .ok (.aload_n 0, 1) := by decide +kernel
theorem dX12_isTaught_14 : decode cX12_isTaught 14 = .ok (.getfield 152, 3) := by decide +kernel
theorem dX12_isTaught_17 : decode cX12_isTaught 17 = .ok (.iload_n 3, 1) := by decide +kernel
theorem dX12_isTaught_18 : decode cX12_isTaught 18 = .ok (.iaload, 1) := by decide +kernel
theorem dX12_isTaught_19 : decode cX12_isTaught 19 = .ok (.iadd, 1) := by decide +kernel
theorem dX12_isTaught_20 : decode cX12_isTaught 20 = .ok (.istore_n 2, 1) := by decide +kernel
theorem dX12_isTaught_21 : decode cX12_isTaught 21 = .ok (.aload_n 0, 1) := by decide +kernel
theorem dX12_isTaught_22 : decode cX12_isTaught 22 = .ok (.getfield 98, 3) := by decide +kernel
theorem dX12_isTaught_25 : decode cX12_isTaught 25 = .ok (.bipush 73, 2) := by decide +kernel
theorem dX12_isTaught_27 : decode cX12_isTaught 27 = .ok (.iload_n 3, 1) := by decide +kernel
theorem dX12_isTaught_28 : decode cX12_isTaught 28 = .ok (.iadd, 1) := by decide +kernel
theorem dX12_isTaught_29 : decode cX12_isTaught 29 = .ok (.iaload, 1) := by decide +kernel
theorem dX12_isTaught_30 : decode cX12_isTaught 30 = .ok (.aload_n 0, 1) := by decide +kernel
theorem dX12_isTaught_31 : decode cX12_isTaught 31 = .ok (.getfield 152, 3) := by decide +kernel
theorem dX12_isTaught_34 : decode cX12_isTaught 34 = .ok (.iload_n 3, 1) := by decide +kernel
theorem dX12_isTaught_35 : decode cX12_isTaught 35 = .ok (.iaload, 1) := by decide +kernel
theorem dX12_isTaught_36 : decode cX12_isTaught 36 = .ok (.iadd, 1) := by decide +kernel
theorem dX12_isTaught_37 : decode cX12_isTaught 37 = .ok (.bipush 20, 2) := by decide +kernel
theorem dX12_isTaught_39 : decode cX12_isTaught 39 = .ok (.if_icmp .le 5, 3) := by decide +kernel
theorem dX12_isTaught_42 : decode cX12_isTaught 42 = .ok (.iconst 0, 1) := by decide +kernel
theorem dX12_isTaught_43 : decode cX12_isTaught 43 = .ok (.ireturn, 1) := by decide +kernel
theorem dX12_isTaught_44 : decode cX12_isTaught 44 = .ok (.iinc 3 1, 3) := by decide +kernel
theorem dX12_isTaught_47 : decode cX12_isTaught 47 = .ok (.goto (-43), 3) := by decide +kernel
theorem dX12_isTaught_50 : decode cX12_isTaught 50 = .ok (.iload_n 2, 1) := by decide +kernel
theorem dX12_isTaught_51 : decode cX12_isTaught 51 = .ok (.iload_n 1, 1) := by decide +kernel
theorem dX12_isTaught_52 : decode cX12_isTaught 52 = .ok (.if_icmp .ne 7, 3) := by decide +kernel
theorem dX12_isTaught_55 : decode cX12_isTaught 55 = .ok (.iconst 1, 1) := by decide +kernel
theorem dX12_isTaught_56 : decode cX12_isTaught 56 = .ok (.goto 4, 3) := by decide +kernel
theorem dX12_isTaught_59 : decode cX12_isTaught 59 = .ok (.iconst 0, 1) := by decide +kernel
theorem dX12_isTaught_60 : decode cX12_isTaught 60 = .ok (.ireturn, 1) := by decide +kernel
set_option maxRecDepth 20000 in
theorem ggX12_takeRow_X12_incomeOf : GoodIn wsX12_takeRow wsX12_incomeOf := goodIn_r _ [7, 8, 9, 10, 11, 6, 12, 13, 14, 15, 16, 17, 18, 19, 25, 26, 27, 28, 29, 30, 31, 32, 33, 34, 35, 36, 37, 38, 39, 40, 41, 42, 43, 44, 45, 46, 47, 48, 49, 50, 51, 52, 53, 54, 55, 56, 57, 58, 59, 60, 61, 62, 63, 64, 65, 66, 67, 68, 69, 70, 71, 72, 73, 74, 75, 76, 77, 78, 79, 80, 81, 82, 83, 84, 85, 86, 87, 88, 89, 90, 91, 92, 93, 94, 95, 96, 97, 98] (by decide +kernel) (by decide +kernel)
set_option maxRecDepth 20000 in
theorem gX12_takeRow_X12_incomeOf : GoodIn wsX12_takeRow (wsV RX12 421 RX12 yX12_incomeOf wsX12_incomeOf) := goodIn_app (goodIn_of _ (by decide +kernel)) ggX12_takeRow_X12_incomeOf
set_option maxRecDepth 20000 in
theorem ggX12_takeRow_X12_birdMany : GoodIn wsX12_takeRow wsX12_birdMany := goodIn_r _ [23, 24, 19, 25, 26, 27, 28, 29, 30, 31, 32, 33, 34, 35, 36, 37, 38, 39, 40, 41, 42, 43, 44, 45, 46, 47, 48, 49, 50, 51, 52, 53, 54, 55, 56, 57, 58, 59, 60, 61, 62, 63, 64, 65, 66, 67, 68, 69, 70, 71, 72, 73, 74, 75, 76, 77, 78, 79, 80, 81, 82, 83, 84, 85, 86, 87, 88, 89, 90, 91, 92, 93, 94, 95, 96, 97, 98] (by decide +kernel) (by decide +kernel)
set_option maxRecDepth 20000 in
theorem gX12_takeRow_X12_birdMany : GoodIn wsX12_takeRow (wsV RX12 363 RX12 yX12_birdMany wsX12_birdMany) := goodIn_app (goodIn_of _ (by decide +kernel)) ggX12_takeRow_X12_birdMany
theorem dX12_takeRow_0 : decode cX12_takeRow 0 = .ok (.aload_n 0, 1) := by decide +kernel
theorem dX12_takeRow_1 : decode cX12_takeRow 1 = .ok (.invokevirtual 421, 3) := by decide +kernel
theorem dX12_takeRow_4 : decode cX12_takeRow 4 = .ok (.istore_n 2, 1) := by decide +kernel
theorem dX12_takeRow_5 : decode cX12_takeRow 5 = .ok (.iload_n 1, 1) := by decide +kernel
theorem dX12_takeRow_6 : decode cX12_takeRow 6 = .ok (.ifCond .lt 10, 3) := by decide +kernel
theorem dX12_takeRow_9 : decode cX12_takeRow 9 = .ok (.iload_n 2, 1) := by decide +kernel
theorem dX12_takeRow_10 : decode cX12_takeRow 10 = .ok (.iload_n 1, 1) := by decide +kernel
theorem dX12_takeRow_11 : decode cX12_takeRow 11 = .ok (.if_icmp .gt 5, 3) := by decide +kernel
theorem dX12_takeRow_14 : decode cX12_takeRow 14 = .ok (.iload_n 1, 1) := by decide +kernel
theorem dX12_takeRow_15 : decode cX12_takeRow 15 = .ok (.ireturn, 1) := by decide +kernel
theorem dX12_takeRow_16 : decode cX12_takeRow 16 = .ok (.iconst 0, 1) := by decide +kernel
theorem dX12_takeRow_17 : decode cX12_takeRow 17 = .ok (.istore_n 3, 1) := by decide +kernel
theorem dX12_takeRow_18 : decode cX12_takeRow 18 = .ok (.iload_n 3, 1) := by decide +kernel
theorem dX12_takeRow_19 : decode cX12_takeRow 19 = .ok (.aload_n 0, 1) := by decide +kernel
theorem dX12_takeRow_20 : decode cX12_takeRow 20 = .ok (.invokevirtual 363, 3) := by decide +kernel
theorem dX12_takeRow_23 : decode cX12_takeRow 23 = .ok (.if_icmp .ge 21, 3) := by decide +kernel
theorem dX12_takeRow_26 : decode cX12_takeRow 26 = .ok (.aload_n 0, 1) := by decide +kernel
theorem dX12_takeRow_27 : decode cX12_takeRow 27 = .ok (.getfield 146, 3) := by decide +kernel
theorem dX12_takeRow_30 : decode cX12_takeRow 30 = .ok (.iload_n 3, 1) := by decide +kernel
theorem dX12_takeRow_31 : decode cX12_takeRow 31 = .ok (.aload_n 0, 1) := by decide +kernel
theorem dX12_takeRow_32 : decode cX12_takeRow 32 = .ok (.getfield 152, 3) := by decide +kernel
theorem dX12_takeRow_35 : decode cX12_takeRow 35 = .ok (.iload_n 3, 1) := by decide +kernel
theorem dX12_takeRow_36 : decode cX12_takeRow 36 = .ok (.iaload, 1) := by decide +kernel
theorem dX12_takeRow_37 : decode cX12_takeRow 37 = .ok (.iastore, 1) := by decide +kernel
theorem dX12_takeRow_38 : decode cX12_takeRow 38 = .ok (.iinc 3 1, 3) := by decide +kernel
theorem dX12_takeRow_41 : decode cX12_takeRow 41 = .ok (.goto (-23), 3) := by decide +kernel
theorem dX12_takeRow_44 : decode cX12_takeRow 44 = .ok (.iload_n 2, 1) := by decide +kernel
theorem dX12_takeRow_45 : decode cX12_takeRow 45 = .ok (.ireturn, 1) := by decide +kernel
set_option maxRecDepth 20000 in
theorem ggX12_teach_X12_isIn : GoodIn wsX12_teach wsX12_isIn := goodIn_r _ [7] (by decide +kernel) (by decide +kernel)
set_option maxRecDepth 20000 in
theorem gX12_teach_X12_isIn : GoodIn wsX12_teach (va_wsS RX12 366 yX12_isIn wsX12_isIn) := goodIn_app (goodIn_of _ (by decide +kernel)) ggX12_teach_X12_isIn
set_option maxRecDepth 20000 in
theorem ggX12_teach_X12_rows : GoodIn wsX12_teach wsX12_rows := goodIn_r _ [11, 12, 13, 14, 6, 15, 16, 17, 101, 102, 103, 104, 105, 106, 107, 108, 109, 110, 111, 112, 113, 114, 115, 116, 117, 118, 119, 120, 121, 122, 123, 124, 125, 126, 127, 128, 129, 130, 131, 132, 133, 134, 135, 136, 137, 138, 139, 140, 141, 142, 143, 144, 145, 146, 147, 148, 149, 150, 151, 152, 153, 154, 155, 156, 157, 158, 159, 160, 161, 162, 163, 164, 165, 166, 167, 168, 169, 170, 171, 172, 173, 174] (by decide +kernel) (by decide +kernel)
set_option maxRecDepth 20000 in
theorem gX12_teach_X12_rows : GoodIn wsX12_teach (wsV RX12 443 RX12 yX12_rows wsX12_rows) := goodIn_app (goodIn_of _ (by decide +kernel)) ggX12_teach_X12_rows
set_option maxRecDepth 20000 in
theorem ggX12_teach_X12_layRow : GoodIn wsX12_teach wsX12_layRow := goodIn_r _ [21, 3, 12, 13, 14, 6, 15, 16, 17, 101, 102, 103, 104, 105, 106, 107, 108, 109, 110, 111, 112, 113, 114, 115, 116, 117, 118, 119, 120, 121, 122, 123, 124, 125, 126, 127, 128, 129, 130, 131, 132, 133, 134, 135, 136, 137, 138, 139, 140, 141, 142, 143, 144, 145, 146, 147, 148, 149, 150, 151, 152, 153, 154, 155, 156, 157, 158, 159, 160, 161, 162, 163, 164, 165, 166, 167, 168, 169, 170, 171, 172, 173, 174] (by decide +kernel) (by decide +kernel)
set_option maxRecDepth 20000 in
theorem gX12_teach_X12_layRow : GoodIn wsX12_teach (wsV RX12 446 RX12 yX12_layRow wsX12_layRow) := goodIn_app (goodIn_of _ (by decide +kernel)) ggX12_teach_X12_layRow
set_option maxRecDepth 20000 in
theorem ggX12_teach_X12_isTaught : GoodIn wsX12_teach wsX12_isTaught := goodIn_r _ [25, 3, 26, 12, 13, 14, 6, 15, 16, 17, 101, 102, 103, 104, 105, 106, 107, 108, 109, 110, 111, 112, 113, 114, 115, 116, 117, 118, 119, 120, 121, 122, 123, 124, 125, 126, 127, 128, 129, 130, 131, 132, 133, 134, 135, 136, 137, 138, 139, 140, 141, 142, 143, 144, 145, 146, 147, 148, 149, 150, 151, 152, 153, 154, 155, 156, 157, 158, 159, 160, 161, 162, 163, 164, 165, 166, 167, 168, 169, 170, 171, 172, 173, 174] (by decide +kernel) (by decide +kernel)
set_option maxRecDepth 20000 in
theorem gX12_teach_X12_isTaught : GoodIn wsX12_teach (wsV RX12 449 RX12 yX12_isTaught wsX12_isTaught) := goodIn_app (goodIn_of _ (by decide +kernel)) ggX12_teach_X12_isTaught
set_option maxRecDepth 20000 in
theorem ggX12_teach_X12_layDay : GoodIn wsX12_teach wsX12_layDay := goodIn_r _ [30, 26, 31, 32, 33, 34, 35, 2, 36, 37, 38, 6, 39, 40, 41, 17, 42, 43, 44, 45, 46, 47, 48, 101, 102, 103, 104, 105, 106, 107, 108, 109, 110, 111, 112, 113, 114, 115, 116, 117, 118, 119, 120, 121, 122, 123, 124, 125, 126, 127, 128, 129, 130, 131, 132, 133, 134, 135, 136, 137, 138, 139, 140, 141, 142, 143, 144, 145, 146, 147, 148, 149, 150, 151, 152, 153, 154, 155, 156, 157, 158, 159, 160, 161, 162, 163, 164, 165, 166, 167, 168, 169, 170, 171, 172, 173, 174] (by decide +kernel) (by decide +kernel)
set_option maxRecDepth 20000 in
theorem gX12_teach_X12_layDay : GoodIn wsX12_teach (wsV RX12 400 RX12 yX12_layDay wsX12_layDay) := goodIn_app (goodIn_of _ (by decide +kernel)) ggX12_teach_X12_layDay
set_option maxRecDepth 20000 in
theorem ggX12_teach_X12_birdMany : GoodIn wsX12_teach wsX12_birdMany := goodIn_r _ [15, 16, 17, 101, 102, 103, 104, 105, 106, 107, 108, 109, 110, 111, 112, 113, 114, 115, 116, 117, 118, 119, 120, 121, 122, 123, 124, 125, 126, 127, 128, 129, 130, 131, 132, 133, 134, 135, 136, 137, 138, 139, 140, 141, 142, 143, 144, 145, 146, 147, 148, 149, 150, 151, 152, 153, 154, 155, 156, 157, 158, 159, 160, 161, 162, 163, 164, 165, 166, 167, 168, 169, 170, 171, 172, 173, 174] (by decide +kernel) (by decide +kernel)
set_option maxRecDepth 20000 in
theorem gX12_teach_X12_birdMany : GoodIn wsX12_teach (wsV RX12 363 RX12 yX12_birdMany wsX12_birdMany) := goodIn_app (goodIn_of _ (by decide +kernel)) ggX12_teach_X12_birdMany
set_option maxRecDepth 20000 in
theorem ggX12_teach_X12_goesBy : GoodIn wsX12_teach wsX12_goesBy := goodIn_r _ [52, 53, 54, 55, 56, 57, 33, 58, 59, 17, 32, 60, 61, 62, 6, 63, 31, 35, 44, 45, 46, 47, 48, 64, 65, 66, 67, 40, 42, 68, 69, 70, 71, 2, 34, 72, 73, 74, 75, 76, 77, 78, 79, 80, 81, 82, 83, 84, 85, 86, 87, 101, 102, 103, 104, 105, 106, 107, 108, 109, 110, 111, 112, 113, 114, 115, 116, 117, 118, 119, 120, 121, 122, 123, 124, 125, 126, 127, 128, 129, 130, 131, 132, 133, 134, 135, 136, 137, 138, 139, 140, 141, 142, 143, 144, 145, 146, 147, 148, 149, 150, 151, 152, 153, 154, 155, 156, 157, 158, 159, 160, 161, 162, 163, 164, 165, 166, 167, 168, 169, 170, 171, 172, 173, 174] (by decide +kernel) (by decide +kernel)
set_option maxRecDepth 20000 in
theorem gX12_teach_X12_goesBy : GoodIn wsX12_teach (wsV RX12 403 RX12 yX12_goesBy wsX12_goesBy) := goodIn_app (goodIn_of _ (by decide +kernel)) ggX12_teach_X12_goesBy
set_option maxRecDepth 20000 in
theorem ggX12_teach_X12_takeRow : GoodIn wsX12_teach wsX12_takeRow := goodIn_r _ [91, 92, 3, 93, 94, 95, 6, 96, 31, 97, 98, 99, 100, 56, 44, 45, 46, 47, 48, 17, 12, 13, 14, 15, 16, 101, 102, 103, 104, 105, 106, 107, 108, 109, 110, 111, 112, 113, 114, 115, 116, 117, 118, 119, 120, 121, 122, 123, 124, 125, 126, 127, 128, 129, 130, 131, 132, 133, 134, 135, 136, 137, 138, 139, 140, 141, 142, 143, 144, 145, 146, 147, 148, 149, 150, 151, 152, 153, 154, 155, 156, 157, 158, 159, 160, 161, 162, 163, 164, 165, 166, 167, 168, 169, 170, 171, 172, 173, 174] (by decide +kernel) (by decide +kernel)
set_option maxRecDepth 20000 in
theorem gX12_teach_X12_takeRow : GoodIn wsX12_teach (wsV RX12 452 RX12 yX12_takeRow wsX12_takeRow) := goodIn_app (goodIn_of _ (by decide +kernel)) ggX12_teach_X12_takeRow
theorem dX12_teach_0 : decode cX12_teach 0 = .ok (.aload_n 0, 1) := by decide +kernel
theorem dX12_teach_1 : decode cX12_teach 1 = .ok (.iconst 0, 1) := by decide +kernel
theorem dX12_teach_2 : decode cX12_teach 2 = .ok (.putfield 295, 3) := by decide +kernel
theorem dX12_teach_5 : decode cX12_teach 5 = .ok (.iload_n 1, 1) := by decide +kernel
theorem dX12_teach_6 : decode cX12_teach 6 = .ok (.iconst 0, 1) := by decide +kernel
theorem dX12_teach_7 : decode cX12_teach 7 = .ok (.iconst 3, 1) := by decide +kernel
theorem dX12_teach_8 : decode cX12_teach 8 = .ok (.invokestatic 366, 3) := by decide +kernel
theorem dX12_teach_11 : decode cX12_teach 11 = .ok (.ifCond .ne 5, 3) := by decide +kernel
theorem dX12_teach_14 : decode cX12_teach 14 = .ok (.iconst (-1), 1) := by decide +kernel
theorem dX12_teach_15 : decode cX12_teach 15 = .ok (.ireturn, 1) := by decide +kernel
theorem dX12_teach_16 : decode cX12_teach 16 = .ok (.iconst (-1), 1) := by decide +kernel
theorem dX12_teach_17 : decode cX12_teach 17 = .ok (.istore_n 2, 1) := by decide +kernel
theorem dX12_teach_18 : decode cX12_teach 18 = .ok (.iconst 0, 1) := by decide +kernel
theorem dX12_teach_19 : decode cX12_teach 19 = .ok (.istore_n 3, 1) := by decide +kernel
theorem dX12_teach_20 : decode cX12_teach 20 = .ok (.iload_n 3, 1) := by decide +kernel
theorem dX12_teach_21 : decode cX12_teach 21 = .ok (.aload_n 0, 1) := by decide +kernel
theorem dX12_teach_22 : decode cX12_teach 22 = .ok (.iconst 4, 1) := by decide +kernel
theorem dX12_teach_23 : decode cX12_teach 23 = .ok (.invokevirtual 443, 3) := by decide +kernel
theorem dX12_teach_26 : decode cX12_teach 26 = .ok (.if_icmp .ge 75, 3) := by decide +kernel
theorem dX12_teach_29 : decode cX12_teach 29 = .ok (.aload_n 0, 1) := by decide +kernel
theorem dX12_teach_30 : decode cX12_teach 30 = .ok (.iload_n 3, 1) := by decide +kernel
theorem dX12_teach_31 : decode cX12_teach 31 = .ok (.iconst 4, 1) := by decide +kernel
theorem dX12_teach_32 : decode cX12_teach 32 = .ok (.invokevirtual 446, 3) := by decide +kernel
theorem dX12_teach_35 : decode cX12_teach 35 = .ok (.aload_n 0, 1) := by decide +kernel
theorem dX12_teach_36 : decode cX12_teach 36 = .ok (.iload_n 1, 1) := by decide +kernel
theorem dX12_teach_37 : decode cX12_teach 37 = .ok (.invokevirtual 449, 3) := by decide +kernel
theorem dX12_teach_40 : decode cX12_teach 40 = .ok (.ifCond .ne 6, 3) := by decide +kernel
theorem dX12_teach_43 : decode cX12_teach 43 = .ok (.goto 52, 3) := by decide +kernel
theorem dX12_teach_46 : decode cX12_teach 46 = .ok (.aload_n 0, 1) := by decide +kernel
theorem dX12_teach_47 : decode cX12_teach 47 = .ok (.invokevirtual 400, 3) := by decide +kernel
theorem dX12_teach_50 : decode cX12_teach 50 = .ok (.iconst 0, 1) := by decide +kernel
theorem dX12_teach_51 : decode cX12_teach 51 = .ok (.istore 4, 2) := by decide +kernel
theorem dX12_teach_53 : decode cX12_teach 53 = .ok (.iload 4, 2) := by decide +kernel
theorem dX12_teach_55 : decode cX12_teach 55 = .ok (.aload_n 0, 1) := by decide +kernel
theorem dX12_teach_56 : decode cX12_teach 56 = .ok (.invokevirtual 363, 3) := by decide +kernel
theorem dX12_teach_59 : decode cX12_teach 59 = .ok (.if_icmp .ge 26, 3) := by decide +kernel
theorem dX12_teach_62 : decode cX12_teach 62 = .ok (.aload_n 0, 1) := by decide +kernel
theorem dX12_teach_63 : decode cX12_teach 63 = .ok (.getfield 107, 3) := by decide +kernel
theorem dX12_teach_66 : decode cX12_teach 66 = .ok (.iload 4, 2) := by decide +kernel
theorem dX12_teach_68 : decode cX12_teach 68 = .ok (.dup2, 1) := by decide +kernel
theorem dX12_teach_69 : decode cX12_teach 69 = .ok (.iaload, 1) := by decide +kernel
theorem dX12_teach_70 : decode cX12_teach 70 = .ok (.aload_n 0, 1) := by decide +kernel
theorem dX12_teach_71 : decode cX12_teach 71 = .ok (.getfield 152, 3) := by decide +kernel
theorem dX12_teach_74 : decode cX12_teach 74 = .ok (.iload 4, 2) := by decide +kernel
theorem dX12_teach_76 : decode cX12_teach 76 = .ok (.iaload, 1) := by decide +kernel
theorem dX12_teach_77 : decode cX12_teach 77 = .ok (.iadd, 1) := by decide +kernel
theorem dX12_teach_78 : decode cX12_teach 78 = .ok (.iastore, 1) := by decide +kernel
theorem dX12_teach_79 : decode cX12_teach 79 = .ok (.iinc 4 1, 3) := by decide +kernel
theorem dX12_teach_82 : decode cX12_teach 82 = .ok (.goto (-29), 3) := by decide +kernel
theorem dX12_teach_85 : decode cX12_teach 85 = .ok (.aload_n 0, 1) := by decide +kernel
theorem dX12_teach_86 : decode cX12_teach 86 = .ok (.invokevirtual 403, 3) := by decide +kernel
theorem dX12_teach_89 : decode cX12_teach 89 = .ok (.aload_n 0, 1) := by decide +kernel
theorem dX12_teach_90 : decode cX12_teach 90 = .ok (.iload_n 2, 1) := by decide +kernel
theorem dX12_teach_91 : decode cX12_teach 91 = .ok (.invokevirtual 452, 3) := by decide +kernel
theorem dX12_teach_94 : decode cX12_teach 94 = .ok (.istore_n 2, 1) := by decide +kernel
theorem dX12_teach_95 : decode cX12_teach 95 = .ok (.iinc 3 1, 3) := by decide +kernel
theorem dX12_teach_98 : decode cX12_teach 98 = .ok (.goto (-78), 3) := by decide +kernel
theorem dX12_teach_101 : decode cX12_teach 101 = .ok (.iload_n 2, 1) := by decide +kernel
theorem dX12_teach_102 : decode cX12_teach 102 = .ok (.ifCond .lt 11, 3) := by decide +kernel
theorem dX12_teach_105 : decode cX12_teach 105 = .ok (.aload_n 0, 1) := by decide +kernel
theorem dX12_teach_106 : decode cX12_teach 106 = .ok (.aload_n 0, 1) := by decide +kernel
theorem dX12_teach_107 : decode cX12_teach 107 = .ok (.invokevirtual 363, 3) := by decide +kernel
theorem dX12_teach_110 : decode cX12_teach 110 = .ok (.putfield 295, 3) := by decide +kernel
theorem dX12_teach_113 : decode cX12_teach 113 = .ok (.iload_n 2, 1) := by decide +kernel
theorem dX12_teach_114 : decode cX12_teach 114 = .ok (.ireturn, 1) := by decide +kernel
set_option maxRecDepth 20000 in
theorem ggX12_seats_X12_postMany : GoodIn wsX12_seats wsX12_postMany := goodIn_r _ [9, 10, 11, 94, 95, 96, 97, 98, 99, 100, 101, 102, 103, 104, 105, 106, 107, 108, 109, 110, 111, 112, 113, 114, 115, 116, 117, 118, 119, 120, 121, 122, 123, 124, 125, 126, 127, 128, 129, 130, 131, 132, 133, 134, 135, 136, 137, 138, 139, 140, 141, 142, 143, 144, 145, 146, 147, 148, 149, 150, 151, 152, 153, 154, 155, 156, 157, 158, 159, 160, 161, 162, 163, 164, 165, 166, 167] (by decide +kernel) (by decide +kernel)
set_option maxRecDepth 20000 in
theorem gX12_seats_X12_postMany : GoodIn wsX12_seats (wsV RX12 370 RX12 yX12_postMany wsX12_postMany) := goodIn_app (goodIn_of _ (by decide +kernel)) ggX12_seats_X12_postMany
set_option maxRecDepth 20000 in
theorem ggX12_seats_X12_rows : GoodIn wsX12_seats wsX12_rows := goodIn_r _ [15, 16, 17, 18, 8, 19, 20, 11, 94, 95, 96, 97, 98, 99, 100, 101, 102, 103, 104, 105, 106, 107, 108, 109, 110, 111, 112, 113, 114, 115, 116, 117, 118, 119, 120, 121, 122, 123, 124, 125, 126, 127, 128, 129, 130, 131, 132, 133, 134, 135, 136, 137, 138, 139, 140, 141, 142, 143, 144, 145, 146, 147, 148, 149, 150, 151, 152, 153, 154, 155, 156, 157, 158, 159, 160, 161, 162, 163, 164, 165, 166, 167] (by decide +kernel) (by decide +kernel)
set_option maxRecDepth 20000 in
theorem gX12_seats_X12_rows : GoodIn wsX12_seats (wsV RX12 443 RX12 yX12_rows wsX12_rows) := goodIn_app (goodIn_of _ (by decide +kernel)) ggX12_seats_X12_rows
set_option maxRecDepth 20000 in
theorem ggX12_seats_X12_layRow : GoodIn wsX12_seats wsX12_layRow := goodIn_r _ [24, 4, 16, 17, 18, 8, 19, 20, 11, 94, 95, 96, 97, 98, 99, 100, 101, 102, 103, 104, 105, 106, 107, 108, 109, 110, 111, 112, 113, 114, 115, 116, 117, 118, 119, 120, 121, 122, 123, 124, 125, 126, 127, 128, 129, 130, 131, 132, 133, 134, 135, 136, 137, 138, 139, 140, 141, 142, 143, 144, 145, 146, 147, 148, 149, 150, 151, 152, 153, 154, 155, 156, 157, 158, 159, 160, 161, 162, 163, 164, 165, 166, 167] (by decide +kernel) (by decide +kernel)
set_option maxRecDepth 20000 in
theorem gX12_seats_X12_layRow : GoodIn wsX12_seats (wsV RX12 446 RX12 yX12_layRow wsX12_layRow) := goodIn_app (goodIn_of _ (by decide +kernel)) ggX12_seats_X12_layRow
set_option maxRecDepth 20000 in
theorem ggX12_seats_X12_layDay : GoodIn wsX12_seats wsX12_layDay := goodIn_r _ [28, 29, 30, 31, 32, 33, 34, 35, 36, 37, 38, 8, 39, 2, 40, 11, 3, 41, 5, 6, 7, 9, 10, 94, 95, 96, 97, 98, 99, 100, 101, 102, 103, 104, 105, 106, 107, 108, 109, 110, 111, 112, 113, 114, 115, 116, 117, 118, 119, 120, 121, 122, 123, 124, 125, 126, 127, 128, 129, 130, 131, 132, 133, 134, 135, 136, 137, 138, 139, 140, 141, 142, 143, 144, 145, 146, 147, 148, 149, 150, 151, 152, 153, 154, 155, 156, 157, 158, 159, 160, 161, 162, 163, 164, 165, 166, 167] (by decide +kernel) (by decide +kernel)
set_option maxRecDepth 20000 in
theorem gX12_seats_X12_layDay : GoodIn wsX12_seats (wsV RX12 400 RX12 yX12_layDay wsX12_layDay) := goodIn_app (goodIn_of _ (by decide +kernel)) ggX12_seats_X12_layDay
set_option maxRecDepth 20000 in
theorem ggX12_seats_X12_birdMany : GoodIn wsX12_seats wsX12_birdMany := goodIn_r _ [19, 20, 11, 94, 95, 96, 97, 98, 99, 100, 101, 102, 103, 104, 105, 106, 107, 108, 109, 110, 111, 112, 113, 114, 115, 116, 117, 118, 119, 120, 121, 122, 123, 124, 125, 126, 127, 128, 129, 130, 131, 132, 133, 134, 135, 136, 137, 138, 139, 140, 141, 142, 143, 144, 145, 146, 147, 148, 149, 150, 151, 152, 153, 154, 155, 156, 157, 158, 159, 160, 161, 162, 163, 164, 165, 166, 167] (by decide +kernel) (by decide +kernel)
set_option maxRecDepth 20000 in
theorem gX12_seats_X12_birdMany : GoodIn wsX12_seats (wsV RX12 363 RX12 yX12_birdMany wsX12_birdMany) := goodIn_app (goodIn_of _ (by decide +kernel)) ggX12_seats_X12_birdMany
set_option maxRecDepth 20000 in
theorem ggX12_seats_X12_goesBy : GoodIn wsX12_seats wsX12_goesBy := goodIn_r _ [45, 46, 47, 48, 49, 50, 32, 51, 52, 11, 31, 53, 54, 55, 8, 56, 30, 34, 5, 6, 7, 9, 10, 57, 58, 59, 60, 2, 3, 61, 62, 63, 64, 35, 33, 65, 66, 67, 68, 69, 70, 71, 72, 73, 74, 75, 76, 77, 78, 79, 80, 94, 95, 96, 97, 98, 99, 100, 101, 102, 103, 104, 105, 106, 107, 108, 109, 110, 111, 112, 113, 114, 115, 116, 117, 118, 119, 120, 121, 122, 123, 124, 125, 126, 127, 128, 129, 130, 131, 132, 133, 134, 135, 136, 137, 138, 139, 140, 141, 142, 143, 144, 145, 146, 147, 148, 149, 150, 151, 152, 153, 154, 155, 156, 157, 158, 159, 160, 161, 162, 163, 164, 165, 166, 167] (by decide +kernel) (by decide +kernel)
set_option maxRecDepth 20000 in
theorem gX12_seats_X12_goesBy : GoodIn wsX12_seats (wsV RX12 403 RX12 yX12_goesBy wsX12_goesBy) := goodIn_app (goodIn_of _ (by decide +kernel)) ggX12_seats_X12_goesBy
set_option maxRecDepth 20000 in
theorem ggX12_seats_X12_takeRow : GoodIn wsX12_seats wsX12_takeRow := goodIn_r _ [84, 85, 4, 86, 87, 88, 8, 89, 30, 90, 91, 92, 93, 49, 5, 6, 7, 9, 10, 11, 16, 17, 18, 19, 20, 94, 95, 96, 97, 98, 99, 100, 101, 102, 103, 104, 105, 106, 107, 108, 109, 110, 111, 112, 113, 114, 115, 116, 117, 118, 119, 120, 121, 122, 123, 124, 125, 126, 127, 128, 129, 130, 131, 132, 133, 134, 135, 136, 137, 138, 139, 140, 141, 142, 143, 144, 145, 146, 147, 148, 149, 150, 151, 152, 153, 154, 155, 156, 157, 158, 159, 160, 161, 162, 163, 164, 165, 166, 167] (by decide +kernel) (by decide +kernel)
set_option maxRecDepth 20000 in
theorem gX12_seats_X12_takeRow : GoodIn wsX12_seats (wsV RX12 452 RX12 yX12_takeRow wsX12_takeRow) := goodIn_app (goodIn_of _ (by decide +kernel)) ggX12_seats_X12_takeRow
theorem dX12_seats_0 : decode cX12_seats 0 = .ok (.aload_n 0, 1) := by decide +kernel
theorem dX12_seats_1 : decode cX12_seats 1 = .ok (.iconst 0, 1) := by decide +kernel
theorem dX12_seats_2 : decode cX12_seats 2 = .ok (.putfield 295, 3) := by decide +kernel
theorem dX12_seats_5 : decode cX12_seats 5 = .ok (.aload_n 0, 1) := by decide +kernel
theorem dX12_seats_6 : decode cX12_seats 6 = .ok (.invokevirtual 370, 3) := by decide +kernel
theorem dX12_seats_9 : decode cX12_seats 9 = .ok (.ifCond .ne 5, 3) := by decide +kernel
theorem dX12_seats_12 : decode cX12_seats 12 = .ok (.iconst (-1), 1) := by decide +kernel
theorem dX12_seats_13 : decode cX12_seats 13 = .ok (.ireturn, 1) := by decide +kernel
theorem dX12_seats_14 : decode cX12_seats 14 = .ok (.iconst (-1), 1) := by decide +kernel
theorem dX12_seats_15 : decode cX12_seats 15 = .ok (.istore_n 1, 1) := by decide +kernel
theorem dX12_seats_16 : decode cX12_seats 16 = .ok (.iconst 0, 1) := by decide +kernel
theorem dX12_seats_17 : decode cX12_seats 17 = .ok (.istore_n 2, 1) := by decide +kernel
theorem dX12_seats_18 : decode cX12_seats 18 = .ok (.iload_n 2, 1) := by decide +kernel
theorem dX12_seats_19 : decode cX12_seats 19 = .ok (.aload_n 0, 1) := by decide +kernel
theorem dX12_seats_20 : decode cX12_seats 20 = .ok (.aload_n 0, 1) := by decide +kernel
theorem dX12_seats_21 : decode cX12_seats 21 = .ok (.invokevirtual 370, 3) := by decide +kernel
theorem dX12_seats_24 : decode cX12_seats 24 = .ok (.invokevirtual 443, 3) := by decide +kernel
theorem dX12_seats_27 : decode cX12_seats 27 = .ok (.if_icmp .ge 112, 3) := by decide +kernel
theorem dX12_seats_30 : decode cX12_seats 30 = .ok (.aload_n 0, 1) := by decide +kernel
theorem dX12_seats_31 : decode cX12_seats 31 = .ok (.iload_n 2, 1) := by decide +kernel
theorem dX12_seats_32 : decode cX12_seats 32 = .ok (.aload_n 0, 1) := by decide +kernel
theorem dX12_seats_33 : decode cX12_seats 33 = .ok (.invokevirtual 370, 3) := by decide +kernel
theorem dX12_seats_36 : decode cX12_seats 36 = .ok (.invokevirtual 446, 3) := by decide +kernel
theorem dX12_seats_39 : decode cX12_seats 39 = .ok (.aload_n 0, 1) := by decide +kernel
theorem dX12_seats_40 : decode cX12_seats 40 = .ok (.invokevirtual 400, 3) := by decide +kernel
theorem dX12_seats_43 : decode cX12_seats 43 = .ok (.iconst 0, 1) := by decide +kernel
theorem dX12_seats_44 : decode cX12_seats 44 = .ok (.istore_n 3, 1) := by decide +kernel
theorem dX12_seats_45 : decode cX12_seats 45 = .ok (.iload_n 3, 1) := by decide +kernel
theorem dX12_seats_46 : decode cX12_seats 46 = .ok (.aload_n 0, 1) := by decide +kernel
theorem dX12_seats_47 : decode cX12_seats 47 = .ok (.invokevirtual 370, 3) := by decide +kernel
theorem dX12_seats_50 : decode cX12_seats 50 = .ok (.if_icmp .ge 16, 3) := by decide +kernel
theorem dX12_seats_53 : decode cX12_seats 53 = .ok (.aload_n 0, 1) := by decide +kernel
theorem dX12_seats_54 : decode cX12_seats 54 = .ok (.getfield 110, 3) := by decide +kernel
theorem dX12_seats_57 : decode cX12_seats 57 = .ok (.iload_n 3, 1) := by decide +kernel
theorem dX12_seats_58 : decode cX12_seats 58 = .ok (.iconst 0, 1) := by decide +kernel
theorem dX12_seats_59 : decode cX12_seats 59 = .ok (.iastore, 1) := by decide +kernel
theorem dX12_seats_60 : decode cX12_seats 60 = .ok (.iinc 3 1, 3) := by decide +kernel
theorem dX12_seats_63 : decode cX12_seats 63 = .ok (.goto (-18), 3) := by decide +kernel
theorem dX12_seats_66 : decode cX12_seats 66 = .ok (.iconst 0, 1) := by decide +kernel
theorem dX12_seats_67 : decode cX12_seats 67 = .ok (.istore_n 3, 1) := by decide +kernel
theorem dX12_seats_68 : decode cX12_seats 68 = .ok (.iload_n 3, 1) := by decide +kernel
theorem dX12_seats_69 : decode cX12_seats 69 = .ok (.aload_n 0, 1) := by decide +kernel
theorem dX12_seats_70 : decode cX12_seats 70 = .ok (.invokevirtual 363, 3) := by decide +kernel
theorem dX12_seats_73 : decode cX12_seats 73 = .ok (.if_icmp .ge 50, 3) := by decide +kernel
theorem dX12_seats_76 : decode cX12_seats 76 = .ok (.aload_n 0, 1) := by decide +kernel
theorem dX12_seats_77 : decode cX12_seats 77 = .ok (.getfield 113, 3) := by decide +kernel
theorem dX12_seats_80 : decode cX12_seats 80 = .ok (.iconst 5, 1) := by decide +kernel
theorem dX12_seats_81 : decode cX12_seats 81 = .ok (.aload_n 0, 1) := by decide +kernel
theorem dX12_seats_82 : decode cX12_seats 82 = .ok (.getfield 152, 3) := by decide +kernel
theorem dX12_seats_85 : decode cX12_seats 85 = .ok (.iload_n 3, 1) := by decide +kernel
theorem dX12_seats_86 : decode cX12_seats 86 = .ok (.iaload, 1) := by decide +kernel
theorem dX12_seats_87 : decode cX12_seats 87 = .ok (.imul, 1) := by decide +kernel
theorem dX12_seats_88 : decode cX12_seats 88 = .ok (.aload_n 0, 1) := by decide +kernel
theorem dX12_seats_89 : decode cX12_seats 89 = .ok (.getfield 110, 3) := by decide +kernel
theorem dX12_seats_92 : decode cX12_seats 92 = .ok (.aload_n 0, 1) := by decide +kernel
theorem dX12_seats_93 : decode cX12_seats 93 = .ok (.getfield 152, 3) := by decide +kernel
theorem dX12_seats_96 : decode cX12_seats 96 = .ok (.iload_n 3, 1) := by decide +kernel
theorem dX12_seats_97 : decode cX12_seats 97 = .ok (.iaload, 1) := by decide +kernel
theorem dX12_seats_98 : decode cX12_seats 98 = .ok (.iaload, 1) := by decide +kernel
theorem dX12_seats_99 : decode cX12_seats 99 = .ok (.iadd, 1) := by decide +kernel
theorem dX12_seats_100 : decode cX12_seats 100 = .ok (.iload_n 3, 1) := by decide +kernel
theorem dX12_seats_101 : decode cX12_seats 101 = .ok (.iastore, 1) := by decide +kernel
theorem dX12_seats_102 : decode cX12_seats 102 = .ok (.aload_n 0, 1) := by decide +kernel
theorem dX12_seats_103 : decode cX12_seats 103 = .ok (.getfield 110, 3) := by decide +kernel
theorem dX12_seats_106 : decode cX12_seats 106 = .ok (.aload_n 0, 1) := by decide +kernel
theorem dX12_seats_107 : decode cX12_seats 107 = .ok (.getfield 152, 3) := by decide +kernel
theorem dX12_seats_110 : decode cX12_seats 110 = .ok (.iload_n 3, 1) := by decide +kernel
theorem dX12_seats_111 : decode cX12_seats 111 = .ok (.iaload, 1) := by decide +kernel
theorem dX12_seats_112 : decode cX12_seats 112 = .ok (.dup2, 1) := by decide +kernel
theorem dX12_seats_113 : decode cX12_seats 113 = .ok (.iaload, 1) := by decide +kernel
theorem dX12_seats_114 : decode cX12_seats 114 = .ok (.iconst 1, 1) := by decide +kernel
theorem dX12_seats_115 : decode cX12_seats 115 = .ok (.iadd, 1) := by decide +kernel
theorem dX12_seats_116 : decode cX12_seats 116 = .ok (.iastore, 1) := by decide +kernel
theorem dX12_seats_117 : decode cX12_seats 117 = .ok (.iinc 3 1, 3) := by decide +kernel
theorem dX12_seats_120 : decode cX12_seats 120 = .ok (.goto (-52), 3) := by decide +kernel
theorem dX12_seats_123 : decode cX12_seats 123 = .ok (.aload_n 0, 1) := by decide +kernel
theorem dX12_seats_124 : decode cX12_seats 124 = .ok (.invokevirtual 403, 3) := by decide +kernel
theorem dX12_seats_127 : decode cX12_seats 127 = .ok (.aload_n 0, 1) := by decide +kernel
theorem dX12_seats_128 : decode cX12_seats 128 = .ok (.iload_n 1, 1) := by decide +kernel
theorem dX12_seats_129 : decode cX12_seats 129 = .ok (.invokevirtual 452, 3) := by decide +kernel
theorem dX12_seats_132 : decode cX12_seats 132 = .ok (.istore_n 1, 1) := by decide +kernel
theorem dX12_seats_133 : decode cX12_seats 133 = .ok (.iinc 2 1, 3) := by decide +kernel
theorem dX12_seats_136 : decode cX12_seats 136 = .ok (.goto (-118), 3) := by decide +kernel
theorem dX12_seats_139 : decode cX12_seats 139 = .ok (.aload_n 0, 1) := by decide +kernel
theorem dX12_seats_140 : decode cX12_seats 140 = .ok (.aload_n 0, 1) := by decide +kernel
theorem dX12_seats_141 : decode cX12_seats 141 = .ok (.invokevirtual 363, 3) := by decide +kernel
theorem dX12_seats_144 : decode cX12_seats 144 = .ok (.putfield 295, 3) := by decide +kernel
theorem dX12_seats_147 : decode cX12_seats 147 = .ok (.iload_n 1, 1) := by decide +kernel
theorem dX12_seats_148 : decode cX12_seats 148 = .ok (.ireturn, 1) := by decide +kernel
set_option maxRecDepth 20000 in
theorem ggX12_sight_X12_isIn : GoodIn wsX12_sight wsX12_isIn := goodIn_r _ [11] (by decide +kernel) (by decide +kernel)
set_option maxRecDepth 20000 in
theorem gX12_sight_X12_isIn : GoodIn wsX12_sight (va_wsS RX12 366 yX12_isIn wsX12_isIn) := goodIn_app (goodIn_of _ (by decide +kernel)) ggX12_sight_X12_isIn
set_option maxRecDepth 20000 in
theorem ggX12_sight_X12_isBird : GoodIn wsX12_sight wsX12_isBird := goodIn_r _ [15, 16, 17, 18, 10, 19, 20, 21, 8, 9, 11, 22, 23, 24, 25, 26, 27, 28, 29, 30, 31, 32, 33, 34, 35, 36, 37, 38, 39, 40, 41, 42, 43, 44, 45, 46, 47, 48, 49, 50, 51, 52, 53, 54, 55, 56, 57, 58, 59, 60, 61, 62, 63, 64, 65, 66, 67, 68, 69, 70, 71, 72, 73, 74, 75, 76, 77, 78, 79, 80, 81, 82, 83, 84, 85, 86, 87, 88, 89, 90, 91, 92, 93, 94, 95] (by decide +kernel) (by decide +kernel)
set_option maxRecDepth 20000 in
theorem gX12_sight_X12_isBird : GoodIn wsX12_sight (wsV RX12 418 RX12 yX12_isBird wsX12_isBird) := goodIn_app (goodIn_of _ (by decide +kernel)) ggX12_sight_X12_isBird
theorem dX12_sight_0 : decode cX12_sight 0 = .ok (.iload_n 1, 1) := by decide +kernel
theorem dX12_sight_1 : decode cX12_sight 1 = .ok (.iconst 0, 1) := by decide +kernel
theorem dX12_sight_2 : decode cX12_sight 2 = .ok (.sipush 720, 3) := by decide +kernel
theorem dX12_sight_5 : decode cX12_sight 5 = .ok (.invokestatic 366, 3) := by decide +kernel
theorem dX12_sight_8 : decode cX12_sight 8 = .ok (.ifCond .eq 30, 3) := by decide +kernel
theorem dX12_sight_11 : decode cX12_sight 11 = .ok (.aload_n 0, 1) := by decide +kernel
theorem dX12_sight_12 : decode cX12_sight 12 = .ok (.iload_n 2, 1) := by decide +kernel
theorem dX12_sight_13 : decode cX12_sight 13 = .ok (.invokevirtual 418, 3) := by decide +kernel
theorem dX12_sight_16 : decode cX12_sight 16 = .ok (.ifCond .eq 22, 3) := by decide +kernel
theorem dX12_sight_19 : decode cX12_sight 19 = .ok (.iload_n 3, 1) := by decide +kernel
theorem dX12_sight_20 : decode cX12_sight 20 = .ok (.iconst 0, 1) := by decide +kernel
theorem dX12_sight_21 : decode cX12_sight 21 = .ok (.bipush 20, 2) := by decide +kernel
theorem dX12_sight_23 : decode cX12_sight 23 = .ok (.invokestatic 366, 3) := by decide +kernel
theorem dX12_sight_26 : decode cX12_sight 26 = .ok (.ifCond .eq 12, 3) := by decide +kernel
theorem dX12_sight_29 : decode cX12_sight 29 = .ok (.aload_n 0, 1) := by decide +kernel
theorem dX12_sight_30 : decode cX12_sight 30 = .ok (.getfield 292, 3) := by decide +kernel
theorem dX12_sight_33 : decode cX12_sight 33 = .ok (.bipush 30, 2) := by decide +kernel
theorem dX12_sight_35 : decode cX12_sight 35 = .ok (.if_icmp .ne 5, 3) := by decide +kernel
theorem dX12_sight_38 : decode cX12_sight 38 = .ok (.iconst (-1), 1) := by decide +kernel
theorem dX12_sight_39 : decode cX12_sight 39 = .ok (.ireturn, 1) := by decide +kernel
theorem dX12_sight_40 : decode cX12_sight 40 = .ok (.aload_n 0, 1) := by decide +kernel
theorem dX12_sight_41 : decode cX12_sight 41 = .ok (.getfield 155, 3) := by decide +kernel
theorem dX12_sight_44 : decode cX12_sight 44 = .ok (.aload_n 0, 1) := by decide +kernel
theorem dX12_sight_45 : decode cX12_sight 45 = .ok (.getfield 292, 3) := by decide +kernel
theorem dX12_sight_48 : decode cX12_sight 48 = .ok (.iload_n 1, 1) := by decide +kernel
theorem dX12_sight_49 : decode cX12_sight 49 = .ok (.iastore, 1) := by decide +kernel
theorem dX12_sight_50 : decode cX12_sight 50 = .ok (.aload_n 0, 1) := by decide +kernel
theorem dX12_sight_51 : decode cX12_sight 51 = .ok (.getfield 158, 3) := by decide +kernel
theorem dX12_sight_54 : decode cX12_sight 54 = .ok (.aload_n 0, 1) := by decide +kernel
theorem dX12_sight_55 : decode cX12_sight 55 = .ok (.getfield 292, 3) := by decide +kernel
theorem dX12_sight_58 : decode cX12_sight 58 = .ok (.iload_n 2, 1) := by decide +kernel
theorem dX12_sight_59 : decode cX12_sight 59 = .ok (.iastore, 1) := by decide +kernel
theorem dX12_sight_60 : decode cX12_sight 60 = .ok (.aload_n 0, 1) := by decide +kernel
theorem dX12_sight_61 : decode cX12_sight 61 = .ok (.getfield 161, 3) := by decide +kernel
theorem dX12_sight_64 : decode cX12_sight 64 = .ok (.aload_n 0, 1) := by decide +kernel
theorem dX12_sight_65 : decode cX12_sight 65 = .ok (.getfield 292, 3) := by decide +kernel
theorem dX12_sight_68 : decode cX12_sight 68 = .ok (.iload_n 3, 1) := by decide +kernel
theorem dX12_sight_69 : decode cX12_sight 69 = .ok (.iastore, 1) := by decide +kernel
theorem dX12_sight_70 : decode cX12_sight 70 = .ok (.aload_n 0, 1) := by decide +kernel
theorem dX12_sight_71 : decode cX12_sight 71 = .ok (.getfield 164, 3) := by decide +kernel
theorem dX12_sight_74 : decode cX12_sight 74 = .ok (.aload_n 0, 1) := by decide +kernel
theorem dX12_sight_75 : decode cX12_sight 75 = .ok (.getfield 292, 3) := by decide +kernel
theorem dX12_sight_78 : decode cX12_sight 78 = .ok (.aload_n 0, 1) := by decide +kernel
theorem dX12_sight_79 : decode cX12_sight 79 = .ok (.getfield 455, 3) := by decide +kernel
theorem dX12_sight_82 : decode cX12_sight 82 = .ok (.iastore, 1) := by decide +kernel
theorem dX12_sight_83 : decode cX12_sight 83 = .ok (.aload_n 0, 1) := by decide +kernel
theorem dX12_sight_84 : decode cX12_sight 84 = .ok (.getfield 167, 3) := by decide +kernel
theorem dX12_sight_87 : decode cX12_sight 87 = .ok (.aload_n 0, 1) := by decide +kernel
theorem dX12_sight_88 : decode cX12_sight 88 = .ok (.getfield 292, 3) := by decide +kernel
theorem dX12_sight_91 : decode cX12_sight 91 = .ok (.iconst (-1), 1) := by decide +kernel
theorem dX12_sight_92 : decode cX12_sight 92 = .ok (.iastore, 1) := by decide +kernel
theorem dX12_sight_93 : decode cX12_sight 93 = .ok (.aload_n 0, 1) := by decide +kernel
theorem dX12_sight_94 : decode cX12_sight 94 = .ok (.dup, 1) := by decide +kernel
theorem dX12_sight_95 : decode cX12_sight 95 = .ok (.getfield 292, 3) := by decide +kernel
theorem dX12_sight_98 : decode cX12_sight 98 = .ok (.iconst 1, 1) := by decide +kernel
theorem dX12_sight_99 : decode cX12_sight 99 = .ok (.iadd, 1) := by decide +kernel
theorem dX12_sight_100 : decode cX12_sight 100 = .ok (.putfield 292, 3) := by decide +kernel
theorem dX12_sight_103 : decode cX12_sight 103 = .ok (.aload_n 0, 1) := by decide +kernel
theorem dX12_sight_104 : decode cX12_sight 104 = .ok (.getfield 292, 3) := by decide +kernel
theorem dX12_sight_107 : decode cX12_sight 107 = .ok (.iconst 1, 1) := by decide +kernel
theorem dX12_sight_108 : decode cX12_sight 108 = .ok (.isub, 1) := by decide +kernel
theorem dX12_sight_109 : decode cX12_sight 109 = .ok (.ireturn, 1) := by decide +kernel
set_option maxRecDepth 20000 in
theorem ggX12_untell_X12_isIn : GoodIn wsX12_untell wsX12_isIn := goodIn_r _ [7] (by decide +kernel) (by decide +kernel)
set_option maxRecDepth 20000 in
theorem gX12_untell_X12_isIn : GoodIn wsX12_untell (va_wsS RX12 366 yX12_isIn wsX12_isIn) := goodIn_app (goodIn_of _ (by decide +kernel)) ggX12_untell_X12_isIn
theorem dX12_untell_0 : decode cX12_untell 0 = .ok (.iload_n 1, 1) := by decide +kernel
theorem dX12_untell_1 : decode cX12_untell 1 = .ok (.iconst 0, 1) := by decide +kernel
theorem dX12_untell_2 : decode cX12_untell 2 = .ok (.aload_n 0, 1) := by decide +kernel
theorem dX12_untell_3 : decode cX12_untell 3 = .ok (.getfield 292, 3) := by decide +kernel
theorem dX12_untell_6 : decode cX12_untell 6 = .ok (.iconst 1, 1) := by decide +kernel
theorem dX12_untell_7 : decode cX12_untell 7 = .ok (.isub, 1) := by decide +kernel
theorem dX12_untell_8 : decode cX12_untell 8 = .ok (.invokestatic 366, 3) := by decide +kernel
theorem dX12_untell_11 : decode cX12_untell 11 = .ok (.ifCond .eq 12, 3) := by decide +kernel
theorem dX12_untell_14 : decode cX12_untell 14 = .ok (.aload_n 0, 1) := by decide +kernel
theorem dX12_untell_15 : decode cX12_untell 15 = .ok (.getfield 167, 3) := by decide +kernel
theorem dX12_untell_18 : decode cX12_untell 18 = .ok (.iload_n 1, 1) := by decide +kernel
theorem dX12_untell_19 : decode cX12_untell 19 = .ok (.iaload, 1) := by decide +kernel
theorem dX12_untell_20 : decode cX12_untell 20 = .ok (.ifCond .lt 5, 3) := by decide +kernel
theorem dX12_untell_23 : decode cX12_untell 23 = .ok (.iconst 0, 1) := by decide +kernel
theorem dX12_untell_24 : decode cX12_untell 24 = .ok (.ireturn, 1) := by decide +kernel
theorem dX12_untell_25 : decode cX12_untell 25 = .ok (.aload_n 0, 1) := by decide +kernel
theorem dX12_untell_26 : decode cX12_untell 26 = .ok (.getfield 167, 3) := by decide +kernel
theorem dX12_untell_29 : decode cX12_untell 29 = .ok (.iload_n 1, 1) := by decide +kernel
theorem dX12_untell_30 : decode cX12_untell 30 = .ok (.aload_n 0, 1) := by decide +kernel
theorem dX12_untell_31 : decode cX12_untell 31 = .ok (.getfield 455, 3) := by decide +kernel
theorem dX12_untell_34 : decode cX12_untell 34 = .ok (.iastore, 1) := by decide +kernel
theorem dX12_untell_35 : decode cX12_untell 35 = .ok (.iconst 1, 1) := by decide +kernel
theorem dX12_untell_36 : decode cX12_untell 36 = .ok (.ireturn, 1) := by decide +kernel
