set_option maxRecDepth 20000 in
theorem ggX6_next_X6_readWord : GoodIn wsX6_next wsX6_readWord := goodIn_r _ [11, 12, 1, 2, 3, 13, 4, 14, 5, 109, 110, 111, 112, 113, 114, 115, 116, 117, 118, 119, 120] (by decide +kernel) (by decide +kernel)
set_option maxRecDepth 20000 in
theorem gX6_next_X6_readWord : GoodIn wsX6_next (wsV RX6 230 RX6 yX6_readWord wsX6_readWord) := goodIn_app (goodIn_of _ (by decide +kernel)) ggX6_next_X6_readWord
set_option maxRecDepth 20000 in
theorem ggX6_next_X6_readNumber : GoodIn wsX6_next wsX6_readNumber := goodIn_r _ [18, 19, 1, 2, 3, 4, 5, 109, 110, 111, 112, 113, 114, 115, 116, 117, 118, 119, 120] (by decide +kernel) (by decide +kernel)
set_option maxRecDepth 20000 in
theorem gX6_next_X6_readNumber : GoodIn wsX6_next (wsV RX6 233 RX6 yX6_readNumber wsX6_readNumber) := goodIn_app (goodIn_of _ (by decide +kernel)) ggX6_next_X6_readNumber
set_option maxRecDepth 20000 in
theorem ggX6_next_J0_indexOf_0f7a4 : GoodIn wsX6_next wsJ0_indexOf_0f7a4 := goodIn_r _ [24, 25, 26, 27, 23, 28, 29, 30, 31, 32, 33, 34, 35, 36, 37, 38, 39, 40, 41, 42, 43, 44, 45, 46, 47, 48, 49, 50, 51, 52, 53, 54, 55, 56, 57, 58, 59, 60, 61, 62, 63, 64, 65, 66, 67, 68, 69, 70, 71, 72, 73, 74, 75, 76, 77, 78, 79, 80, 81, 82, 83, 84, 85, 86, 87, 88, 89, 90, 91, 92, 93, 94, 95, 96, 97, 98, 99, 100, 101, 102, 103, 104, 105, 106, 107, 108] (by decide +kernel) (by decide +kernel)
set_option maxRecDepth 20000 in
theorem gX6_next_J0_indexOf_0f7a4 : GoodIn wsX6_next (wsV RX6 238 RJ0 yJ0_indexOf_0f7a4 wsJ0_indexOf_0f7a4) := goodIn_app (goodIn_of _ (by decide +kernel)) ggX6_next_J0_indexOf_0f7a4
theorem dX6_next_0 : decode cX6_next 0 = .ok (.aload_n 0, 1) := by decide +kernel
theorem dX6_next_1 : decode cX6_next 1 = .ok (.getfield 35, 3) := by decide +kernel
theorem dX6_next_4 : decode cX6_next 4 = .ok (.aload_n 0, 1) := by decide +kernel
theorem dX6_next_5 : decode cX6_next 5 = .ok (.getfield 32, 3) := by decide +kernel
theorem dX6_next_8 : decode cX6_next 8 = .ok (.if_icmp .ge 44, 3) := by decide +kernel
theorem dX6_next_11 : decode cX6_next 11 = .ok (.aload_n 0, 1) := by decide +kernel
theorem dX6_next_12 : decode cX6_next 12 = .ok (.getfield 22, 3) := by decide +kernel
theorem dX6_next_15 : decode cX6_next 15 = .ok (.aload_n 0, 1) := by decide +kernel
theorem dX6_next_16 : decode cX6_next 16 = .ok (.getfield 35, 3) := by decide +kernel
theorem dX6_next_19 : decode cX6_next 19 = .ok (.iaload, 1) := by decide +kernel
theorem dX6_next_20 : decode cX6_next 20 = .ok (.bipush 32, 2) := by decide +kernel
theorem dX6_next_22 : decode cX6_next 22 = .ok (.if_icmp .eq 17, 3) := by decide +kernel
theorem dX6_next_25 : decode cX6_next 25 = .ok (.aload_n 0, 1) := by decide +kernel
theorem dX6_next_26 : decode cX6_next 26 = .ok (.getfield 22, 3) := by decide +kernel
theorem dX6_next_29 : decode cX6_next 29 = .ok (.aload_n 0, 1) := by decide +kernel
theorem dX6_next_30 : decode cX6_next 30 = .ok (.getfield 35, 3) := by decide +kernel
theorem dX6_next_33 : decode cX6_next 33 = .ok (.iaload, 1) := by decide +kernel
theorem dX6_next_34 : decode cX6_next 34 = .ok (.bipush 10, 2) := by decide +kernel
theorem dX6_next_36 : decode cX6_next 36 = .ok (.if_icmp .ne 16, 3) := by decide +kernel
theorem dX6_next_39 : decode cX6_next 39 = .ok (.aload_n 0, 1) := by decide +kernel
theorem dX6_next_40 : decode cX6_next 40 = .ok (.dup, 1) := by decide +kernel
theorem dX6_next_41 : decode cX6_next 41 = .ok (.getfield 35, 3) := by decide +kernel
theorem dX6_next_44 : decode cX6_next 44 = .ok (.iconst 1, 1) := by decide +kernel
theorem dX6_next_45 : decode cX6_next 45 = .ok (.iadd, 1) := by decide +kernel
theorem dX6_next_46 : decode cX6_next 46 = .ok (.putfield 35, 3) := by decide +kernel
theorem dX6_next_49 : decode cX6_next 49 = .ok (.goto (-49), 3) := by decide +kernel
theorem dX6_next_52 : decode cX6_next 52 = .ok (.aload_n 0, 1) := by decide +kernel
theorem dX6_next_53 : decode cX6_next 53 = .ok (.aload_n 0, 1) := by decide +kernel
theorem dX6_next_54 : decode cX6_next 54 = .ok (.getfield 35, 3) := by decide +kernel
theorem dX6_next_57 : decode cX6_next 57 = .ok (.putfield 212, 3) := by decide +kernel
theorem dX6_next_60 : decode cX6_next 60 = .ok (.aload_n 0, 1) := by decide +kernel
theorem dX6_next_61 : decode cX6_next 61 = .ok (.getfield 35, 3) := by decide +kernel
theorem dX6_next_64 : decode cX6_next 64 = .ok (.aload_n 0, 1) := by decide +kernel
theorem dX6_next_65 : decode cX6_next 65 = .ok (.getfield 32, 3) := by decide +kernel
theorem dX6_next_68 : decode cX6_next 68 = .ok (.if_icmp .lt 11, 3) := by decide +kernel
theorem dX6_next_71 : decode cX6_next 71 = .ok (.aload_n 0, 1) := by decide +kernel
theorem dX6_next_72 : decode cX6_next 72 = .ok (.iconst 0, 1) := by decide +kernel
theorem dX6_next_73 : decode cX6_next 73 = .ok (.putfield 47, 3) := by decide +kernel
theorem dX6_next_76 : decode cX6_next 76 = .ok (.goto 118, 3) := by decide +kernel
theorem dX6_next_79 : decode cX6_next 79 = .ok (.aload_n 0, 1) := by decide +kernel
theorem dX6_next_80 : decode cX6_next 80 = .ok (.getfield 22, 3) := by decide +kernel
theorem dX6_next_83 : decode cX6_next 83 = .ok (.aload_n 0, 1) := by decide +kernel
theorem dX6_next_84 : decode cX6_next 84 = .ok (.getfield 35, 3) := by decide +kernel
theorem dX6_next_87 : decode cX6_next 87 = .ok (.iaload, 1) := by decide +kernel
theorem dX6_next_88 : decode cX6_next 88 = .ok (.bipush 97, 2) := by decide +kernel
theorem dX6_next_90 : decode cX6_next 90 = .ok (.if_icmp .lt 24, 3) := by decide +kernel
theorem dX6_next_93 : decode cX6_next 93 = .ok (.aload_n 0, 1) := by decide +kernel
theorem dX6_next_94 : decode cX6_next 94 = .ok (.getfield 22, 3) := by decide +kernel
theorem dX6_next_97 : decode cX6_next 97 = .ok (.aload_n 0, 1) := by decide +kernel
theorem dX6_next_98 : decode cX6_next 98 = .ok (.getfield 35, 3) := by decide +kernel
theorem dX6_next_101 : decode cX6_next 101 = .ok (.iaload, 1) := by decide +kernel
theorem dX6_next_102 : decode cX6_next 102 = .ok (.bipush 122, 2) := by decide +kernel
theorem dX6_next_104 : decode cX6_next 104 = .ok (.if_icmp .gt 10, 3) := by decide +kernel
theorem dX6_next_107 : decode cX6_next 107 = .ok (.aload_n 0, 1) := by decide +kernel
theorem dX6_next_108 : decode cX6_next 108 = .ok (.invokevirtual 230, 3) := by decide +kernel
theorem dX6_next_111 : decode cX6_next 111 = .ok (.goto 83, 3) := by decide +kernel
theorem dX6_next_114 : decode cX6_next 114 = .ok (.aload_n 0, 1) := by decide +kernel
theorem dX6_next_115 : decode cX6_next 115 = .ok (.getfield 22, 3) := by decide +kernel
theorem dX6_next_118 : decode cX6_next 118 = .ok (.aload_n 0, 1) := by decide +kernel
theorem dX6_next_119 : decode cX6_next 119 = .ok (.getfield 35, 3) := by decide +kernel
theorem dX6_next_122 : decode cX6_next 122 = .ok (.iaload, 1) := by decide +kernel
theorem dX6_next_123 : decode cX6_next 123 = .ok (.bipush 48, 2) := by decide +kernel
theorem dX6_next_125 : decode cX6_next 125 = .ok (.if_icmp .lt 24, 3) := by decide +kernel
theorem dX6_next_128 : decode cX6_next 128 = .ok (.aload_n 0, 1) := by decide +kernel
theorem dX6_next_129 : decode cX6_next 129 = .ok (.getfield 22, 3) := by decide +kernel
theorem dX6_next_132 : decode cX6_next 132 = .ok (.aload_n 0, 1) := by decide +kernel
theorem dX6_next_133 : decode cX6_next 133 = .ok (.getfield 35, 3) := by decide +kernel
theorem dX6_next_136 : decode cX6_next 136 = .ok (.iaload, 1) := by decide +kernel
theorem dX6_next_137 : decode cX6_next 137 = .ok (.bipush 57, 2) := by decide +kernel
theorem dX6_next_139 : decode cX6_next 139 = .ok (.if_icmp .gt 10, 3) := by decide +kernel
theorem dX6_next_142 : decode cX6_next 142 = .ok (.aload_n 0, 1) := by decide +kernel
theorem dX6_next_143 : decode cX6_next 143 = .ok (.invokevirtual 233, 3) := by decide +kernel
theorem dX6_next_146 : decode cX6_next 146 = .ok (.goto 48, 3) := by decide +kernel
theorem dX6_next_149 : decode cX6_next 149 = .ok (.aload_n 0, 1) := by decide +kernel
theorem dX6_next_150 : decode cX6_next 150 = .ok (.aload_n 0, 1) := by decide +kernel
theorem dX6_next_151 : decode cX6_next 151 = .ok (.getfield 22, 3) := by decide +kernel
theorem dX6_next_154 : decode cX6_next 154 = .ok (.aload_n 0, 1) := by decide +kernel
theorem dX6_next_155 : decode cX6_next 155 = .ok (.getfield 35, 3) := by decide +kernel
theorem dX6_next_158 : decode cX6_next 158 = .ok (.iaload, 1) := by decide +kernel
theorem dX6_next_159 : decode cX6_next 159 = .ok (.putfield 197, 3) := by decide +kernel
theorem dX6_next_162 : decode cX6_next 162 = .ok (.aload_n 0, 1) := by decide +kernel
theorem dX6_next_163 : decode cX6_next 163 = .ok (.ldc 236, 2) := by decide +kernel
theorem dX6_next_165 : decode cX6_next 165 = .ok (.aload_n 0, 1) := by decide +kernel
theorem dX6_next_166 : decode cX6_next 166 = .ok (.getfield 197, 3) := by decide +kernel
theorem dX6_next_169 : decode cX6_next 169 = .ok (.i2c, 1) := by decide +kernel
theorem dX6_next_170 : decode cX6_next 170 = .ok (.invokevirtual 238, 3) := by decide +kernel
theorem dX6_next_173 : decode cX6_next 173 = .ok (.ifCond .lt 7, 3) := by decide +kernel
theorem dX6_next_176 : decode cX6_next 176 = .ok (.iconst 3, 1) := by decide +kernel
theorem dX6_next_177 : decode cX6_next 177 = .ok (.goto 4, 3) := by decide +kernel
theorem dX6_next_180 : decode cX6_next 180 = .ok (.iconst 4, 1) := by decide +kernel
theorem dX6_next_181 : decode cX6_next 181 = .ok (.putfield 47, 3) := by decide +kernel
theorem dX6_next_184 : decode cX6_next 184 = .ok (.aload_n 0, 1) := by decide +kernel
theorem dX6_next_185 : decode cX6_next 185 = .ok (.dup, 1) := by decide +kernel
theorem dX6_next_186 : decode cX6_next 186 = .ok (.getfield 35, 3) := by decide +kernel
theorem dX6_next_189 : decode cX6_next 189 = .ok (.iconst 1, 1) := by decide +kernel
theorem dX6_next_190 : decode cX6_next 190 = .ok (.iadd, 1) := by decide +kernel
theorem dX6_next_191 : decode cX6_next 191 = .ok (.putfield 35, 3) := by decide +kernel
theorem dX6_next_194 : decode cX6_next 194 = .ok (.return_, 1) := by decide +kernel
set_option maxRecDepth 20000 in
theorem ggX7_init_X4_init : GoodIn wsX7_init wsX4_init := goodIn_r _ [24, 25, 2, 3, 6, 26, 27, 46, 47, 48, 49, 50] (by decide +kernel) (by decide +kernel)
set_option maxRecDepth 20000 in
theorem gX7_init_X4_init_n54 : GoodIn wsX7_init (wsX4_init) := ggX7_init_X4_init
theorem dX7_init_0 : decode cX7_init 0 = .ok (.aload_n 0, 1) := by decide +kernel
theorem dX7_init_1 : decode cX7_init 1 = .ok (.invokespecial 3, 3) := by decide +kernel
theorem dX7_init_4 : decode cX7_init 4 = .ok (.aload_n 0, 1) := by decide +kernel
theorem dX7_init_5 : decode cX7_init 5 = .ok (.iconst 5, 1) := by decide +kernel
theorem dX7_init_6 : decode cX7_init 6 = .ok (.newarray .long, 2) := by decide +kernel
theorem dX7_init_8 : decode cX7_init 8 = .ok (.putfield 9, 3) := by decide +kernel
theorem dX7_init_11 : decode cX7_init 11 = .ok (.aload_n 0, 1) := by decide +kernel
theorem dX7_init_12 : decode cX7_init 12 = .ok (.iconst 5, 1) := by decide +kernel
theorem dX7_init_13 : decode cX7_init 13 = .ok (.newarray .int, 2) := by decide +kernel
theorem dX7_init_15 : decode cX7_init 15 = .ok (.putfield 15, 3) := by decide +kernel
theorem dX7_init_18 : decode cX7_init 18 = .ok (.aload_n 0, 1) := by decide +kernel
theorem dX7_init_19 : decode cX7_init 19 = .ok (.iconst 5, 1) := by decide +kernel
theorem dX7_init_20 : decode cX7_init 20 = .ok (.newarray .int, 2) := by decide +kernel
theorem dX7_init_22 : decode cX7_init 22 = .ok (.putfield 19, 3) := by decide +kernel
theorem dX7_init_25 : decode cX7_init 25 = .ok (.aload_n 0, 1) := by decide +kernel
theorem dX7_init_26 : decode cX7_init 26 = .ok (.iconst 5, 1) := by decide +kernel
theorem dX7_init_27 : decode cX7_init 27 = .ok (.newarray .int, 2) := by decide +kernel
theorem dX7_init_29 : decode cX7_init 29 = .ok (.putfield 22, 3) := by decide +kernel
theorem dX7_init_32 : decode cX7_init 32 = .ok (.aload_n 0, 1) := by decide +kernel
theorem dX7_init_33 : decode cX7_init 33 = .ok (.iconst 5, 1) := by decide +kernel
theorem dX7_init_34 : decode cX7_init 34 = .ok (.newarray .int, 2) := by decide +kernel
theorem dX7_init_36 : decode cX7_init 36 = .ok (.putfield 25, 3) := by decide +kernel
theorem dX7_init_39 : decode cX7_init 39 = .ok (.aload_n 0, 1) := by decide +kernel
theorem dX7_init_40 : decode cX7_init 40 = .ok (.iconst 4, 1) := by decide +kernel
theorem dX7_init_41 : decode cX7_init 41 = .ok (.newarray .long, 2) := by decide +kernel
theorem dX7_init_43 : decode cX7_init 43 = .ok (.putfield 28, 3) := by decide +kernel
theorem dX7_init_46 : decode cX7_init 46 = .ok (.aload_n 0, 1) := by decide +kernel
theorem dX7_init_47 : decode cX7_init 47 = .ok (.iconst 4, 1) := by decide +kernel
theorem dX7_init_48 : decode cX7_init 48 = .ok (.newarray .int, 2) := by decide +kernel
theorem dX7_init_50 : decode cX7_init 50 = .ok (.putfield 31, 3) := by decide +kernel
theorem dX7_init_53 : decode cX7_init 53 = .ok (.aload_n 0, 1) := by decide +kernel
theorem dX7_init_54 : decode cX7_init 54 = .ok (.iconst 4, 1) := by decide +kernel
theorem dX7_init_55 : decode cX7_init 55 = .ok (.newarray .int, 2) := by decide +kernel
theorem dX7_init_57 : decode cX7_init 57 = .ok (.putfield 34, 3) := by decide +kernel
theorem dX7_init_60 : decode cX7_init 60 = .ok (.aload_n 0, 1) := by decide +kernel
theorem dX7_init_61 : decode cX7_init 61 = .ok (.bipush 20, 2) := by decide +kernel
theorem dX7_init_63 : decode cX7_init 63 = .ok (.newarray .int, 2) := by decide +kernel
theorem dX7_init_65 : decode cX7_init 65 = .ok (.putfield 37, 3) := by decide +kernel
theorem dX7_init_68 : decode cX7_init 68 = .ok (.aload_n 0, 1) := by decide +kernel
theorem dX7_init_69 : decode cX7_init 69 = .ok (.iconst 4, 1) := by decide +kernel
theorem dX7_init_70 : decode cX7_init 70 = .ok (.newarray .int, 2) := by decide +kernel
theorem dX7_init_72 : decode cX7_init 72 = .ok (.putfield 40, 3) := by decide +kernel
theorem dX7_init_75 : decode cX7_init 75 = .ok (.aload_n 0, 1) := by decide +kernel
theorem dX7_init_76 : decode cX7_init 76 = .ok (.bipush 12, 2) := by decide +kernel
theorem dX7_init_78 : decode cX7_init 78 = .ok (.newarray .long, 2) := by decide +kernel
theorem dX7_init_80 : decode cX7_init 80 = .ok (.putfield 43, 3) := by decide +kernel
theorem dX7_init_83 : decode cX7_init 83 = .ok (.aload_n 0, 1) := by decide +kernel
theorem dX7_init_84 : decode cX7_init 84 = .ok (.bipush 12, 2) := by decide +kernel
theorem dX7_init_86 : decode cX7_init 86 = .ok (.newarray .int, 2) := by decide +kernel
theorem dX7_init_88 : decode cX7_init 88 = .ok (.putfield 46, 3) := by decide +kernel
theorem dX7_init_91 : decode cX7_init 91 = .ok (.aload_n 0, 1) := by decide +kernel
theorem dX7_init_92 : decode cX7_init 92 = .ok (.bipush 12, 2) := by decide +kernel
theorem dX7_init_94 : decode cX7_init 94 = .ok (.newarray .int, 2) := by decide +kernel
theorem dX7_init_96 : decode cX7_init 96 = .ok (.putfield 49, 3) := by decide +kernel
theorem dX7_init_99 : decode cX7_init 99 = .ok (.aload_n 0, 1) := by decide +kernel
theorem dX7_init_100 : decode cX7_init 100 = .ok (.new 52, 3) := by decide +kernel
theorem dX7_init_103 : decode cX7_init 103 = .ok (.dup, 1) := by decide +kernel
theorem dX7_init_104 : decode cX7_init 104 = .ok (.invokespecial 54, 3) := by decide +kernel
theorem dX7_init_107 : decode cX7_init 107 = .ok (.putfield 55, 3) := by decide +kernel
theorem dX7_init_110 : decode cX7_init 110 = .ok (.return_, 1) := by decide +kernel
set_option maxRecDepth 20000 in
theorem ggX7_clear_J7_fill_53178 : GoodIn wsX7_clear wsJ7_fill_53178 := goodIn_r _ [11] (by decide +kernel) (by decide +kernel)
set_option maxRecDepth 20000 in
theorem gX7_clear_J7_fill_53178 : GoodIn wsX7_clear (va_wsS RX7 72 yJ7_fill_53178 wsJ7_fill_53178) := goodIn_app (goodIn_of _ (by decide +kernel)) ggX7_clear_J7_fill_53178
set_option maxRecDepth 20000 in
theorem ggX7_clear_X4_clear : GoodIn wsX7_clear wsX4_clear := goodIn_r _ [16, 17, 18, 19, 38, 39, 40, 41, 42] (by decide +kernel) (by decide +kernel)
set_option maxRecDepth 20000 in
theorem gX7_clear_X4_clear : GoodIn wsX7_clear (wsV RX7 78 RX4 yX4_clear wsX4_clear) := goodIn_app (goodIn_of _ (by decide +kernel)) ggX7_clear_X4_clear
theorem dX7_clear_0 : decode cX7_clear 0 = .ok (.aload_n 0, 1) := by decide +kernel
theorem dX7_clear_1 : decode cX7_clear 1 = .ok (.iconst 0, 1) := by decide +kernel
theorem dX7_clear_2 : decode cX7_clear 2 = .ok (.putfield 59, 3) := by decide +kernel
theorem dX7_clear_5 : decode cX7_clear 5 = .ok (.aload_n 0, 1) := by decide +kernel
theorem dX7_clear_6 : decode cX7_clear 6 = .ok (.iconst 0, 1) := by decide +kernel
theorem dX7_clear_7 : decode cX7_clear 7 = .ok (.putfield 63, 3) := by decide +kernel
theorem dX7_clear_10 : decode cX7_clear 10 = .ok (.aload_n 0, 1) := by decide +kernel
theorem dX7_clear_11 : decode cX7_clear 11 = .ok (.iconst 0, 1) := by decide +kernel
theorem dX7_clear_12 : decode cX7_clear 12 = .ok (.putfield 66, 3) := by decide +kernel
theorem dX7_clear_15 : decode cX7_clear 15 = .ok (.aload_n 0, 1) := by decide +kernel
theorem dX7_clear_16 : decode cX7_clear 16 = .ok (.iconst 0, 1) := by decide +kernel
theorem dX7_clear_17 : decode cX7_clear 17 = .ok (.putfield 69, 3) := by decide +kernel
theorem dX7_clear_20 : decode cX7_clear 20 = .ok (.aload_n 0, 1) := by decide +kernel
theorem dX7_clear_21 : decode cX7_clear 21 = .ok (.getfield 25, 3) := by decide +kernel
theorem dX7_clear_24 : decode cX7_clear 24 = .ok (.iconst (-1), 1) := by decide +kernel
theorem dX7_clear_25 : decode cX7_clear 25 = .ok (.invokestatic 72, 3) := by decide +kernel
theorem dX7_clear_28 : decode cX7_clear 28 = .ok (.aload_n 0, 1) := by decide +kernel
theorem dX7_clear_29 : decode cX7_clear 29 = .ok (.getfield 40, 3) := by decide +kernel
theorem dX7_clear_32 : decode cX7_clear 32 = .ok (.iconst 0, 1) := by decide +kernel
theorem dX7_clear_33 : decode cX7_clear 33 = .ok (.invokestatic 72, 3) := by decide +kernel
theorem dX7_clear_36 : decode cX7_clear 36 = .ok (.aload_n 0, 1) := by decide +kernel
theorem dX7_clear_37 : decode cX7_clear 37 = .ok (.getfield 55, 3) := by decide +kernel
theorem dX7_clear_40 : decode cX7_clear 40 = .ok (.invokevirtual 78, 3) := by decide +kernel
theorem dX7_clear_43 : decode cX7_clear 43 = .ok (.return_, 1) := by decide +kernel
set_option maxRecDepth 20000 in
theorem ggX7_becomes_X4_becomes : GoodIn wsX7_becomes wsX4_becomes := goodIn_r _ [24, 25, 26, 27, 28, 29, 7, 8, 9, 48, 49, 50, 51, 52] (by decide +kernel) (by decide +kernel)
set_option maxRecDepth 20000 in
theorem gX7_becomes_X4_becomes : GoodIn wsX7_becomes (wsV RX7 87 RX4 yX4_becomes wsX4_becomes) := goodIn_app (goodIn_of _ (by decide +kernel)) ggX7_becomes_X4_becomes
theorem dX7_becomes_0 : decode cX7_becomes 0 = .ok (.aload_n 0, 1) := by decide +kernel
theorem dX7_becomes_1 : decode cX7_becomes 1 = .ok (.aload_n 1, 1) := by decide +kernel
theorem dX7_becomes_2 : decode cX7_becomes 2 = .ok (.getfield 59, 3) := by decide +kernel
theorem dX7_becomes_5 : decode cX7_becomes 5 = .ok (.putfield 59, 3) := by decide +kernel
theorem dX7_becomes_8 : decode cX7_becomes 8 = .ok (.aload_n 0, 1) := by decide +kernel
theorem dX7_becomes_9 : decode cX7_becomes 9 = .ok (.aload_n 1, 1) := by decide +kernel
theorem dX7_becomes_10 : decode cX7_becomes 10 = .ok (.getfield 63, 3) := by decide +kernel
theorem dX7_becomes_13 : decode cX7_becomes 13 = .ok (.putfield 63, 3) := by decide +kernel
theorem dX7_becomes_16 : decode cX7_becomes 16 = .ok (.aload_n 0, 1) := by decide +kernel
theorem dX7_becomes_17 : decode cX7_becomes 17 = .ok (.aload_n 1, 1) := by decide +kernel
theorem dX7_becomes_18 : decode cX7_becomes 18 = .ok (.getfield 66, 3) := by decide +kernel
theorem dX7_becomes_21 : decode cX7_becomes 21 = .ok (.putfield 66, 3) := by decide +kernel
theorem dX7_becomes_24 : decode cX7_becomes 24 = .ok (.aload_n 0, 1) := by decide +kernel
theorem dX7_becomes_25 : decode cX7_becomes 25 = .ok (.aload_n 1, 1) := by decide +kernel
theorem dX7_becomes_26 : decode cX7_becomes 26 = .ok (.getfield 69, 3) := by decide +kernel
theorem dX7_becomes_29 : decode cX7_becomes 29 = .ok (.putfield 69, 3) := by decide +kernel
theorem dX7_becomes_32 : decode cX7_becomes 32 = .ok (.aload_n 1, 1) := by decide +kernel
theorem dX7_becomes_33 : decode cX7_becomes 33 = .ok (.getfield 15, 3) := by decide +kernel
theorem dX7_becomes_36 : decode cX7_becomes 36 = .ok (.iconst 0, 1) := by decide +kernel
theorem dX7_becomes_37 : decode cX7_becomes 37 = .ok (.aload_n 0, 1) := by decide +kernel
theorem dX7_becomes_38 : decode cX7_becomes 38 = .ok (.getfield 15, 3) := by decide +kernel
theorem dX7_becomes_41 : decode cX7_becomes 41 = .ok (.iconst 0, 1) := by decide +kernel
theorem dX7_becomes_42 : decode cX7_becomes 42 = .ok (.iconst 5, 1) := by decide +kernel
theorem dX7_becomes_43 : decode cX7_becomes 43 = .ok (.invokestatic 81, 3) := by decide +kernel
theorem dX7_becomes_46 : decode cX7_becomes 46 = .ok (.aload_n 1, 1) := by decide +kernel
theorem dX7_becomes_47 : decode cX7_becomes 47 = .ok (.getfield 19, 3) := by decide +kernel
theorem dX7_becomes_50 : decode cX7_becomes 50 = .ok (.iconst 0, 1) := by decide +kernel
theorem dX7_becomes_51 : decode cX7_becomes 51 = .ok (.aload_n 0, 1) := by decide +kernel
theorem dX7_becomes_52 : decode cX7_becomes 52 = .ok (.getfield 19, 3) := by decide +kernel
theorem dX7_becomes_55 : decode cX7_becomes 55 = .ok (.iconst 0, 1) := by decide +kernel
theorem dX7_becomes_56 : decode cX7_becomes 56 = .ok (.iconst 5, 1) := by decide +kernel
theorem dX7_becomes_57 : decode cX7_becomes 57 = .ok (.invokestatic 81, 3) := by decide +kernel
theorem dX7_becomes_60 : decode cX7_becomes 60 = .ok (.aload_n 1, 1) := by decide +kernel
theorem dX7_becomes_61 : decode cX7_becomes 61 = .ok (.getfield 22, 3) := by decide +kernel
theorem dX7_becomes_64 : decode cX7_becomes 64 = .ok (.iconst 0, 1) := by decide +kernel
theorem dX7_becomes_65 : decode cX7_becomes 65 = .ok (.aload_n 0, 1) := by decide +kernel
theorem dX7_becomes_66 : decode cX7_becomes 66 = .ok (.getfield 22, 3) := by decide +kernel
theorem dX7_becomes_69 : decode cX7_becomes 69 = .ok (.iconst 0, 1) := by decide +kernel
theorem dX7_becomes_70 : decode cX7_becomes 70 = .ok (.iconst 5, 1) := by decide +kernel
theorem dX7_becomes_71 : decode cX7_becomes 71 = .ok (.invokestatic 81, 3) := by decide +kernel
theorem dX7_becomes_74 : decode cX7_becomes 74 = .ok (.aload_n 1, 1) := by decide +kernel
theorem dX7_becomes_75 : decode cX7_becomes 75 = .ok (.getfield 25, 3) := by decide +kernel
theorem dX7_becomes_78 : decode cX7_becomes 78 = .ok (.iconst 0, 1) := by decide +kernel
theorem dX7_becomes_79 : decode cX7_becomes 79 = .ok (.aload_n 0, 1) := by decide +kernel
theorem dX7_becomes_80 : decode cX7_becomes 80 = .ok (.getfield 25, 3) := by decide +kernel
theorem dX7_becomes_83 : decode cX7_becomes 83 = .ok (.iconst 0, 1) := by decide +kernel
theorem dX7_becomes_84 : decode cX7_becomes 84 = .ok (.iconst 5, 1) := by decide +kernel
theorem dX7_becomes_85 : decode cX7_becomes 85 = .ok (.invokestatic 81, 3) := by decide +kernel
theorem dX7_becomes_88 : decode cX7_becomes 88 = .ok (.aload_n 1, 1) := by decide +kernel
theorem dX7_becomes_89 : decode cX7_becomes 89 = .ok (.getfield 31, 3) := by decide +kernel
theorem dX7_becomes_92 : decode cX7_becomes 92 = .ok (.iconst 0, 1) := by decide +kernel
theorem dX7_becomes_93 : decode cX7_becomes 93 = .ok (.aload_n 0, 1) := by decide +kernel
theorem dX7_becomes_94 : decode cX7_becomes 94 = .ok (.getfield 31, 3) := by decide +kernel
theorem dX7_becomes_97 : decode cX7_becomes 97 = .ok (.iconst 0, 1) := by decide +kernel
theorem dX7_becomes_98 : decode cX7_becomes 98 = .ok (.iconst 4, 1) := by decide +kernel
theorem dX7_becomes_99 : decode cX7_becomes 99 = .ok (.invokestatic 81, 3) := by decide +kernel
theorem dX7_becomes_102 : decode cX7_becomes 102 = .ok (.aload_n 1, 1) := by decide +kernel
theorem dX7_becomes_103 : decode cX7_becomes 103 = .ok (.getfield 34, 3) := by decide +kernel
theorem dX7_becomes_106 : decode cX7_becomes 106 = .ok (.iconst 0, 1) := by decide +kernel
theorem dX7_becomes_107 : decode cX7_becomes 107 = .ok (.aload_n 0, 1) := by decide +kernel
theorem dX7_becomes_108 : decode cX7_becomes 108 = .ok (.getfield 34, 3) := by decide +kernel
theorem dX7_becomes_111 : decode cX7_becomes 111 = .ok (.iconst 0, 1) := by decide +kernel
theorem dX7_becomes_112 : decode cX7_becomes 112 = .ok (.iconst 4, 1) := by decide +kernel
theorem dX7_becomes_113 : decode cX7_becomes 113 = .ok (.invokestatic 81, 3) := by decide +kernel
theorem dX7_becomes_116 : decode cX7_becomes 116 = .ok (.aload_n 1, 1) := by decide +kernel
theorem dX7_becomes_117 : decode cX7_becomes 117 = .ok (.getfield 37, 3) := by decide +kernel
theorem dX7_becomes_120 : decode cX7_becomes 120 = .ok (.iconst 0, 1) := by decide +kernel
theorem dX7_becomes_121 : decode cX7_becomes 121 = .ok (.aload_n 0, 1) := by decide +kernel
theorem dX7_becomes_122 : decode cX7_becomes 122 = .ok (.getfield 37, 3) := by decide +kernel
theorem dX7_becomes_125 : decode cX7_becomes 125 = .ok (.iconst 0, 1) := by decide +kernel
theorem dX7_becomes_126 : decode cX7_becomes 126 = .ok (.bipush 20, 2) := by decide +kernel
theorem dX7_becomes_128 : decode cX7_becomes 128 = .ok (.invokestatic 81, 3) := by decide +kernel
theorem dX7_becomes_131 : decode cX7_becomes 131 = .ok (.aload_n 1, 1) := by decide +kernel
theorem dX7_becomes_132 : decode cX7_becomes 132 = .ok (.getfield 40, 3) := by decide +kernel
theorem dX7_becomes_135 : decode cX7_becomes 135 = .ok (.iconst 0, 1) := by decide +kernel
theorem dX7_becomes_136 : decode cX7_becomes 136 = .ok (.aload_n 0, 1) := by decide +kernel
theorem dX7_becomes_137 : decode cX7_becomes 137 = .ok (.getfield 40, 3) := by decide +kernel
theorem dX7_becomes_140 : decode cX7_becomes 140 = .ok (.iconst 0, 1) := by decide +kernel
theorem dX7_becomes_141 : decode cX7_becomes 141 = .ok (.iconst 4, 1) := by decide +kernel
theorem dX7_becomes_142 : decode cX7_becomes 142 = .ok (.invokestatic 81, 3) := by decide +kernel
theorem dX7_becomes_145 : decode cX7_becomes 145 = .ok (.aload_n 1, 1) := by decide +kernel
theorem dX7_becomes_146 : decode cX7_becomes 146 = .ok (.getfield 46, 3) := by decide +kernel
theorem dX7_becomes_149 : decode cX7_becomes 149 = .ok (.iconst 0, 1) := by decide +kernel
theorem dX7_becomes_150 : decode cX7_becomes 150 = .ok (.aload_n 0, 1) := by decide +kernel
theorem dX7_becomes_151 : decode cX7_becomes 151 = .ok (.getfield 46, 3) := by decide +kernel
theorem dX7_becomes_154 : decode cX7_becomes 154 = .ok (.iconst 0, 1) := by decide +kernel
theorem dX7_becomes_155 : decode cX7_becomes 155 = .ok (.bipush 12, 2) := by decide +kernel
theorem dX7_becomes_157 : decode cX7_becomes 157 = .ok (.invokestatic 81, 3) := by decide +kernel
theorem dX7_becomes_160 : decode cX7_becomes 160 = .ok (.aload_n 1, 1) := by decide +kernel
theorem dX7_becomes_161 : decode cX7_becomes 161 = .ok (.getfield 49, 3) := by decide +kernel
theorem dX7_becomes_164 : decode cX7_becomes 164 = .ok (.iconst 0, 1) := by decide +kernel
theorem dX7_becomes_165 : decode cX7_becomes 165 = .ok (.aload_n 0, 1) := by decide +kernel
theorem dX7_becomes_166 : decode cX7_becomes 166 = .ok (.getfield 49, 3) := by decide +kernel
theorem dX7_becomes_169 : decode cX7_becomes 169 = .ok (.iconst 0, 1) := by decide +kernel
theorem dX7_becomes_170 : decode cX7_becomes 170 = .ok (.bipush 12, 2) := by decide +kernel
theorem dX7_becomes_172 : decode cX7_becomes 172 = .ok (.invokestatic 81, 3) := by decide +kernel
theorem dX7_becomes_175 : decode cX7_becomes 175 = .ok (.aload_n 0, 1) := by decide +kernel
theorem dX7_becomes_176 : decode cX7_becomes 176 = .ok (.getfield 55, 3) := by decide +kernel
theorem dX7_becomes_179 : decode cX7_becomes 179 = .ok (.aload_n 1, 1) := by decide +kernel
theorem dX7_becomes_180 : decode cX7_becomes 180 = .ok (.getfield 55, 3) := by decide +kernel
theorem dX7_becomes_183 : decode cX7_becomes 183 = .ok (.invokevirtual 87, 3) := by decide +kernel
theorem dX7_becomes_186 : decode cX7_becomes 186 = .ok (.return_, 1) := by decide +kernel
set_option maxRecDepth 20000 in
theorem ggX8_init_X10_init : GoodIn wsX8_init wsX10_init := goodIn_r _ [20, 21, 2, 3, 4, 22, 23, 24, 25, 26, 27, 28, 29, 46, 47, 48, 49, 50, 51, 52, 53] (by decide +kernel) (by decide +kernel)
set_option maxRecDepth 20000 in
theorem gX8_init_X10_init : GoodIn wsX8_init (wsX10_init) := ggX8_init_X10_init
theorem dX8_init_0 : decode cX8_init 0 = .ok (.aload_n 0, 1) := by decide +kernel
theorem dX8_init_1 : decode cX8_init 1 = .ok (.invokespecial 3, 3) := by decide +kernel
theorem dX8_init_4 : decode cX8_init 4 = .ok (.aload_n 0, 1) := by decide +kernel
theorem dX8_init_5 : decode cX8_init 5 = .ok (.bipush 30, 2) := by decide +kernel
theorem dX8_init_7 : decode cX8_init 7 = .ok (.newarray .int, 2) := by decide +kernel
theorem dX8_init_9 : decode cX8_init 9 = .ok (.putfield 9, 3) := by decide +kernel
theorem dX8_init_12 : decode cX8_init 12 = .ok (.aload_n 0, 1) := by decide +kernel
theorem dX8_init_13 : decode cX8_init 13 = .ok (.bipush 30, 2) := by decide +kernel
theorem dX8_init_15 : decode cX8_init 15 = .ok (.newarray .int, 2) := by decide +kernel
theorem dX8_init_17 : decode cX8_init 17 = .ok (.putfield 15, 3) := by decide +kernel
theorem dX8_init_20 : decode cX8_init 20 = .ok (.aload_n 0, 1) := by decide +kernel
theorem dX8_init_21 : decode cX8_init 21 = .ok (.bipush 30, 2) := by decide +kernel
theorem dX8_init_23 : decode cX8_init 23 = .ok (.newarray .int, 2) := by decide +kernel
theorem dX8_init_25 : decode cX8_init 25 = .ok (.putfield 18, 3) := by decide +kernel
theorem dX8_init_28 : decode cX8_init 28 = .ok (.aload_n 0, 1) := by decide +kernel
theorem dX8_init_29 : decode cX8_init 29 = .ok (.bipush 30, 2) := by decide +kernel
theorem dX8_init_31 : decode cX8_init 31 = .ok (.newarray .int, 2) := by decide +kernel
theorem dX8_init_33 : decode cX8_init 33 = .ok (.putfield 21, 3) := by decide +kernel
theorem dX8_init_36 : decode cX8_init 36 = .ok (.aload_n 0, 1) := by decide +kernel
theorem dX8_init_37 : decode cX8_init 37 = .ok (.bipush 30, 2) := by decide +kernel
theorem dX8_init_39 : decode cX8_init 39 = .ok (.newarray .int, 2) := by decide +kernel
theorem dX8_init_41 : decode cX8_init 41 = .ok (.putfield 24, 3) := by decide +kernel
theorem dX8_init_44 : decode cX8_init 44 = .ok (.aload_n 0, 1) := by decide +kernel
theorem dX8_init_45 : decode cX8_init 45 = .ok (.bipush 12, 2) := by decide +kernel
theorem dX8_init_47 : decode cX8_init 47 = .ok (.newarray .int, 2) := by decide +kernel
theorem dX8_init_49 : decode cX8_init 49 = .ok (.putfield 27, 3) := by decide +kernel
theorem dX8_init_52 : decode cX8_init 52 = .ok (.aload_n 0, 1) := by decide +kernel
theorem dX8_init_53 : decode cX8_init 53 = .ok (.sipush 180, 3) := by decide +kernel
theorem dX8_init_56 : decode cX8_init 56 = .ok (.newarray .int, 2) := by decide +kernel
theorem dX8_init_58 : decode cX8_init 58 = .ok (.putfield 32, 3) := by decide +kernel
theorem dX8_init_61 : decode cX8_init 61 = .ok (.aload_n 0, 1) := by decide +kernel
theorem dX8_init_62 : decode cX8_init 62 = .ok (.bipush 30, 2) := by decide +kernel
theorem dX8_init_64 : decode cX8_init 64 = .ok (.newarray .int, 2) := by decide +kernel
theorem dX8_init_66 : decode cX8_init 66 = .ok (.putfield 35, 3) := by decide +kernel
theorem dX8_init_69 : decode cX8_init 69 = .ok (.aload_n 0, 1) := by decide +kernel
theorem dX8_init_70 : decode cX8_init 70 = .ok (.aload_n 1, 1) := by decide +kernel
theorem dX8_init_71 : decode cX8_init 71 = .ok (.putfield 38, 3) := by decide +kernel
theorem dX8_init_74 : decode cX8_init 74 = .ok (.aload_n 0, 1) := by decide +kernel
theorem dX8_init_75 : decode cX8_init 75 = .ok (.new 30, 3) := by decide +kernel
theorem dX8_init_78 : decode cX8_init 78 = .ok (.dup, 1) := by decide +kernel
theorem dX8_init_79 : decode cX8_init 79 = .ok (.aload_n 1, 1) := by decide +kernel
theorem dX8_init_80 : decode cX8_init 80 = .ok (.invokespecial 42, 3) := by decide +kernel
theorem dX8_init_83 : decode cX8_init 83 = .ok (.putfield 45, 3) := by decide +kernel
theorem dX8_init_86 : decode cX8_init 86 = .ok (.return_, 1) := by decide +kernel
theorem dX8_forget_0 : decode cX8_forget 0 = .ok (.aload_n 0, 1) := by decide +kernel
theorem dX8_forget_1 : decode cX8_forget 1 = .ok (.iconst 0, 1) := by decide +kernel
theorem dX8_forget_2 : decode cX8_forget 2 = .ok (.putfield 49, 3) := by decide +kernel
theorem dX8_forget_5 : decode cX8_forget 5 = .ok (.return_, 1) := by decide +kernel
set_option maxRecDepth 20000 in
theorem ggX8_takeBack_X11_within : GoodIn wsX8_takeBack wsX11_within := goodIn_r _ [6] (by decide +kernel) (by decide +kernel)
set_option maxRecDepth 20000 in
theorem gX8_takeBack_X11_within_n56 : GoodIn wsX8_takeBack (wsX11_within) := ggX8_takeBack_X11_within
theorem dX8_takeBack_0 : decode cX8_takeBack 0 = .ok (.iload_n 1, 1) := by decide +kernel
theorem dX8_takeBack_1 : decode cX8_takeBack 1 = .ok (.iconst 0, 1) := by decide +kernel
theorem dX8_takeBack_2 : decode cX8_takeBack 2 = .ok (.aload_n 0, 1) := by decide +kernel
theorem dX8_takeBack_3 : decode cX8_takeBack 3 = .ok (.getfield 49, 3) := by decide +kernel
theorem dX8_takeBack_6 : decode cX8_takeBack 6 = .ok (.iconst 1, 1) := by decide +kernel
theorem dX8_takeBack_7 : decode cX8_takeBack 7 = .ok (.isub, 1) := by decide +kernel
theorem dX8_takeBack_8 : decode cX8_takeBack 8 = .ok (.invokestatic 56, 3) := by decide +kernel
theorem dX8_takeBack_11 : decode cX8_takeBack 11 = .ok (.ifCond .eq 13, 3) := by decide +kernel
theorem dX8_takeBack_14 : decode cX8_takeBack 14 = .ok (.aload_n 0, 1) := by decide +kernel
theorem dX8_takeBack_15 : decode cX8_takeBack 15 = .ok (.getfield 24, 3) := by decide +kernel
theorem dX8_takeBack_18 : decode cX8_takeBack 18 = .ok (.iload_n 1, 1) := by decide +kernel
theorem dX8_takeBack_19 : decode cX8_takeBack 19 = .ok (.iaload, 1) := by decide +kernel
theorem dX8_takeBack_20 : decode cX8_takeBack 20 = .ok (.iconst (-1), 1) := by decide +kernel
theorem dX8_takeBack_21 : decode cX8_takeBack 21 = .ok (.if_icmp .eq 5, 3) := by decide +kernel
theorem dX8_takeBack_24 : decode cX8_takeBack 24 = .ok (.iconst 0, 1) := by decide +kernel
theorem dX8_takeBack_25 : decode cX8_takeBack 25 = .ok (.ireturn, 1) := by decide +kernel
theorem dX8_takeBack_26 : decode cX8_takeBack 26 = .ok (.aload_n 0, 1) := by decide +kernel
theorem dX8_takeBack_27 : decode cX8_takeBack 27 = .ok (.getfield 24, 3) := by decide +kernel
theorem dX8_takeBack_30 : decode cX8_takeBack 30 = .ok (.iload_n 1, 1) := by decide +kernel
theorem dX8_takeBack_31 : decode cX8_takeBack 31 = .ok (.aload_n 0, 1) := by decide +kernel
theorem dX8_takeBack_32 : decode cX8_takeBack 32 = .ok (.getfield 53, 3) := by decide +kernel
theorem dX8_takeBack_35 : decode cX8_takeBack 35 = .ok (.iastore, 1) := by decide +kernel
theorem dX8_takeBack_36 : decode cX8_takeBack 36 = .ok (.iconst 1, 1) := by decide +kernel
theorem dX8_takeBack_37 : decode cX8_takeBack 37 = .ok (.ireturn, 1) := by decide +kernel
set_option maxRecDepth 20000 in
theorem ggX8_findSets_X11_putByMinutes : GoodIn wsX8_findSets wsX11_putByMinutes := goodIn_r _ [17] (by decide +kernel) (by decide +kernel)
set_option maxRecDepth 20000 in
theorem gX8_findSets_X11_putByMinutes_n66 : GoodIn wsX8_findSets (wsX11_putByMinutes) := ggX8_findSets_X11_putByMinutes
set_option maxRecDepth 20000 in
theorem ggX8_findSets_X8_cartsTill : GoodIn wsX8_findSets wsX8_cartsTill := goodIn_r _ [22, 1, 23, 24, 5, 2, 4, 3, 25, 26, 87, 88, 89, 90, 91, 92, 93, 94, 95, 96, 97, 98, 99, 100, 101, 102, 103, 104, 105, 106, 107, 108, 109, 110, 111, 112, 113, 114, 115, 116, 117, 118, 119, 120] (by decide +kernel) (by decide +kernel)
set_option maxRecDepth 20000 in
theorem gX8_findSets_X8_cartsTill : GoodIn wsX8_findSets (wsV RX8 73 RX8 yX8_cartsTill wsX8_cartsTill) := goodIn_app (goodIn_of _ (by decide +kernel)) ggX8_findSets_X8_cartsTill
set_option maxRecDepth 20000 in
theorem ggX8_findSets_X10_sit : GoodIn wsX8_findSets wsX10_sit := goodIn_r _ [31, 32, 33, 34, 35, 36, 37, 38, 39, 40, 41, 42, 43, 44, 30, 45, 46, 47, 48, 49, 50, 51, 52, 53, 121, 122, 123, 124, 125, 126, 127, 128, 103, 104, 105, 106, 107, 108, 109, 110, 111, 112, 113, 114, 115, 116, 117, 118, 119, 120] (by decide +kernel) (by decide +kernel)
set_option maxRecDepth 20000 in
theorem gX8_findSets_X10_sit : GoodIn wsX8_findSets (wsV RX8 80 RX10 yX10_sit wsX10_sit) := goodIn_app (goodIn_of _ (by decide +kernel)) ggX8_findSets_X10_sit
set_option maxRecDepth 20000 in
theorem ggX8_findSets_X8_goOn : GoodIn wsX8_findSets wsX8_goOn := goodIn_r _ [57, 1, 2, 12, 13, 14, 3, 58, 10, 59, 60, 61, 62, 21, 63, 6, 9, 64, 24, 65, 66, 16, 67, 68, 69, 70, 30, 71, 46, 33, 34, 35, 36, 48, 49, 54, 55, 56, 72, 73, 74, 75, 76, 77, 78, 79, 80, 5, 4, 25, 81, 82, 83, 84, 41, 39, 37, 85, 86, 32, 47, 87, 88, 89, 90, 91, 92, 93, 94, 95, 96, 97, 98, 99, 100, 101, 102, 103, 104, 105, 106, 107, 108, 109, 110, 111, 112, 113, 114, 115, 116, 117, 118, 119, 120, 121, 122, 123, 124, 125, 126, 127, 128] (by decide +kernel) (by decide +kernel)
set_option maxRecDepth 20000 in
theorem gX8_findSets_X8_goOn : GoodIn wsX8_findSets (wsV RX8 93 RX8 yX8_goOn wsX8_goOn) := goodIn_app (goodIn_of _ (by decide +kernel)) ggX8_findSets_X8_goOn
theorem dX8_findSets_0 : decode cX8_findSets 0 = .ok (.iconst 0, 1) := by decide +kernel
theorem dX8_findSets_1 : decode cX8_findSets 1 = .ok (.istore_n 2, 1) := by decide +kernel
theorem dX8_findSets_2 : decode cX8_findSets 2 = .ok (.iload_n 2, 1) := by decide +kernel
theorem dX8_findSets_3 : decode cX8_findSets 3 = .ok (.aload_n 0, 1) := by decide +kernel
theorem dX8_findSets_4 : decode cX8_findSets 4 = .ok (.getfield 38, 3) := by decide +kernel
theorem dX8_findSets_7 : decode cX8_findSets 7 = .ok (.getfield 60, 3) := by decide +kernel
theorem dX8_findSets_10 : decode cX8_findSets 10 = .ok (.if_icmp .ge 16, 3) := by decide +kernel
theorem dX8_findSets_13 : decode cX8_findSets 13 = .ok (.aload_n 0, 1) := by decide +kernel
theorem dX8_findSets_14 : decode cX8_findSets 14 = .ok (.getfield 27, 3) := by decide +kernel
theorem dX8_findSets_17 : decode cX8_findSets 17 = .ok (.iload_n 2, 1) := by decide +kernel
theorem dX8_findSets_18 : decode cX8_findSets 18 = .ok (.iload_n 2, 1) := by decide +kernel
theorem dX8_findSets_19 : decode cX8_findSets 19 = .ok (.iastore, 1) := by decide +kernel
theorem dX8_findSets_20 : decode cX8_findSets 20 = .ok (.iinc 2 1, 3) := by decide +kernel
theorem dX8_findSets_23 : decode cX8_findSets 23 = .ok (.goto (-21), 3) := by decide +kernel
theorem dX8_findSets_26 : decode cX8_findSets 26 = .ok (.aload_n 0, 1) := by decide +kernel
theorem dX8_findSets_27 : decode cX8_findSets 27 = .ok (.getfield 27, 3) := by decide +kernel
theorem dX8_findSets_30 : decode cX8_findSets 30 = .ok (.aload_n 0, 1) := by decide +kernel
theorem dX8_findSets_31 : decode cX8_findSets 31 = .ok (.getfield 38, 3) := by decide +kernel
theorem dX8_findSets_34 : decode cX8_findSets 34 = .ok (.getfield 60, 3) := by decide +kernel
theorem dX8_findSets_37 : decode cX8_findSets 37 = .ok (.aload_n 0, 1) := by decide +kernel
theorem dX8_findSets_38 : decode cX8_findSets 38 = .ok (.getfield 38, 3) := by decide +kernel
theorem dX8_findSets_41 : decode cX8_findSets 41 = .ok (.getfield 65, 3) := by decide +kernel
theorem dX8_findSets_44 : decode cX8_findSets 44 = .ok (.invokestatic 66, 3) := by decide +kernel
theorem dX8_findSets_47 : decode cX8_findSets 47 = .ok (.aload_n 0, 1) := by decide +kernel
theorem dX8_findSets_48 : decode cX8_findSets 48 = .ok (.iconst 0, 1) := by decide +kernel
theorem dX8_findSets_49 : decode cX8_findSets 49 = .ok (.putfield 70, 3) := by decide +kernel
theorem dX8_findSets_52 : decode cX8_findSets 52 = .ok (.iconst 0, 1) := by decide +kernel
theorem dX8_findSets_53 : decode cX8_findSets 53 = .ok (.istore_n 2, 1) := by decide +kernel
theorem dX8_findSets_54 : decode cX8_findSets 54 = .ok (.iload_n 2, 1) := by decide +kernel
theorem dX8_findSets_55 : decode cX8_findSets 55 = .ok (.aload_n 0, 1) := by decide +kernel
theorem dX8_findSets_56 : decode cX8_findSets 56 = .ok (.getfield 49, 3) := by decide +kernel
theorem dX8_findSets_59 : decode cX8_findSets 59 = .ok (.if_icmp .ge 64, 3) := by decide +kernel
theorem dX8_findSets_62 : decode cX8_findSets 62 = .ok (.aload_n 0, 1) := by decide +kernel
theorem dX8_findSets_63 : decode cX8_findSets 63 = .ok (.getfield 21, 3) := by decide +kernel
theorem dX8_findSets_66 : decode cX8_findSets 66 = .ok (.iload_n 2, 1) := by decide +kernel
theorem dX8_findSets_67 : decode cX8_findSets 67 = .ok (.iaload, 1) := by decide +kernel
theorem dX8_findSets_68 : decode cX8_findSets 68 = .ok (.iload_n 1, 1) := by decide +kernel
theorem dX8_findSets_69 : decode cX8_findSets 69 = .ok (.if_icmp .gt 27, 3) := by decide +kernel
theorem dX8_findSets_72 : decode cX8_findSets 72 = .ok (.aload_n 0, 1) := by decide +kernel
theorem dX8_findSets_73 : decode cX8_findSets 73 = .ok (.getfield 24, 3) := by decide +kernel
theorem dX8_findSets_76 : decode cX8_findSets 76 = .ok (.iload_n 2, 1) := by decide +kernel
theorem dX8_findSets_77 : decode cX8_findSets 77 = .ok (.iaload, 1) := by decide +kernel
theorem dX8_findSets_78 : decode cX8_findSets 78 = .ok (.iconst (-1), 1) := by decide +kernel
theorem dX8_findSets_79 : decode cX8_findSets 79 = .ok (.if_icmp .eq 13, 3) := by decide +kernel
theorem dX8_findSets_82 : decode cX8_findSets 82 = .ok (.aload_n 0, 1) := by decide +kernel
theorem dX8_findSets_83 : decode cX8_findSets 83 = .ok (.getfield 24, 3) := by decide +kernel
theorem dX8_findSets_86 : decode cX8_findSets 86 = .ok (.iload_n 2, 1) := by decide +kernel
theorem dX8_findSets_87 : decode cX8_findSets 87 = .ok (.iaload, 1) := by decide +kernel
theorem dX8_findSets_88 : decode cX8_findSets 88 = .ok (.iload_n 1, 1) := by decide +kernel
theorem dX8_findSets_89 : decode cX8_findSets 89 = .ok (.if_icmp .le 7, 3) := by decide +kernel
theorem dX8_findSets_92 : decode cX8_findSets 92 = .ok (.iconst 1, 1) := by decide +kernel
theorem dX8_findSets_93 : decode cX8_findSets 93 = .ok (.goto 4, 3) := by decide +kernel
theorem dX8_findSets_96 : decode cX8_findSets 96 = .ok (.iconst 0, 1) := by decide +kernel
theorem dX8_findSets_97 : decode cX8_findSets 97 = .ok (.istore_n 3, 1) := by decide +kernel
theorem dX8_findSets_98 : decode cX8_findSets 98 = .ok (.aload_n 0, 1) := by decide +kernel
theorem dX8_findSets_99 : decode cX8_findSets 99 = .ok (.getfield 35, 3) := by decide +kernel
theorem dX8_findSets_102 : decode cX8_findSets 102 = .ok (.iload_n 2, 1) := by decide +kernel
theorem dX8_findSets_103 : decode cX8_findSets 103 = .ok (.iload_n 3, 1) := by decide +kernel
theorem dX8_findSets_104 : decode cX8_findSets 104 = .ok (.ifCond .eq 11, 3) := by decide +kernel
theorem dX8_findSets_107 : decode cX8_findSets 107 = .ok (.aload_n 0, 1) := by decide +kernel
theorem dX8_findSets_108 : decode cX8_findSets 108 = .ok (.iload_n 2, 1) := by decide +kernel
theorem dX8_findSets_109 : decode cX8_findSets 109 = .ok (.invokevirtual 73, 3) := by decide +kernel
theorem dX8_findSets_112 : decode cX8_findSets 112 = .ok (.goto 4, 3) := by decide +kernel
theorem dX8_findSets_115 : decode cX8_findSets 115 = .ok (.iconst (-1), 1) := by decide +kernel
theorem dX8_findSets_116 : decode cX8_findSets 116 = .ok (.iastore, 1) := by decide +kernel
theorem dX8_findSets_117 : decode cX8_findSets 117 = .ok (.iinc 2 1, 3) := by decide +kernel
theorem dX8_findSets_120 : decode cX8_findSets 120 = .ok (.goto (-66), 3) := by decide +kernel
theorem dX8_findSets_123 : decode cX8_findSets 123 = .ok (.aload_n 0, 1) := by decide +kernel
theorem dX8_findSets_124 : decode cX8_findSets 124 = .ok (.getfield 45, 3) := by decide +kernel
theorem dX8_findSets_127 : decode cX8_findSets 127 = .ok (.aload_n 0, 1) := by decide +kernel
theorem dX8_findSets_128 : decode cX8_findSets 128 = .ok (.getfield 38, 3) := by decide +kernel
theorem dX8_findSets_131 : decode cX8_findSets 131 = .ok (.getfield 77, 3) := by decide +kernel
theorem dX8_findSets_134 : decode cX8_findSets 134 = .ok (.invokevirtual 80, 3) := by decide +kernel
theorem dX8_findSets_137 : decode cX8_findSets 137 = .ok (.aload_n 0, 1) := by decide +kernel
theorem dX8_findSets_138 : decode cX8_findSets 138 = .ok (.iconst 0, 1) := by decide +kernel
theorem dX8_findSets_139 : decode cX8_findSets 139 = .ok (.putfield 84, 3) := by decide +kernel
theorem dX8_findSets_142 : decode cX8_findSets 142 = .ok (.aload_n 0, 1) := by decide +kernel
theorem dX8_findSets_143 : decode cX8_findSets 143 = .ok (.iconst (-1), 1) := by decide +kernel
theorem dX8_findSets_144 : decode cX8_findSets 144 = .ok (.putfield 87, 3) := by decide +kernel
theorem dX8_findSets_147 : decode cX8_findSets 147 = .ok (.aload_n 0, 1) := by decide +kernel
theorem dX8_findSets_148 : decode cX8_findSets 148 = .ok (.iconst 0, 1) := by decide +kernel
theorem dX8_findSets_149 : decode cX8_findSets 149 = .ok (.putfield 90, 3) := by decide +kernel
theorem dX8_findSets_152 : decode cX8_findSets 152 = .ok (.aload_n 0, 1) := by decide +kernel
theorem dX8_findSets_153 : decode cX8_findSets 153 = .ok (.iconst 0, 1) := by decide +kernel
theorem dX8_findSets_154 : decode cX8_findSets 154 = .ok (.iconst 0, 1) := by decide +kernel
theorem dX8_findSets_155 : decode cX8_findSets 155 = .ok (.invokevirtual 93, 3) := by decide +kernel
theorem dX8_findSets_158 : decode cX8_findSets 158 = .ok (.return_, 1) := by decide +kernel
set_option maxRecDepth 20000 in
theorem ggX8_goOn_X8_asSeen : GoodIn wsX8_goOn wsX8_asSeen := goodIn_r _ [14, 15, 16, 8, 17, 18, 19, 61, 62, 63, 64, 65, 66, 67, 68, 69, 70, 71, 72, 73, 74, 75, 76, 95, 96, 97, 98, 99, 100, 101, 102] (by decide +kernel) (by decide +kernel)
set_option maxRecDepth 20000 in
theorem gX8_goOn_X8_asSeen : GoodIn wsX8_goOn (wsV RX8 103 RX8 yX8_asSeen wsX8_asSeen) := goodIn_app (goodIn_of _ (by decide +kernel)) ggX8_goOn_X8_asSeen
set_option maxRecDepth 20000 in
theorem ggX8_goOn_X11_has : GoodIn wsX8_goOn wsX11_has := goodIn_r _ [22] (by decide +kernel) (by decide +kernel)
set_option maxRecDepth 20000 in
theorem gX8_goOn_X11_has_n110 : GoodIn wsX8_goOn (wsX11_has) := ggX8_goOn_X11_has
set_option maxRecDepth 20000 in
theorem ggX8_goOn_X10_save : GoodIn wsX8_goOn wsX10_save := goodIn_r _ [27, 28, 29, 30, 31, 32, 33, 34, 95, 96, 97, 98, 99, 100, 101, 102] (by decide +kernel) (by decide +kernel)
set_option maxRecDepth 20000 in
theorem gX8_goOn_X10_save : GoodIn wsX8_goOn (wsV RX8 114 RX10 yX10_save wsX10_save) := goodIn_app (goodIn_of _ (by decide +kernel)) ggX8_goOn_X10_save
set_option maxRecDepth 20000 in
theorem ggX8_goOn_X8_goOn : GoodIn wsX8_goOn wsX8_goOn := goodIn_r _ [0, 1, 2, 3, 4, 5, 6, 7, 8, 9, 10, 11, 12, 13, 14, 15, 16, 17, 18, 19, 20, 21, 22, 23, 24, 25, 26, 27, 28, 29, 30, 31, 32, 33, 34, 35, 36, 37, 38, 39, 40, 41, 42, 43, 44, 45, 46, 47, 48, 49, 50, 51, 52, 53, 54, 55, 56, 57, 58, 59, 60, 61, 62, 63, 64, 65, 66, 67, 68, 69, 70, 71, 72, 73, 74, 75, 76, 77, 78, 79, 80, 81, 82, 83, 84, 85, 86, 87, 88, 89, 90, 91, 92, 93, 94, 95, 96, 97, 98, 99, 100, 101, 102] (by decide +kernel) (by decide +kernel)
set_option maxRecDepth 20000 in
theorem gX8_goOn_X8_goOn : GoodIn wsX8_goOn (wsV RX8 93 RX8 yX8_goOn wsX8_goOn) := goodIn_app (goodIn_of _ (by decide +kernel)) ggX8_goOn_X8_goOn
set_option maxRecDepth 20000 in
theorem ggX8_goOn_X10_load : GoodIn wsX8_goOn wsX10_load := goodIn_r _ [41, 28, 29, 30, 31, 32, 33, 34, 95, 96, 97, 98, 99, 100, 101, 102] (by decide +kernel) (by decide +kernel)
set_option maxRecDepth 20000 in
theorem gX8_goOn_X10_load : GoodIn wsX8_goOn (wsV RX8 118 RX10 yX10_load wsX10_load) := goodIn_app (goodIn_of _ (by decide +kernel)) ggX8_goOn_X10_load
set_option maxRecDepth 20000 in
theorem ggX8_goOn_X8_comesBy : GoodIn wsX8_goOn wsX8_comesBy := goodIn_r _ [45, 1, 46, 47, 8, 48, 49, 20, 21, 22, 50, 51, 52, 26, 53, 54, 55, 34, 33, 56, 57, 28, 58, 59, 60, 61, 62, 63, 64, 65, 66, 67, 68, 69, 70, 71, 72, 73, 74, 75, 76, 77, 78, 79, 80, 81, 82, 83, 84, 85, 86, 87, 88, 89, 90, 91, 92, 93, 94, 95, 96, 97, 98, 99, 100, 101, 102] (by decide +kernel) (by decide +kernel)
set_option maxRecDepth 20000 in
theorem gX8_goOn_X8_comesBy : GoodIn wsX8_goOn (wsV RX8 121 RX8 yX8_comesBy wsX8_comesBy) := goodIn_app (goodIn_of _ (by decide +kernel)) ggX8_goOn_X8_comesBy
theorem dX8_goOn_0 : decode cX8_goOn 0 = .ok (.aload_n 0, 1) := by decide +kernel
theorem dX8_goOn_1 : decode cX8_goOn 1 = .ok (.iload_n 1, 1) := by decide +kernel
theorem dX8_goOn_2 : decode cX8_goOn 2 = .ok (.invokevirtual 103, 3) := by decide +kernel
theorem dX8_goOn_5 : decode cX8_goOn 5 = .ok (.ifCond .ne 4, 3) := by decide +kernel
theorem dX8_goOn_8 : decode cX8_goOn 8 = .ok (.return_, 1) := by decide +kernel
theorem dX8_goOn_9 : decode cX8_goOn 9 = .ok (.iload_n 1, 1) := by decide +kernel
theorem dX8_goOn_10 : decode cX8_goOn 10 = .ok (.aload_n 0, 1) := by decide +kernel
theorem dX8_goOn_11 : decode cX8_goOn 11 = .ok (.getfield 38, 3) := by decide +kernel
theorem dX8_goOn_14 : decode cX8_goOn 14 = .ok (.getfield 60, 3) := by decide +kernel
theorem dX8_goOn_17 : decode cX8_goOn 17 = .ok (.if_icmp .lt 34, 3) := by decide +kernel
theorem dX8_goOn_20 : decode cX8_goOn 20 = .ok (.aload_n 0, 1) := by decide +kernel
theorem dX8_goOn_21 : decode cX8_goOn 21 = .ok (.dup, 1) := by decide +kernel
theorem dX8_goOn_22 : decode cX8_goOn 22 = .ok (.getfield 84, 3) := by decide +kernel
theorem dX8_goOn_25 : decode cX8_goOn 25 = .ok (.iconst 1, 1) := by decide +kernel
theorem dX8_goOn_26 : decode cX8_goOn 26 = .ok (.iadd, 1) := by decide +kernel
theorem dX8_goOn_27 : decode cX8_goOn 27 = .ok (.putfield 84, 3) := by decide +kernel
theorem dX8_goOn_30 : decode cX8_goOn 30 = .ok (.aload_n 0, 1) := by decide +kernel
theorem dX8_goOn_31 : decode cX8_goOn 31 = .ok (.dup, 1) := by decide +kernel
theorem dX8_goOn_32 : decode cX8_goOn 32 = .ok (.getfield 87, 3) := by decide +kernel
theorem dX8_goOn_35 : decode cX8_goOn 35 = .ok (.iload_n 2, 1) := by decide +kernel
theorem dX8_goOn_36 : decode cX8_goOn 36 = .ok (.iand, 1) := by decide +kernel
theorem dX8_goOn_37 : decode cX8_goOn 37 = .ok (.putfield 87, 3) := by decide +kernel
theorem dX8_goOn_40 : decode cX8_goOn 40 = .ok (.aload_n 0, 1) := by decide +kernel
theorem dX8_goOn_41 : decode cX8_goOn 41 = .ok (.dup, 1) := by decide +kernel
theorem dX8_goOn_42 : decode cX8_goOn 42 = .ok (.getfield 90, 3) := by decide +kernel
theorem dX8_goOn_45 : decode cX8_goOn 45 = .ok (.iload_n 2, 1) := by decide +kernel
theorem dX8_goOn_46 : decode cX8_goOn 46 = .ok (.ior, 1) := by decide +kernel
theorem dX8_goOn_47 : decode cX8_goOn 47 = .ok (.putfield 90, 3) := by decide +kernel
theorem dX8_goOn_50 : decode cX8_goOn 50 = .ok (.return_, 1) := by decide +kernel
theorem dX8_goOn_51 : decode cX8_goOn 51 = .ok (.aload_n 0, 1) := by decide +kernel
theorem dX8_goOn_52 : decode cX8_goOn 52 = .ok (.getfield 27, 3) := by decide +kernel
theorem dX8_goOn_55 : decode cX8_goOn 55 = .ok (.iload_n 1, 1) := by decide +kernel
theorem dX8_goOn_56 : decode cX8_goOn 56 = .ok (.iaload, 1) := by decide +kernel
theorem dX8_goOn_57 : decode cX8_goOn 57 = .ok (.istore_n 3, 1) := by decide +kernel
theorem dX8_goOn_58 : decode cX8_goOn 58 = .ok (.aload_n 0, 1) := by decide +kernel
theorem dX8_goOn_59 : decode cX8_goOn 59 = .ok (.getfield 38, 3) := by decide +kernel
theorem dX8_goOn_62 : decode cX8_goOn 62 = .ok (.getfield 107, 3) := by decide +kernel
theorem dX8_goOn_65 : decode cX8_goOn 65 = .ok (.iload_n 3, 1) := by decide +kernel
theorem dX8_goOn_66 : decode cX8_goOn 66 = .ok (.invokestatic 110, 3) := by decide +kernel
theorem dX8_goOn_69 : decode cX8_goOn 69 = .ok (.ifCond .eq 35, 3) := by decide +kernel
theorem dX8_goOn_72 : decode cX8_goOn 72 = .ok (.aload_n 0, 1) := by decide +kernel
theorem dX8_goOn_73 : decode cX8_goOn 73 = .ok (.getfield 45, 3) := by decide +kernel
theorem dX8_goOn_76 : decode cX8_goOn 76 = .ok (.aload_n 0, 1) := by decide +kernel
theorem dX8_goOn_77 : decode cX8_goOn 77 = .ok (.getfield 32, 3) := by decide +kernel
theorem dX8_goOn_80 : decode cX8_goOn 80 = .ok (.iload_n 1, 1) := by decide +kernel
theorem dX8_goOn_81 : decode cX8_goOn 81 = .ok (.invokevirtual 114, 3) := by decide +kernel
theorem dX8_goOn_84 : decode cX8_goOn 84 = .ok (.aload_n 0, 1) := by decide +kernel
theorem dX8_goOn_85 : decode cX8_goOn 85 = .ok (.iload_n 1, 1) := by decide +kernel
theorem dX8_goOn_86 : decode cX8_goOn 86 = .ok (.iconst 1, 1) := by decide +kernel
theorem dX8_goOn_87 : decode cX8_goOn 87 = .ok (.iadd, 1) := by decide +kernel
theorem dX8_goOn_88 : decode cX8_goOn 88 = .ok (.iload_n 2, 1) := by decide +kernel
theorem dX8_goOn_89 : decode cX8_goOn 89 = .ok (.invokevirtual 93, 3) := by decide +kernel
theorem dX8_goOn_92 : decode cX8_goOn 92 = .ok (.aload_n 0, 1) := by decide +kernel
theorem dX8_goOn_93 : decode cX8_goOn 93 = .ok (.getfield 45, 3) := by decide +kernel
theorem dX8_goOn_96 : decode cX8_goOn 96 = .ok (.aload_n 0, 1) := by decide +kernel
theorem dX8_goOn_97 : decode cX8_goOn 97 = .ok (.getfield 32, 3) := by decide +kernel
theorem dX8_goOn_100 : decode cX8_goOn 100 = .ok (.iload_n 1, 1) := by decide +kernel
theorem dX8_goOn_101 : decode cX8_goOn 101 = .ok (.invokevirtual 118, 3) := by decide +kernel
theorem dX8_goOn_104 : decode cX8_goOn 104 = .ok (.aload_n 0, 1) := by decide +kernel
theorem dX8_goOn_105 : decode cX8_goOn 105 = .ok (.iload_n 3, 1) := by decide +kernel
theorem dX8_goOn_106 : decode cX8_goOn 106 = .ok (.invokevirtual 121, 3) := by decide +kernel
theorem dX8_goOn_109 : decode cX8_goOn 109 = .ok (.aload_n 0, 1) := by decide +kernel
theorem dX8_goOn_110 : decode cX8_goOn 110 = .ok (.iload_n 1, 1) := by decide +kernel
theorem dX8_goOn_111 : decode cX8_goOn 111 = .ok (.iconst 1, 1) := by decide +kernel
theorem dX8_goOn_112 : decode cX8_goOn 112 = .ok (.iadd, 1) := by decide +kernel
theorem dX8_goOn_113 : decode cX8_goOn 113 = .ok (.iload_n 2, 1) := by decide +kernel
theorem dX8_goOn_114 : decode cX8_goOn 114 = .ok (.aload_n 0, 1) := by decide +kernel
theorem dX8_goOn_115 : decode cX8_goOn 115 = .ok (.getfield 38, 3) := by decide +kernel
theorem dX8_goOn_118 : decode cX8_goOn 118 = .ok (.getfield 107, 3) := by decide +kernel
theorem dX8_goOn_121 : decode cX8_goOn 121 = .ok (.iconst 1, 1) := by decide +kernel
theorem dX8_goOn_122 : decode cX8_goOn 122 = .ok (.iload_n 3, 1) := by decide +kernel
theorem dX8_goOn_123 : decode cX8_goOn 123 = .ok (.ishl, 1) := by decide +kernel
theorem dX8_goOn_124 : decode cX8_goOn 124 = .ok (.iand, 1) := by decide +kernel
theorem dX8_goOn_125 : decode cX8_goOn 125 = .ok (.ior, 1) := by decide +kernel
theorem dX8_goOn_126 : decode cX8_goOn 126 = .ok (.invokevirtual 93, 3) := by decide +kernel
theorem dX8_goOn_129 : decode cX8_goOn 129 = .ok (.return_, 1) := by decide +kernel
