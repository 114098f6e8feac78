theorem dX12_sign_0 : decode cX12_sign 0 = .ok (.iload_n 1, 1) := by decide +kernel
theorem dX12_sign_1 : decode cX12_sign 1 = .ok (.aload_n 0, 1) := by decide +kernel
theorem dX12_sign_2 : decode cX12_sign 2 = .ok (.getfield 182, 3) := by decide +kernel
theorem dX12_sign_5 : decode cX12_sign 5 = .ok (.if_icmp .ge 16, 3) := by decide +kernel
theorem dX12_sign_8 : decode cX12_sign 8 = .ok (.aload_n 0, 1) := by decide +kernel
theorem dX12_sign_9 : decode cX12_sign 9 = .ok (.getfield 13, 3) := by decide +kernel
theorem dX12_sign_12 : decode cX12_sign 12 = .ok (.iload_n 1, 1) := by decide +kernel
theorem dX12_sign_13 : decode cX12_sign 13 = .ok (.baload, 1) := by decide +kernel
theorem dX12_sign_14 : decode cX12_sign 14 = .ok (.sipush 255, 3) := by decide +kernel
theorem dX12_sign_17 : decode cX12_sign 17 = .ok (.iand, 1) := by decide +kernel
theorem dX12_sign_18 : decode cX12_sign 18 = .ok (.goto 4, 3) := by decide +kernel
theorem dX12_sign_21 : decode cX12_sign 21 = .ok (.iconst 0, 1) := by decide +kernel
theorem dX12_sign_22 : decode cX12_sign 22 = .ok (.ireturn, 1) := by decide +kernel
theorem dX12_isGood_0 : decode cX12_isGood 0 = .ok (.aload_n 0, 1) := by decide +kernel
theorem dX12_isGood_1 : decode cX12_isGood 1 = .ok (.getfield 185, 3) := by decide +kernel
theorem dX12_isGood_4 : decode cX12_isGood 4 = .ok (.ifCond .ne 7, 3) := by decide +kernel
theorem dX12_isGood_7 : decode cX12_isGood 7 = .ok (.iconst 1, 1) := by decide +kernel
theorem dX12_isGood_8 : decode cX12_isGood 8 = .ok (.goto 4, 3) := by decide +kernel
theorem dX12_isGood_11 : decode cX12_isGood 11 = .ok (.iconst 0, 1) := by decide +kernel
theorem dX12_isGood_12 : decode cX12_isGood 12 = .ok (.ireturn, 1) := by decide +kernel
set_option maxRecDepth 20000 in
theorem ggX12_goOn_X12_sign : GoodIn wsX12_goOn wsX12_sign := goodIn_r _ [11, 3, 12, 40, 41, 42, 43, 44, 45, 46, 47, 48, 49, 50, 51, 52, 53, 54, 55, 56, 57, 58, 59, 60, 61, 62, 63, 64, 65, 66, 67, 68, 69, 70, 71, 72, 73, 74, 75, 76, 77, 78, 79, 80, 81, 82, 83, 84, 85, 86, 87, 88, 89, 90, 91, 92, 93, 94, 95, 96, 97, 98, 99, 100, 101, 102, 103, 104, 105, 106, 107, 108, 109, 110, 111, 112, 113] (by decide +kernel) (by decide +kernel)
set_option maxRecDepth 20000 in
theorem gX12_goOn_X12_sign : GoodIn wsX12_goOn (wsV RX12 224 RX12 yX12_sign wsX12_sign) := goodIn_app (goodIn_of _ (by decide +kernel)) ggX12_goOn_X12_sign
set_option maxRecDepth 20000 in
theorem ggX12_goOn_X12_isLetter : GoodIn wsX12_goOn wsX12_isLetter := goodIn_r _ [15] (by decide +kernel) (by decide +kernel)
set_option maxRecDepth 20000 in
theorem gX12_goOn_X12_isLetter : GoodIn wsX12_goOn (va_wsS RX12 231 yX12_isLetter wsX12_isLetter) := goodIn_app (goodIn_of _ (by decide +kernel)) ggX12_goOn_X12_isLetter
set_option maxRecDepth 20000 in
theorem ggX12_goOn_X12_isKept : GoodIn wsX12_goOn wsX12_isKept := goodIn_r _ [18, 19, 20, 21, 22, 23, 24, 25, 26, 27, 28, 29, 30, 31, 32, 33] (by decide +kernel) (by decide +kernel)
set_option maxRecDepth 20000 in
theorem gX12_goOn_X12_isKept : GoodIn wsX12_goOn (va_wsS RX12 239 yX12_isKept wsX12_isKept) := goodIn_app (goodIn_of _ (by decide +kernel)) ggX12_goOn_X12_isKept
set_option maxRecDepth 20000 in
theorem ggX12_goOn_X12_isDigit : GoodIn wsX12_goOn wsX12_isDigit := goodIn_r _ [36] (by decide +kernel) (by decide +kernel)
set_option maxRecDepth 20000 in
theorem gX12_goOn_X12_isDigit : GoodIn wsX12_goOn (va_wsS RX12 243 yX12_isDigit wsX12_isDigit) := goodIn_app (goodIn_of _ (by decide +kernel)) ggX12_goOn_X12_isDigit
set_option maxRecDepth 20000 in
theorem ggX12_goOn_X12_isSign : GoodIn wsX12_goOn wsX12_isSign := goodIn_r _ [39] (by decide +kernel) (by decide +kernel)
set_option maxRecDepth 20000 in
theorem gX12_goOn_X12_isSign : GoodIn wsX12_goOn (va_wsS RX12 249 yX12_isSign wsX12_isSign) := goodIn_app (goodIn_of _ (by decide +kernel)) ggX12_goOn_X12_isSign
theorem dX12_goOn_0 : decode cX12_goOn 0 = .ok (.aload_n 0, 1) := by decide +kernel
theorem dX12_goOn_1 : decode cX12_goOn 1 = .ok (.aload_n 0, 1) := by decide +kernel
theorem dX12_goOn_2 : decode cX12_goOn 2 = .ok (.getfield 218, 3) := by decide +kernel
theorem dX12_goOn_5 : decode cX12_goOn 5 = .ok (.putfield 221, 3) := by decide +kernel
theorem dX12_goOn_8 : decode cX12_goOn 8 = .ok (.aload_n 0, 1) := by decide +kernel
theorem dX12_goOn_9 : decode cX12_goOn 9 = .ok (.getfield 221, 3) := by decide +kernel
theorem dX12_goOn_12 : decode cX12_goOn 12 = .ok (.aload_n 0, 1) := by decide +kernel
theorem dX12_goOn_13 : decode cX12_goOn 13 = .ok (.getfield 182, 3) := by decide +kernel
theorem dX12_goOn_16 : decode cX12_goOn 16 = .ok (.if_icmp .ge 42, 3) := by decide +kernel
theorem dX12_goOn_19 : decode cX12_goOn 19 = .ok (.aload_n 0, 1) := by decide +kernel
theorem dX12_goOn_20 : decode cX12_goOn 20 = .ok (.aload_n 0, 1) := by decide +kernel
theorem dX12_goOn_21 : decode cX12_goOn 21 = .ok (.getfield 221, 3) := by decide +kernel
theorem dX12_goOn_24 : decode cX12_goOn 24 = .ok (.invokevirtual 224, 3) := by decide +kernel
theorem dX12_goOn_27 : decode cX12_goOn 27 = .ok (.bipush 32, 2) := by decide +kernel
theorem dX12_goOn_29 : decode cX12_goOn 29 = .ok (.if_icmp .eq 16, 3) := by decide +kernel
theorem dX12_goOn_32 : decode cX12_goOn 32 = .ok (.aload_n 0, 1) := by decide +kernel
theorem dX12_goOn_33 : decode cX12_goOn 33 = .ok (.aload_n 0, 1) := by decide +kernel
theorem dX12_goOn_34 : decode cX12_goOn 34 = .ok (.getfield 221, 3) := by decide +kernel
theorem dX12_goOn_37 : decode cX12_goOn 37 = .ok (.invokevirtual 224, 3) := by decide +kernel
theorem dX12_goOn_40 : decode cX12_goOn 40 = .ok (.bipush 10, 2) := by decide +kernel
theorem dX12_goOn_42 : decode cX12_goOn 42 = .ok (.if_icmp .ne 16, 3) := by decide +kernel
theorem dX12_goOn_45 : decode cX12_goOn 45 = .ok (.aload_n 0, 1) := by decide +kernel
theorem dX12_goOn_46 : decode cX12_goOn 46 = .ok (.dup, 1) := by decide +kernel
theorem dX12_goOn_47 : decode cX12_goOn 47 = .ok (.getfield 221, 3) := by decide +kernel
theorem dX12_goOn_50 : decode cX12_goOn 50 = .ok (.iconst 1, 1) := by decide +kernel
theorem dX12_goOn_51 : decode cX12_goOn 51 = .ok (.iadd, 1) := by decide +kernel
theorem dX12_goOn_52 : decode cX12_goOn 52 = .ok (.putfield 221, 3) := by decide +kernel
theorem dX12_goOn_55 : decode cX12_goOn 55 = .ok (.goto (-47), 3) := by decide +kernel
theorem dX12_goOn_58 : decode cX12_goOn 58 = .ok (.aload_n 0, 1) := by decide +kernel
theorem dX12_goOn_59 : decode cX12_goOn 59 = .ok (.aload_n 0, 1) := by decide +kernel
theorem dX12_goOn_60 : decode cX12_goOn 60 = .ok (.getfield 221, 3) := by decide +kernel
theorem dX12_goOn_63 : decode cX12_goOn 63 = .ok (.invokevirtual 224, 3) := by decide +kernel
theorem dX12_goOn_66 : decode cX12_goOn 66 = .ok (.istore_n 1, 1) := by decide +kernel
theorem dX12_goOn_67 : decode cX12_goOn 67 = .ok (.aload_n 0, 1) := by decide +kernel
theorem dX12_goOn_68 : decode cX12_goOn 68 = .ok (.aload_n 0, 1) := by decide +kernel
theorem dX12_goOn_69 : decode cX12_goOn 69 = .ok (.getfield 221, 3) := by decide +kernel
theorem dX12_goOn_72 : decode cX12_goOn 72 = .ok (.iconst 1, 1) := by decide +kernel
theorem dX12_goOn_73 : decode cX12_goOn 73 = .ok (.iadd, 1) := by decide +kernel
theorem dX12_goOn_74 : decode cX12_goOn 74 = .ok (.putfield 218, 3) := by decide +kernel
theorem dX12_goOn_77 : decode cX12_goOn 77 = .ok (.aload_n 0, 1) := by decide +kernel
theorem dX12_goOn_78 : decode cX12_goOn 78 = .ok (.getfield 221, 3) := by decide +kernel
theorem dX12_goOn_81 : decode cX12_goOn 81 = .ok (.aload_n 0, 1) := by decide +kernel
theorem dX12_goOn_82 : decode cX12_goOn 82 = .ok (.getfield 182, 3) := by decide +kernel
theorem dX12_goOn_85 : decode cX12_goOn 85 = .ok (.if_icmp .lt 27, 3) := by decide +kernel
theorem dX12_goOn_88 : decode cX12_goOn 88 = .ok (.aload_n 0, 1) := by decide +kernel
theorem dX12_goOn_89 : decode cX12_goOn 89 = .ok (.iconst 0, 1) := by decide +kernel
theorem dX12_goOn_90 : decode cX12_goOn 90 = .ok (.putfield 228, 3) := by decide +kernel
theorem dX12_goOn_93 : decode cX12_goOn 93 = .ok (.aload_n 0, 1) := by decide +kernel
theorem dX12_goOn_94 : decode cX12_goOn 94 = .ok (.aload_n 0, 1) := by decide +kernel
theorem dX12_goOn_95 : decode cX12_goOn 95 = .ok (.getfield 182, 3) := by decide +kernel
theorem dX12_goOn_98 : decode cX12_goOn 98 = .ok (.putfield 221, 3) := by decide +kernel
theorem dX12_goOn_101 : decode cX12_goOn 101 = .ok (.aload_n 0, 1) := by decide +kernel
theorem dX12_goOn_102 : decode cX12_goOn 102 = .ok (.aload_n 0, 1) := by decide +kernel
theorem dX12_goOn_103 : decode cX12_goOn 103 = .ok (.getfield 182, 3) := by decide +kernel
theorem dX12_goOn_106 : decode cX12_goOn 106 = .ok (.putfield 218, 3) := by decide +kernel
theorem dX12_goOn_109 : decode cX12_goOn 109 = .ok (.goto 268, 3) := by decide +kernel
theorem dX12_goOn_112 : decode cX12_goOn 112 = .ok (.iload_n 1, 1) := by decide +kernel
theorem dX12_goOn_113 : decode cX12_goOn 113 = .ok (.invokestatic 231, 3) := by decide +kernel
theorem dX12_goOn_116 : decode cX12_goOn 116 = .ok (.ifCond .eq 123, 3) := by decide +kernel
theorem dX12_goOn_119 : decode cX12_goOn 119 = .ok (.aload_n 0, 1) := by decide +kernel
theorem dX12_goOn_120 : decode cX12_goOn 120 = .ok (.aload_n 0, 1) := by decide +kernel
theorem dX12_goOn_121 : decode cX12_goOn 121 = .ok (.getfield 218, 3) := by decide +kernel
theorem dX12_goOn_124 : decode cX12_goOn 124 = .ok (.invokevirtual 224, 3) := by decide +kernel
theorem dX12_goOn_127 : decode cX12_goOn 127 = .ok (.invokestatic 231, 3) := by decide +kernel
theorem dX12_goOn_130 : decode cX12_goOn 130 = .ok (.ifCond .eq 16, 3) := by decide +kernel
theorem dX12_goOn_133 : decode cX12_goOn 133 = .ok (.aload_n 0, 1) := by decide +kernel
theorem dX12_goOn_134 : decode cX12_goOn 134 = .ok (.dup, 1) := by decide +kernel
theorem dX12_goOn_135 : decode cX12_goOn 135 = .ok (.getfield 218, 3) := by decide +kernel
theorem dX12_goOn_138 : decode cX12_goOn 138 = .ok (.iconst 1, 1) := by decide +kernel
theorem dX12_goOn_139 : decode cX12_goOn 139 = .ok (.iadd, 1) := by decide +kernel
theorem dX12_goOn_140 : decode cX12_goOn 140 = .ok (.putfield 218, 3) := by decide +kernel
theorem dX12_goOn_143 : decode cX12_goOn 143 = .ok (.goto (-24), 3) := by decide +kernel
theorem dX12_goOn_146 : decode cX12_goOn 146 = .ok (.aload_n 0, 1) := by decide +kernel
theorem dX12_goOn_147 : decode cX12_goOn 147 = .ok (.lconst 0, 1) := by decide +kernel
theorem dX12_goOn_148 : decode cX12_goOn 148 = .ok (.putfield 235, 3) := by decide +kernel
theorem dX12_goOn_151 : decode cX12_goOn 151 = .ok (.aload_n 0, 1) := by decide +kernel
theorem dX12_goOn_152 : decode cX12_goOn 152 = .ok (.getfield 221, 3) := by decide +kernel
theorem dX12_goOn_155 : decode cX12_goOn 155 = .ok (.istore_n 2, 1) := by decide +kernel
theorem dX12_goOn_156 : decode cX12_goOn 156 = .ok (.iload_n 2, 1) := by decide +kernel
theorem dX12_goOn_157 : decode cX12_goOn 157 = .ok (.aload_n 0, 1) := by decide +kernel
theorem dX12_goOn_158 : decode cX12_goOn 158 = .ok (.getfield 218, 3) := by decide +kernel
theorem dX12_goOn_161 : decode cX12_goOn 161 = .ok (.if_icmp .ge 38, 3) := by decide +kernel
theorem dX12_goOn_164 : decode cX12_goOn 164 = .ok (.iload_n 2, 1) := by decide +kernel
theorem dX12_goOn_165 : decode cX12_goOn 165 = .ok (.aload_n 0, 1) := by decide +kernel
theorem dX12_goOn_166 : decode cX12_goOn 166 = .ok (.getfield 221, 3) := by decide +kernel
theorem dX12_goOn_169 : decode cX12_goOn 169 = .ok (.bipush 8, 2) := by decide +kernel
theorem dX12_goOn_171 : decode cX12_goOn 171 = .ok (.iadd, 1) := by decide +kernel
theorem dX12_goOn_172 : decode cX12_goOn 172 = .ok (.if_icmp .ge 27, 3) := by decide +kernel
theorem dX12_goOn_175 : decode cX12_goOn 175 = .ok (.aload_n 0, 1) := by decide +kernel
theorem dX12_goOn_176 : decode cX12_goOn 176 = .ok (.aload_n 0, 1) := by decide +kernel
theorem dX12_goOn_177 : decode cX12_goOn 177 = .ok (.getfield 235, 3) := by decide +kernel
theorem dX12_goOn_180 : decode cX12_goOn 180 = .ok (.bipush 8, 2) := by decide +kernel
theorem dX12_goOn_182 : decode cX12_goOn 182 = .ok (.lshl, 1) := by decide +kernel
theorem dX12_goOn_183 : decode cX12_goOn 183 = .ok (.aload_n 0, 1) := by decide +kernel
theorem dX12_goOn_184 : decode cX12_goOn 184 = .ok (.iload_n 2, 1) := by decide +kernel
theorem dX12_goOn_185 : decode cX12_goOn 185 = .ok (.invokevirtual 224, 3) := by decide +kernel
theorem dX12_goOn_188 : decode cX12_goOn 188 = .ok (.i2l, 1) := by decide +kernel
theorem dX12_goOn_189 : decode cX12_goOn 189 = .ok (.lor, 1) := by decide +kernel
theorem dX12_goOn_190 : decode cX12_goOn 190 = .ok (.putfield 235, 3) := by decide +kernel
theorem dX12_goOn_193 : decode cX12_goOn 193 = .ok (.iinc 2 1, 3) := by decide +kernel
theorem dX12_goOn_196 : decode cX12_goOn 196 = .ok (.goto (-40), 3) := by decide +kernel
theorem dX12_goOn_199 : decode cX12_goOn 199 = .ok (.aload_n 0, 1) := by decide +kernel
theorem dX12_goOn_200 : decode cX12_goOn 200 = .ok (.aload_n 0, 1) := by decide +kernel
theorem dX12_goOn_201 : decode cX12_goOn 201 = .ok (.getfield 218, 3) := by decide +kernel
theorem dX12_goOn_204 : decode cX12_goOn 204 = .ok (.aload_n 0, 1) := by decide +kernel
theorem dX12_goOn_205 : decode cX12_goOn 205 = .ok (.getfield 221, 3) := by decide +kernel
theorem dX12_goOn_208 : decode cX12_goOn 208 = .ok (.isub, 1) := by decide +kernel
theorem dX12_goOn_209 : decode cX12_goOn 209 = .ok (.bipush 8, 2) := by decide +kernel
theorem dX12_goOn_211 : decode cX12_goOn 211 = .ok (.if_icmp .le 7, 3) := by decide +kernel
theorem dX12_goOn_214 : decode cX12_goOn 214 = .ok (.iconst 1, 1) := by decide +kernel
theorem dX12_goOn_215 : decode cX12_goOn 215 = .ok (.goto 18, 3) := by decide +kernel
theorem dX12_goOn_218 : decode cX12_goOn 218 = .ok (.aload_n 0, 1) := by decide +kernel
theorem dX12_goOn_219 : decode cX12_goOn 219 = .ok (.getfield 235, 3) := by decide +kernel
theorem dX12_goOn_222 : decode cX12_goOn 222 = .ok (.invokestatic 239, 3) := by decide +kernel
theorem dX12_goOn_225 : decode cX12_goOn 225 = .ok (.ifCond .eq 7, 3) := by decide +kernel
theorem dX12_goOn_228 : decode cX12_goOn 228 = .ok (.iconst 3, 1) := by decide +kernel
theorem dX12_goOn_229 : decode cX12_goOn 229 = .ok (.goto 4, 3) := by decide +kernel
theorem dX12_goOn_232 : decode cX12_goOn 232 = .ok (.iconst 2, 1) := by decide +kernel
theorem dX12_goOn_233 : decode cX12_goOn 233 = .ok (.putfield 228, 3) := by decide +kernel
theorem dX12_goOn_236 : decode cX12_goOn 236 = .ok (.goto 141, 3) := by decide +kernel
theorem dX12_goOn_239 : decode cX12_goOn 239 = .ok (.iload_n 1, 1) := by decide +kernel
theorem dX12_goOn_240 : decode cX12_goOn 240 = .ok (.invokestatic 243, 3) := by decide +kernel
theorem dX12_goOn_243 : decode cX12_goOn 243 = .ok (.ifCond .eq 118, 3) := by decide +kernel
theorem dX12_goOn_246 : decode cX12_goOn 246 = .ok (.aload_n 0, 1) := by decide +kernel
theorem dX12_goOn_247 : decode cX12_goOn 247 = .ok (.iconst 0, 1) := by decide +kernel
theorem dX12_goOn_248 : decode cX12_goOn 248 = .ok (.putfield 246, 3) := by decide +kernel
theorem dX12_goOn_251 : decode cX12_goOn 251 = .ok (.aload_n 0, 1) := by decide +kernel
theorem dX12_goOn_252 : decode cX12_goOn 252 = .ok (.aload_n 0, 1) := by decide +kernel
theorem dX12_goOn_253 : decode cX12_goOn 253 = .ok (.getfield 221, 3) := by decide +kernel
theorem dX12_goOn_256 : decode cX12_goOn 256 = .ok (.putfield 218, 3) := by decide +kernel
theorem dX12_goOn_259 : decode cX12_goOn 259 = .ok (.aload_n 0, 1) := by decide +kernel
theorem dX12_goOn_260 : decode cX12_goOn 260 = .ok (.aload_n 0, 1) := by decide +kernel
theorem dX12_goOn_261 : decode cX12_goOn 261 = .ok (.getfield 218, 3) := by decide +kernel
theorem dX12_goOn_264 : decode cX12_goOn 264 = .ok (.invokevirtual 224, 3) := by decide +kernel
theorem dX12_goOn_267 : decode cX12_goOn 267 = .ok (.invokestatic 243, 3) := by decide +kernel
theorem dX12_goOn_270 : decode cX12_goOn 270 = .ok (.ifCond .eq 52, 3) := by decide +kernel
theorem dX12_goOn_273 : decode cX12_goOn 273 = .ok (.aload_n 0, 1) := by decide +kernel
theorem dX12_goOn_274 : decode cX12_goOn 274 = .ok (.getfield 218, 3) := by decide +kernel
theorem dX12_goOn_277 : decode cX12_goOn 277 = .ok (.aload_n 0, 1) := by decide +kernel
theorem dX12_goOn_278 : decode cX12_goOn 278 = .ok (.getfield 221, 3) := by decide +kernel
theorem dX12_goOn_281 : decode cX12_goOn 281 = .ok (.isub, 1) := by decide +kernel
theorem dX12_goOn_282 : decode cX12_goOn 282 = .ok (.iconst 4, 1) := by decide +kernel
theorem dX12_goOn_283 : decode cX12_goOn 283 = .ok (.if_icmp .ge 26, 3) := by decide +kernel
theorem dX12_goOn_286 : decode cX12_goOn 286 = .ok (.aload_n 0, 1) := by decide +kernel
theorem dX12_goOn_287 : decode cX12_goOn 287 = .ok (.bipush 10, 2) := by decide +kernel
theorem dX12_goOn_289 : decode cX12_goOn 289 = .ok (.aload_n 0, 1) := by decide +kernel
theorem dX12_goOn_290 : decode cX12_goOn 290 = .ok (.getfield 246, 3) := by decide +kernel
theorem dX12_goOn_293 : decode cX12_goOn 293 = .ok (.imul, 1) := by decide +kernel
theorem dX12_goOn_294 : decode cX12_goOn 294 = .ok (.aload_n 0, 1) := by decide +kernel
theorem dX12_goOn_295 : decode cX12_goOn 295 = .ok (.aload_n 0, 1) := by decide +kernel
theorem dX12_goOn_296 : decode cX12_goOn 296 = .ok (.getfield 218, 3) := by decide +kernel
theorem dX12_goOn_299 : decode cX12_goOn 299 = .ok (.invokevirtual 224, 3) := by decide +kernel
theorem dX12_goOn_302 : decode cX12_goOn 302 = .ok (.iadd, 1) := by decide +kernel
theorem dX12_goOn_303 : decode cX12_goOn 303 = .ok (.bipush 48, 2) := by decide +kernel
theorem dX12_goOn_305 : decode cX12_goOn 305 = .ok (.isub, 1) := by decide +kernel
theorem dX12_goOn_306 : decode cX12_goOn 306 = .ok (.putfield 246, 3) := by decide +kernel
theorem dX12_goOn_309 : decode cX12_goOn 309 = .ok (.aload_n 0, 1) := by decide +kernel
theorem dX12_goOn_310 : decode cX12_goOn 310 = .ok (.dup, 1) := by decide +kernel
theorem dX12_goOn_311 : decode cX12_goOn 311 = .ok (.getfield 218, 3) := by decide +kernel
theorem dX12_goOn_314 : decode cX12_goOn 314 = .ok (.iconst 1, 1) := by decide +kernel
theorem dX12_goOn_315 : decode cX12_goOn 315 = .ok (.iadd, 1) := by decide +kernel
theorem dX12_goOn_316 : decode cX12_goOn 316 = .ok (.putfield 218, 3) := by decide +kernel
theorem dX12_goOn_319 : decode cX12_goOn 319 = .ok (.goto (-60), 3) := by decide +kernel
theorem dX12_goOn_322 : decode cX12_goOn 322 = .ok (.aload_n 0, 1) := by decide +kernel
theorem dX12_goOn_323 : decode cX12_goOn 323 = .ok (.aload_n 0, 1) := by decide +kernel
theorem dX12_goOn_324 : decode cX12_goOn 324 = .ok (.getfield 218, 3) := by decide +kernel
theorem dX12_goOn_327 : decode cX12_goOn 327 = .ok (.aload_n 0, 1) := by decide +kernel
theorem dX12_goOn_328 : decode cX12_goOn 328 = .ok (.getfield 221, 3) := by decide +kernel
theorem dX12_goOn_331 : decode cX12_goOn 331 = .ok (.isub, 1) := by decide +kernel
theorem dX12_goOn_332 : decode cX12_goOn 332 = .ok (.iconst 4, 1) := by decide +kernel
theorem dX12_goOn_333 : decode cX12_goOn 333 = .ok (.if_icmp .gt 17, 3) := by decide +kernel
theorem dX12_goOn_336 : decode cX12_goOn 336 = .ok (.aload_n 0, 1) := by decide +kernel
theorem dX12_goOn_337 : decode cX12_goOn 337 = .ok (.aload_n 0, 1) := by decide +kernel
theorem dX12_goOn_338 : decode cX12_goOn 338 = .ok (.getfield 218, 3) := by decide +kernel
theorem dX12_goOn_341 : decode cX12_goOn 341 = .ok (.invokevirtual 224, 3) := by decide +kernel
theorem dX12_goOn_344 : decode cX12_goOn 344 = .ok (.invokestatic 231, 3) := by decide +kernel
theorem dX12_goOn_347 : decode cX12_goOn 347 = .ok (.ifCond .eq 7, 3) := by decide +kernel
theorem dX12_goOn_350 : decode cX12_goOn 350 = .ok (.iconst 1, 1) := by decide +kernel
theorem dX12_goOn_351 : decode cX12_goOn 351 = .ok (.goto 4, 3) := by decide +kernel
theorem dX12_goOn_354 : decode cX12_goOn 354 = .ok (.iconst 4, 1) := by decide +kernel
theorem dX12_goOn_355 : decode cX12_goOn 355 = .ok (.putfield 228, 3) := by decide +kernel
theorem dX12_goOn_358 : decode cX12_goOn 358 = .ok (.goto 19, 3) := by decide +kernel
theorem dX12_goOn_361 : decode cX12_goOn 361 = .ok (.aload_n 0, 1) := by decide +kernel
theorem dX12_goOn_362 : decode cX12_goOn 362 = .ok (.iload_n 1, 1) := by decide +kernel
theorem dX12_goOn_363 : decode cX12_goOn 363 = .ok (.invokestatic 249, 3) := by decide +kernel
theorem dX12_goOn_366 : decode cX12_goOn 366 = .ok (.ifCond .eq 7, 3) := by decide +kernel
theorem dX12_goOn_369 : decode cX12_goOn 369 = .ok (.iconst 5, 1) := by decide +kernel
theorem dX12_goOn_370 : decode cX12_goOn 370 = .ok (.goto 4, 3) := by decide +kernel
theorem dX12_goOn_373 : decode cX12_goOn 373 = .ok (.iconst 1, 1) := by decide +kernel
theorem dX12_goOn_374 : decode cX12_goOn 374 = .ok (.putfield 228, 3) := by decide +kernel
theorem dX12_goOn_377 : decode cX12_goOn 377 = .ok (.return_, 1) := by decide +kernel
theorem dX12_clearBank_0 : decode cX12_clearBank 0 = .ok (.aload_n 0, 1) := by decide +kernel
theorem dX12_clearBank_1 : decode cX12_clearBank 1 = .ok (.getfield 20, 3) := by decide +kernel
theorem dX12_clearBank_4 : decode cX12_clearBank 4 = .ok (.aload_n 0, 1) := by decide +kernel
theorem dX12_clearBank_5 : decode cX12_clearBank 5 = .ok (.getfield 277, 3) := by decide +kernel
theorem dX12_clearBank_8 : decode cX12_clearBank 8 = .ok (.iconst 0, 1) := by decide +kernel
theorem dX12_clearBank_9 : decode cX12_clearBank 9 = .ok (.iastore, 1) := by decide +kernel
theorem dX12_clearBank_10 : decode cX12_clearBank 10 = .ok (.aload_n 0, 1) := by decide +kernel
theorem dX12_clearBank_11 : decode cX12_clearBank 11 = .ok (.getfield 24, 3) := by decide +kernel
theorem dX12_clearBank_14 : decode cX12_clearBank 14 = .ok (.aload_n 0, 1) := by decide +kernel
theorem dX12_clearBank_15 : decode cX12_clearBank 15 = .ok (.getfield 277, 3) := by decide +kernel
theorem dX12_clearBank_18 : decode cX12_clearBank 18 = .ok (.iconst 0, 1) := by decide +kernel
theorem dX12_clearBank_19 : decode cX12_clearBank 19 = .ok (.iastore, 1) := by decide +kernel
theorem dX12_clearBank_20 : decode cX12_clearBank 20 = .ok (.aload_n 0, 1) := by decide +kernel
theorem dX12_clearBank_21 : decode cX12_clearBank 21 = .ok (.getfield 27, 3) := by decide +kernel
theorem dX12_clearBank_24 : decode cX12_clearBank 24 = .ok (.aload_n 0, 1) := by decide +kernel
theorem dX12_clearBank_25 : decode cX12_clearBank 25 = .ok (.getfield 277, 3) := by decide +kernel
theorem dX12_clearBank_28 : decode cX12_clearBank 28 = .ok (.iconst 0, 1) := by decide +kernel
theorem dX12_clearBank_29 : decode cX12_clearBank 29 = .ok (.iastore, 1) := by decide +kernel
theorem dX12_clearBank_30 : decode cX12_clearBank 30 = .ok (.aload_n 0, 1) := by decide +kernel
theorem dX12_clearBank_31 : decode cX12_clearBank 31 = .ok (.getfield 30, 3) := by decide +kernel
theorem dX12_clearBank_34 : decode cX12_clearBank 34 = .ok (.aload_n 0, 1) := by decide +kernel
theorem dX12_clearBank_35 : decode cX12_clearBank 35 = .ok (.getfield 277, 3) := by decide +kernel
theorem dX12_clearBank_38 : decode cX12_clearBank 38 = .ok (.iconst 0, 1) := by decide +kernel
theorem dX12_clearBank_39 : decode cX12_clearBank 39 = .ok (.iastore, 1) := by decide +kernel
theorem dX12_clearBank_40 : decode cX12_clearBank 40 = .ok (.aload_n 0, 1) := by decide +kernel
theorem dX12_clearBank_41 : decode cX12_clearBank 41 = .ok (.getfield 70, 3) := by decide +kernel
theorem dX12_clearBank_44 : decode cX12_clearBank 44 = .ok (.aload_n 0, 1) := by decide +kernel
theorem dX12_clearBank_45 : decode cX12_clearBank 45 = .ok (.getfield 277, 3) := by decide +kernel
theorem dX12_clearBank_48 : decode cX12_clearBank 48 = .ok (.iconst 0, 1) := by decide +kernel
theorem dX12_clearBank_49 : decode cX12_clearBank 49 = .ok (.bastore, 1) := by decide +kernel
theorem dX12_clearBank_50 : decode cX12_clearBank 50 = .ok (.aload_n 0, 1) := by decide +kernel
theorem dX12_clearBank_51 : decode cX12_clearBank 51 = .ok (.sipush 490, 3) := by decide +kernel
theorem dX12_clearBank_54 : decode cX12_clearBank 54 = .ok (.aload_n 0, 1) := by decide +kernel
theorem dX12_clearBank_55 : decode cX12_clearBank 55 = .ok (.getfield 277, 3) := by decide +kernel
theorem dX12_clearBank_58 : decode cX12_clearBank 58 = .ok (.imul, 1) := by decide +kernel
theorem dX12_clearBank_59 : decode cX12_clearBank 59 = .ok (.putfield 280, 3) := by decide +kernel
theorem dX12_clearBank_62 : decode cX12_clearBank 62 = .ok (.iconst 5, 1) := by decide +kernel
theorem dX12_clearBank_63 : decode cX12_clearBank 63 = .ok (.aload_n 0, 1) := by decide +kernel
theorem dX12_clearBank_64 : decode cX12_clearBank 64 = .ok (.getfield 277, 3) := by decide +kernel
theorem dX12_clearBank_67 : decode cX12_clearBank 67 = .ok (.imul, 1) := by decide +kernel
theorem dX12_clearBank_68 : decode cX12_clearBank 68 = .ok (.istore_n 1, 1) := by decide +kernel
theorem dX12_clearBank_69 : decode cX12_clearBank 69 = .ok (.iload_n 1, 1) := by decide +kernel
theorem dX12_clearBank_70 : decode cX12_clearBank 70 = .ok (.iconst 5, 1) := by decide +kernel
theorem dX12_clearBank_71 : decode cX12_clearBank 71 = .ok (.aload_n 0, 1) := by decide +kernel
theorem dX12_clearBank_72 : decode cX12_clearBank 72 = .ok (.getfield 277, 3) := by decide +kernel
theorem dX12_clearBank_75 : decode cX12_clearBank 75 = .ok (.imul, 1) := by decide +kernel
theorem dX12_clearBank_76 : decode cX12_clearBank 76 = .ok (.iconst 5, 1) := by decide +kernel
theorem dX12_clearBank_77 : decode cX12_clearBank 77 = .ok (.iadd, 1) := by decide +kernel
theorem dX12_clearBank_78 : decode cX12_clearBank 78 = .ok (.if_icmp .ge 16, 3) := by decide +kernel
theorem dX12_clearBank_81 : decode cX12_clearBank 81 = .ok (.aload_n 0, 1) := by decide +kernel
theorem dX12_clearBank_82 : decode cX12_clearBank 82 = .ok (.getfield 42, 3) := by decide +kernel
theorem dX12_clearBank_85 : decode cX12_clearBank 85 = .ok (.iload_n 1, 1) := by decide +kernel
theorem dX12_clearBank_86 : decode cX12_clearBank 86 = .ok (.iconst (-1), 1) := by decide +kernel
theorem dX12_clearBank_87 : decode cX12_clearBank 87 = .ok (.iastore, 1) := by decide +kernel
theorem dX12_clearBank_88 : decode cX12_clearBank 88 = .ok (.iinc 1 1, 3) := by decide +kernel
theorem dX12_clearBank_91 : decode cX12_clearBank 91 = .ok (.goto (-22), 3) := by decide +kernel
theorem dX12_clearBank_94 : decode cX12_clearBank 94 = .ok (.return_, 1) := by decide +kernel
set_option maxRecDepth 20000 in
theorem ggX12_road_X12_clearBank : GoodIn wsX12_road wsX12_clearBank := goodIn_r _ [19, 20, 9, 21, 14, 22, 23, 24, 25, 191, 192, 193, 194, 195, 196, 197, 198, 199, 200, 201, 202, 203, 204, 205, 206, 207, 208, 209, 210, 211, 212, 213, 214, 215, 216, 217, 218, 219, 220, 221, 222, 223, 224, 225, 226, 227, 228, 229, 230, 231, 232, 233, 234, 235, 236, 237, 238, 239, 240, 241, 242, 243, 244, 245, 246, 247, 248, 249, 250, 251, 252, 253, 254, 255, 256, 257, 258, 259, 260, 261, 262, 263, 264] (by decide +kernel) (by decide +kernel)
set_option maxRecDepth 20000 in
theorem gX12_road_X12_clearBank : GoodIn wsX12_road (wsV RX12 176 RX12 yX12_clearBank wsX12_clearBank) := goodIn_app (goodIn_of _ (by decide +kernel)) ggX12_road_X12_clearBank
set_option maxRecDepth 20000 in
theorem ggX12_road_X12_goOn : GoodIn wsX12_road wsX12_goOn := goodIn_r _ [29, 7, 30, 4, 10, 31, 32, 33, 34, 35, 18, 36, 5, 37, 38, 39, 40, 41, 42, 43, 44, 45, 46, 47, 48, 49, 50, 51, 52, 53, 54, 55, 56, 57, 58, 59, 60, 61, 62, 63, 191, 192, 193, 194, 195, 196, 197, 198, 199, 200, 201, 202, 203, 204, 205, 206, 207, 208, 209, 210, 211, 212, 213, 214, 215, 216, 217, 218, 219, 220, 221, 222, 223, 224, 225, 226, 227, 228, 229, 230, 231, 232, 233, 234, 235, 236, 237, 238, 239, 240, 241, 242, 243, 244, 245, 246, 247, 248, 249, 250, 251, 252, 253, 254, 255, 256, 257, 258, 259, 260, 261, 262, 263, 264] (by decide +kernel) (by decide +kernel)
set_option maxRecDepth 20000 in
theorem gX12_road_X12_goOn : GoodIn wsX12_road (wsV RX12 260 RX12 yX12_goOn wsX12_goOn) := goodIn_app (goodIn_of _ (by decide +kernel)) ggX12_road_X12_goOn
set_option maxRecDepth 20000 in
theorem ggX12_road_X12_isGood : GoodIn wsX12_road wsX12_isGood := goodIn_r _ [67, 1, 191, 192, 193, 194, 195, 196, 197, 198, 199, 200, 201, 202, 203, 204, 205, 206, 207, 208, 209, 210, 211, 212, 213, 214, 215, 216, 217, 218, 219, 220, 221, 222, 223, 224, 225, 226, 227, 228, 229, 230, 231, 232, 233, 234, 235, 236, 237, 238, 239, 240, 241, 242, 243, 244, 245, 246, 247, 248, 249, 250, 251, 252, 253, 254, 255, 256, 257, 258, 259, 260, 261, 262, 263, 264] (by decide +kernel) (by decide +kernel)
set_option maxRecDepth 20000 in
theorem gX12_road_X12_isGood : GoodIn wsX12_road (wsV RX12 256 RX12 yX12_isGood wsX12_isGood) := goodIn_app (goodIn_of _ (by decide +kernel)) ggX12_road_X12_isGood
set_option maxRecDepth 20000 in
theorem ggX12_road_X12_readLine : GoodIn wsX12_road wsX12_readLine := goodIn_r _ [71, 31, 10, 43, 47, 50, 53, 72, 73, 74, 18, 75, 20, 9, 21, 14, 23, 76, 77, 78, 79, 80, 81, 82, 83, 30, 84, 85, 86, 87, 1, 2, 64, 65, 66, 67, 26, 27, 28, 29, 7, 4, 32, 33, 34, 35, 36, 5, 37, 38, 39, 40, 41, 42, 44, 45, 46, 48, 49, 51, 52, 54, 55, 56, 57, 58, 59, 60, 61, 62, 63, 88, 89, 90, 91, 92, 93, 94, 95, 96, 97, 98, 99, 100, 101, 102, 103, 104, 105, 106, 107, 108, 109, 110, 111, 112, 113, 114, 115, 116, 117, 118, 119, 120, 121, 122, 123, 25, 124, 125, 126, 127, 128, 129, 130, 131, 132, 133, 134, 135, 136, 137, 24, 138, 139, 140, 141, 142, 143, 144, 145, 146, 147, 148, 149, 150, 151, 152, 153, 22, 154, 155, 156, 157, 158, 159, 160, 161, 162, 163, 164, 165, 166, 167, 168, 169, 170, 171, 172, 173, 174, 175, 176, 177, 178, 179, 191, 192, 193, 194, 195, 196, 197, 198, 199, 200, 201, 202, 203, 204, 205, 206, 207, 208, 209, 210, 211, 212, 213, 214, 215, 216, 217, 218, 219, 220, 221, 222, 223, 224, 225, 226, 227, 228, 229, 230, 231, 232, 233, 234, 235, 236, 237, 238, 239, 240, 241, 242, 243, 244, 245, 246, 247, 248, 249, 250, 251, 252, 253, 254, 255, 256, 257, 258, 259, 260, 261, 262, 263, 264] (by decide +kernel) (by decide +kernel)
set_option maxRecDepth 20000 in
theorem gX12_road_X12_readLine : GoodIn wsX12_road (wsV RX12 289 RX12 yX12_readLine wsX12_readLine) := goodIn_app (goodIn_of _ (by decide +kernel)) ggX12_road_X12_readLine
set_option maxRecDepth 20000 in
theorem ggX12_road_X12_begin : GoodIn wsX12_road wsX12_begin := goodIn_r _ [183, 184, 14, 8, 130, 131, 132, 93, 185, 186, 187, 188, 189, 18, 190, 20, 191, 192, 193, 194, 195, 196, 197, 198, 199, 200, 201, 202, 203, 204, 205, 206, 207, 208, 209, 210, 211, 212, 213, 214, 215, 216, 217, 218, 219, 220, 221, 222, 223, 224, 225, 226, 227, 228, 229, 230, 231, 232, 233, 234, 235, 236, 237, 238, 239, 240, 241, 242, 243, 244, 245, 246, 247, 248, 249, 250, 251, 252, 253, 254, 255, 256, 257, 258, 259, 260, 261, 262, 263, 264] (by decide +kernel) (by decide +kernel)
set_option maxRecDepth 20000 in
theorem gX12_road_X12_begin : GoodIn wsX12_road (wsV RX12 179 RX12 yX12_begin wsX12_begin) := goodIn_app (goodIn_of _ (by decide +kernel)) ggX12_road_X12_begin
theorem dX12_road_0 : decode cX12_road 0 = .ok (.aload_n 0, 1) := by decide +kernel
theorem dX12_road_1 : decode cX12_road 1 = .ok (.iconst 0, 1) := by decide +kernel
theorem dX12_road_2 : decode cX12_road 2 = .ok (.putfield 185, 3) := by decide +kernel
theorem dX12_road_5 : decode cX12_road 5 = .ok (.aload_n 0, 1) := by decide +kernel
theorem dX12_road_6 : decode cX12_road 6 = .ok (.iconst (-1), 1) := by decide +kernel
theorem dX12_road_7 : decode cX12_road 7 = .ok (.putfield 16, 3) := by decide +kernel
theorem dX12_road_10 : decode cX12_road 10 = .ok (.aload_n 0, 1) := by decide +kernel
theorem dX12_road_11 : decode cX12_road 11 = .ok (.aload_n 0, 1) := by decide +kernel
theorem dX12_road_12 : decode cX12_road 12 = .ok (.getfield 283, 3) := by decide +kernel
theorem dX12_road_15 : decode cX12_road 15 = .ok (.putfield 182, 3) := by decide +kernel
theorem dX12_road_18 : decode cX12_road 18 = .ok (.iconst 0, 1) := by decide +kernel
theorem dX12_road_19 : decode cX12_road 19 = .ok (.istore_n 1, 1) := by decide +kernel
theorem dX12_road_20 : decode cX12_road 20 = .ok (.iload_n 1, 1) := by decide +kernel
theorem dX12_road_21 : decode cX12_road 21 = .ok (.aload_n 0, 1) := by decide +kernel
theorem dX12_road_22 : decode cX12_road 22 = .ok (.getfield 182, 3) := by decide +kernel
theorem dX12_road_25 : decode cX12_road 25 = .ok (.if_icmp .ge 21, 3) := by decide +kernel
theorem dX12_road_28 : decode cX12_road 28 = .ok (.aload_n 0, 1) := by decide +kernel
theorem dX12_road_29 : decode cX12_road 29 = .ok (.getfield 13, 3) := by decide +kernel
theorem dX12_road_32 : decode cX12_road 32 = .ok (.iload_n 1, 1) := by decide +kernel
theorem dX12_road_33 : decode cX12_road 33 = .ok (.aload_n 0, 1) := by decide +kernel
theorem dX12_road_34 : decode cX12_road 34 = .ok (.getfield 7, 3) := by decide +kernel
theorem dX12_road_37 : decode cX12_road 37 = .ok (.iload_n 1, 1) := by decide +kernel
theorem dX12_road_38 : decode cX12_road 38 = .ok (.baload, 1) := by decide +kernel
theorem dX12_road_39 : decode cX12_road 39 = .ok (.bastore, 1) := by decide +kernel
theorem dX12_road_40 : decode cX12_road 40 = .ok (.iinc 1 1, 3) := by decide +kernel
theorem dX12_road_43 : decode cX12_road 43 = .ok (.goto (-23), 3) := by decide +kernel
theorem dX12_road_46 : decode cX12_road 46 = .ok (.aload_n 0, 1) := by decide +kernel
theorem dX12_road_47 : decode cX12_road 47 = .ok (.iconst 0, 1) := by decide +kernel
theorem dX12_road_48 : decode cX12_road 48 = .ok (.putfield 283, 3) := by decide +kernel
theorem dX12_road_51 : decode cX12_road 51 = .ok (.aload_n 0, 1) := by decide +kernel
theorem dX12_road_52 : decode cX12_road 52 = .ok (.iconst 0, 1) := by decide +kernel
theorem dX12_road_53 : decode cX12_road 53 = .ok (.putfield 218, 3) := by decide +kernel
theorem dX12_road_56 : decode cX12_road 56 = .ok (.aload_n 0, 1) := by decide +kernel
theorem dX12_road_57 : decode cX12_road 57 = .ok (.iconst 1, 1) := by decide +kernel
theorem dX12_road_58 : decode cX12_road 58 = .ok (.aload_n 0, 1) := by decide +kernel
theorem dX12_road_59 : decode cX12_road 59 = .ok (.getfield 286, 3) := by decide +kernel
theorem dX12_road_62 : decode cX12_road 62 = .ok (.isub, 1) := by decide +kernel
theorem dX12_road_63 : decode cX12_road 63 = .ok (.putfield 277, 3) := by decide +kernel
theorem dX12_road_66 : decode cX12_road 66 = .ok (.aload_n 0, 1) := by decide +kernel
theorem dX12_road_67 : decode cX12_road 67 = .ok (.invokevirtual 176, 3) := by decide +kernel
theorem dX12_road_70 : decode cX12_road 70 = .ok (.aload_n 0, 1) := by decide +kernel
theorem dX12_road_71 : decode cX12_road 71 = .ok (.invokevirtual 260, 3) := by decide +kernel
theorem dX12_road_74 : decode cX12_road 74 = .ok (.aload_n 0, 1) := by decide +kernel
theorem dX12_road_75 : decode cX12_road 75 = .ok (.invokevirtual 256, 3) := by decide +kernel
theorem dX12_road_78 : decode cX12_road 78 = .ok (.ifCond .eq 17, 3) := by decide +kernel
theorem dX12_road_81 : decode cX12_road 81 = .ok (.aload_n 0, 1) := by decide +kernel
theorem dX12_road_82 : decode cX12_road 82 = .ok (.getfield 228, 3) := by decide +kernel
theorem dX12_road_85 : decode cX12_road 85 = .ok (.ifCond .eq 10, 3) := by decide +kernel
theorem dX12_road_88 : decode cX12_road 88 = .ok (.aload_n 0, 1) := by decide +kernel
theorem dX12_road_89 : decode cX12_road 89 = .ok (.invokevirtual 289, 3) := by decide +kernel
theorem dX12_road_92 : decode cX12_road 92 = .ok (.goto (-18), 3) := by decide +kernel
theorem dX12_road_95 : decode cX12_road 95 = .ok (.aload_n 0, 1) := by decide +kernel
theorem dX12_road_96 : decode cX12_road 96 = .ok (.invokevirtual 256, 3) := by decide +kernel
theorem dX12_road_99 : decode cX12_road 99 = .ok (.ifCond .ne 5, 3) := by decide +kernel
theorem dX12_road_102 : decode cX12_road 102 = .ok (.iconst (-1), 1) := by decide +kernel
theorem dX12_road_103 : decode cX12_road 103 = .ok (.ireturn, 1) := by decide +kernel
theorem dX12_road_104 : decode cX12_road 104 = .ok (.aload_n 0, 1) := by decide +kernel
theorem dX12_road_105 : decode cX12_road 105 = .ok (.aload_n 0, 1) := by decide +kernel
theorem dX12_road_106 : decode cX12_road 106 = .ok (.getfield 277, 3) := by decide +kernel
theorem dX12_road_109 : decode cX12_road 109 = .ok (.putfield 286, 3) := by decide +kernel
theorem dX12_road_112 : decode cX12_road 112 = .ok (.aload_n 0, 1) := by decide +kernel
theorem dX12_road_113 : decode cX12_road 113 = .ok (.invokevirtual 179, 3) := by decide +kernel
theorem dX12_road_116 : decode cX12_road 116 = .ok (.aload_n 0, 1) := by decide +kernel
theorem dX12_road_117 : decode cX12_road 117 = .ok (.iconst 0, 1) := by decide +kernel
theorem dX12_road_118 : decode cX12_road 118 = .ok (.putfield 292, 3) := by decide +kernel
theorem dX12_road_121 : decode cX12_road 121 = .ok (.aload_n 0, 1) := by decide +kernel
theorem dX12_road_122 : decode cX12_road 122 = .ok (.iconst 0, 1) := by decide +kernel
theorem dX12_road_123 : decode cX12_road 123 = .ok (.putfield 295, 3) := by decide +kernel
theorem dX12_road_126 : decode cX12_road 126 = .ok (.iconst 0, 1) := by decide +kernel
theorem dX12_road_127 : decode cX12_road 127 = .ok (.istore_n 1, 1) := by decide +kernel
theorem dX12_road_128 : decode cX12_road 128 = .ok (.iload_n 1, 1) := by decide +kernel
theorem dX12_road_129 : decode cX12_road 129 = .ok (.iconst 3, 1) := by decide +kernel
theorem dX12_road_130 : decode cX12_road 130 = .ok (.if_icmp .ge 16, 3) := by decide +kernel
theorem dX12_road_133 : decode cX12_road 133 = .ok (.aload_n 0, 1) := by decide +kernel
theorem dX12_road_134 : decode cX12_road 134 = .ok (.getfield 173, 3) := by decide +kernel
theorem dX12_road_137 : decode cX12_road 137 = .ok (.iload_n 1, 1) := by decide +kernel
theorem dX12_road_138 : decode cX12_road 138 = .ok (.iconst 0, 1) := by decide +kernel
theorem dX12_road_139 : decode cX12_road 139 = .ok (.bastore, 1) := by decide +kernel
theorem dX12_road_140 : decode cX12_road 140 = .ok (.iinc 1 1, 3) := by decide +kernel
theorem dX12_road_143 : decode cX12_road 143 = .ok (.goto (-15), 3) := by decide +kernel
theorem dX12_road_146 : decode cX12_road 146 = .ok (.aload_n 0, 1) := by decide +kernel
theorem dX12_road_147 : decode cX12_road 147 = .ok (.getfield 27, 3) := by decide +kernel
theorem dX12_road_150 : decode cX12_road 150 = .ok (.aload_n 0, 1) := by decide +kernel
theorem dX12_road_151 : decode cX12_road 151 = .ok (.getfield 286, 3) := by decide +kernel
theorem dX12_road_154 : decode cX12_road 154 = .ok (.iaload, 1) := by decide +kernel
theorem dX12_road_155 : decode cX12_road 155 = .ok (.ireturn, 1) := by decide +kernel
theorem dX12_fault_0 : decode cX12_fault 0 = .ok (.iload_n 1, 1) := by decide +kernel
theorem dX12_fault_1 : decode cX12_fault 1 = .ok (.ifCond .ne 10, 3) := by decide +kernel
theorem dX12_fault_4 : decode cX12_fault 4 = .ok (.aload_n 0, 1) := by decide +kernel
theorem dX12_fault_5 : decode cX12_fault 5 = .ok (.getfield 185, 3) := by decide +kernel
theorem dX12_fault_8 : decode cX12_fault 8 = .ok (.goto 16, 3) := by decide +kernel
theorem dX12_fault_11 : decode cX12_fault 11 = .ok (.iload_n 1, 1) := by decide +kernel
theorem dX12_fault_12 : decode cX12_fault 12 = .ok (.iconst 1, 1) := by decide +kernel
theorem dX12_fault_13 : decode cX12_fault 13 = .ok (.if_icmp .ne 10, 3) := by decide +kernel
theorem dX12_fault_16 : decode cX12_fault 16 = .ok (.aload_n 0, 1) := by decide +kernel
theorem dX12_fault_17 : decode cX12_fault 17 = .ok (.getfield 16, 3) := by decide +kernel
theorem dX12_fault_20 : decode cX12_fault 20 = .ok (.goto 4, 3) := by decide +kernel
theorem dX12_fault_23 : decode cX12_fault 23 = .ok (.iconst (-1), 1) := by decide +kernel
theorem dX12_fault_24 : decode cX12_fault 24 = .ok (.ireturn, 1) := by decide +kernel
theorem dX12_isIn_0 : decode cX12_isIn 0 = .ok (.iload_n 0, 1) := by decide +kernel
theorem dX12_isIn_1 : decode cX12_isIn 1 = .ok (.iload_n 1, 1) := by decide +kernel
theorem dX12_isIn_2 : decode cX12_isIn 2 = .ok (.if_icmp .lt 12, 3) := by decide +kernel
theorem dX12_isIn_5 : decode cX12_isIn 5 = .ok (.iload_n 0, 1) := by decide +kernel
theorem dX12_isIn_6 : decode cX12_isIn 6 = .ok (.iload_n 2, 1) := by decide +kernel
theorem dX12_isIn_7 : decode cX12_isIn 7 = .ok (.if_icmp .gt 7, 3) := by decide +kernel
theorem dX12_isIn_10 : decode cX12_isIn 10 = .ok (.iconst 1, 1) := by decide +kernel
theorem dX12_isIn_11 : decode cX12_isIn 11 = .ok (.goto 4, 3) := by decide +kernel
theorem dX12_isIn_14 : decode cX12_isIn 14 = .ok (.iconst 0, 1) := by decide +kernel
theorem dX12_isIn_15 : decode cX12_isIn 15 = .ok (.ireturn, 1) := by decide +kernel
theorem dX12_birdMany_0 : decode cX12_birdMany 0 = .ok (.aload_n 0, 1) := by decide +kernel
theorem dX12_birdMany_1 : decode cX12_birdMany 1 = .ok (.getfield 20, 3) := by decide +kernel
theorem dX12_birdMany_4 : decode cX12_birdMany 4 = .ok (.aload_n 0, 1) := by decide +kernel
theorem dX12_birdMany_5 : decode cX12_birdMany 5 = .ok (.getfield 286, 3) := by decide +kernel
theorem dX12_birdMany_8 : decode cX12_birdMany 8 = .ok (.iaload, 1) := by decide +kernel
theorem dX12_birdMany_9 : decode cX12_birdMany 9 = .ok (.ireturn, 1) := by decide +kernel
theorem dX12_postMany_0 : decode cX12_postMany 0 = .ok (.aload_n 0, 1) := by decide +kernel
theorem dX12_postMany_1 : decode cX12_postMany 1 = .ok (.getfield 24, 3) := by decide +kernel
theorem dX12_postMany_4 : decode cX12_postMany 4 = .ok (.aload_n 0, 1) := by decide +kernel
theorem dX12_postMany_5 : decode cX12_postMany 5 = .ok (.getfield 286, 3) := by decide +kernel
theorem dX12_postMany_8 : decode cX12_postMany 8 = .ok (.iaload, 1) := by decide +kernel
theorem dX12_postMany_9 : decode cX12_postMany 9 = .ok (.ireturn, 1) := by decide +kernel
set_option maxRecDepth 20000 in
theorem ggX12_isBird_X12_birdMany : GoodIn wsX12_isBird wsX12_birdMany := goodIn_r _ [5, 6, 7, 11, 12, 13, 14, 15, 16, 17, 18, 19, 20, 21, 22, 23, 24, 25, 26, 27, 28, 29, 30, 31, 32, 33, 34, 35, 36, 37, 38, 39, 40, 41, 42, 43, 44, 45, 46, 47, 48, 49, 50, 51, 52, 53, 54, 55, 56, 57, 58, 59, 60, 61, 62, 63, 64, 65, 66, 67, 68, 69, 70, 71, 72, 73, 74, 75, 76, 77, 78, 79, 80, 81, 82, 83, 84] (by decide +kernel) (by decide +kernel)
set_option maxRecDepth 20000 in
theorem gX12_isBird_X12_birdMany : GoodIn wsX12_isBird (wsV RX12 363 RX12 yX12_birdMany wsX12_birdMany) := goodIn_app (goodIn_of _ (by decide +kernel)) ggX12_isBird_X12_birdMany
set_option maxRecDepth 20000 in
theorem ggX12_isBird_X12_isIn : GoodIn wsX12_isBird wsX12_isIn := goodIn_r _ [10] (by decide +kernel) (by decide +kernel)
set_option maxRecDepth 20000 in
theorem gX12_isBird_X12_isIn : GoodIn wsX12_isBird (va_wsS RX12 366 yX12_isIn wsX12_isIn) := goodIn_app (goodIn_of _ (by decide +kernel)) ggX12_isBird_X12_isIn
theorem dX12_isBird_0 : decode cX12_isBird 0 = .ok (.iload_n 1, 1) := by decide +kernel
theorem dX12_isBird_1 : decode cX12_isBird 1 = .ok (.iconst 0, 1) := by decide +kernel
theorem dX12_isBird_2 : decode cX12_isBird 2 = .ok (.aload_n 0, 1) := by decide +kernel
theorem dX12_isBird_3 : decode cX12_isBird 3 = .ok (.invokevirtual 363, 3) := by decide +kernel
theorem dX12_isBird_6 : decode cX12_isBird 6 = .ok (.iconst 1, 1) := by decide +kernel
theorem dX12_isBird_7 : decode cX12_isBird 7 = .ok (.isub, 1) := by decide +kernel
theorem dX12_isBird_8 : decode cX12_isBird 8 = .ok (.invokestatic 366, 3) := by decide +kernel
theorem dX12_isBird_11 : decode cX12_isBird 11 = .ok (.ireturn, 1) := by decide +kernel
set_option maxRecDepth 20000 in
theorem ggX12_isPost_X12_postMany : GoodIn wsX12_isPost wsX12_postMany := goodIn_r _ [5, 6, 7, 11, 12, 13, 14, 15, 16, 17, 18, 19, 20, 21, 22, 23, 24, 25, 26, 27, 28, 29, 30, 31, 32, 33, 34, 35, 36, 37, 38, 39, 40, 41, 42, 43, 44, 45, 46, 47, 48, 49, 50, 51, 52, 53, 54, 55, 56, 57, 58, 59, 60, 61, 62, 63, 64, 65, 66, 67, 68, 69, 70, 71, 72, 73, 74, 75, 76, 77, 78, 79, 80, 81, 82, 83, 84] (by decide +kernel) (by decide +kernel)
set_option maxRecDepth 20000 in
theorem gX12_isPost_X12_postMany : GoodIn wsX12_isPost (wsV RX12 370 RX12 yX12_postMany wsX12_postMany) := goodIn_app (goodIn_of _ (by decide +kernel)) ggX12_isPost_X12_postMany
set_option maxRecDepth 20000 in
theorem ggX12_isPost_X12_isIn : GoodIn wsX12_isPost wsX12_isIn := goodIn_r _ [10] (by decide +kernel) (by decide +kernel)
set_option maxRecDepth 20000 in
theorem gX12_isPost_X12_isIn : GoodIn wsX12_isPost (va_wsS RX12 366 yX12_isIn wsX12_isIn) := goodIn_app (goodIn_of _ (by decide +kernel)) ggX12_isPost_X12_isIn
theorem dX12_isPost_0 : decode cX12_isPost 0 = .ok (.iload_n 1, 1) := by decide +kernel
theorem dX12_isPost_1 : decode cX12_isPost 1 = .ok (.iconst 0, 1) := by decide +kernel
theorem dX12_isPost_2 : decode cX12_isPost 2 = .ok (.aload_n 0, 1) := by decide +kernel
theorem dX12_isPost_3 : decode cX12_isPost 3 = .ok (.invokevirtual 370, 3) := by decide +kernel
theorem dX12_isPost_6 : decode cX12_isPost 6 = .ok (.iconst 1, 1) := by decide +kernel
theorem dX12_isPost_7 : decode cX12_isPost 7 = .ok (.isub, 1) := by decide +kernel
theorem dX12_isPost_8 : decode cX12_isPost 8 = .ok (.invokestatic 366, 3) := by decide +kernel
theorem dX12_isPost_11 : decode cX12_isPost 11 = .ok (.ireturn, 1) := by decide +kernel
set_option maxRecDepth 20000 in
theorem ggX12_isCart_X12_isIn : GoodIn wsX12_isCart wsX12_isIn := goodIn_r _ [5] (by decide +kernel) (by decide +kernel)
set_option maxRecDepth 20000 in
theorem gX12_isCart_X12_isIn : GoodIn wsX12_isCart (va_wsS RX12 366 yX12_isIn wsX12_isIn) := goodIn_app (goodIn_of _ (by decide +kernel)) ggX12_isCart_X12_isIn
theorem dX12_isCart_0 : decode cX12_isCart 0 = .ok (.iload_n 1, 1) := by decide +kernel
theorem dX12_isCart_1 : decode cX12_isCart 1 = .ok (.iconst 0, 1) := by decide +kernel
theorem dX12_isCart_2 : decode cX12_isCart 2 = .ok (.aload_n 0, 1) := by decide +kernel
theorem dX12_isCart_3 : decode cX12_isCart 3 = .ok (.getfield 98, 3) := by decide +kernel
theorem dX12_isCart_6 : decode cX12_isCart 6 = .ok (.iconst 0, 1) := by decide +kernel
theorem dX12_isCart_7 : decode cX12_isCart 7 = .ok (.iaload, 1) := by decide +kernel
theorem dX12_isCart_8 : decode cX12_isCart 8 = .ok (.iconst 1, 1) := by decide +kernel
theorem dX12_isCart_9 : decode cX12_isCart 9 = .ok (.isub, 1) := by decide +kernel
theorem dX12_isCart_10 : decode cX12_isCart 10 = .ok (.invokestatic 366, 3) := by decide +kernel
theorem dX12_isCart_13 : decode cX12_isCart 13 = .ok (.ireturn, 1) := by decide +kernel
set_option maxRecDepth 20000 in
theorem ggX12_begin_X12_birdMany : GoodIn wsX12_begin wsX12_birdMany := goodIn_r _ [14, 15, 3, 16, 17, 18, 19, 20, 21, 22, 23, 24, 25, 26, 27, 28, 29, 30, 31, 32, 33, 34, 35, 36, 37, 38, 39, 40, 41, 42, 43, 44, 45, 46, 47, 48, 49, 50, 51, 52, 53, 54, 55, 56, 57, 58, 59, 60, 61, 62, 63, 64, 65, 66, 67, 68, 69, 70, 71, 72, 73, 74, 75, 76, 77, 78, 79, 80, 81, 82, 83, 84, 85, 86, 87, 88, 89] (by decide +kernel) (by decide +kernel)
set_option maxRecDepth 20000 in
theorem gX12_begin_X12_birdMany : GoodIn wsX12_begin (wsV RX12 363 RX12 yX12_birdMany wsX12_birdMany) := goodIn_app (goodIn_of _ (by decide +kernel)) ggX12_begin_X12_birdMany
theorem dX12_begin_0 : decode cX12_begin 0 = .ok (.iconst 0, 1) := by decide +kernel
theorem dX12_begin_1 : decode cX12_begin 1 = .ok (.istore_n 1, 1) := by decide +kernel
theorem dX12_begin_2 : decode cX12_begin 2 = .ok (.iload_n 1, 1) := by decide +kernel
theorem dX12_begin_3 : decode cX12_begin 3 = .ok (.bipush 80, 2) := by decide +kernel
theorem dX12_begin_5 : decode cX12_begin 5 = .ok (.if_icmp .ge 16, 3) := by decide +kernel
theorem dX12_begin_8 : decode cX12_begin 8 = .ok (.aload_n 0, 1) := by decide +kernel
theorem dX12_begin_9 : decode cX12_begin 9 = .ok (.getfield 98, 3) := by decide +kernel
theorem dX12_begin_12 : decode cX12_begin 12 = .ok (.iload_n 1, 1) := by decide +kernel
theorem dX12_begin_13 : decode cX12_begin 13 = .ok (.iconst 0, 1) := by decide +kernel
theorem dX12_begin_14 : decode cX12_begin 14 = .ok (.iastore, 1) := by decide +kernel
theorem dX12_begin_15 : decode cX12_begin 15 = .ok (.iinc 1 1, 3) := by decide +kernel
theorem dX12_begin_18 : decode cX12_begin 18 = .ok (.goto (-16), 3) := by decide +kernel
theorem dX12_begin_21 : decode cX12_begin 21 = .ok (.aload_n 0, 1) := by decide +kernel
theorem dX12_begin_22 : decode cX12_begin 22 = .ok (.getfield 98, 3) := by decide +kernel
theorem dX12_begin_25 : decode cX12_begin 25 = .ok (.iconst 0, 1) := by decide +kernel
theorem dX12_begin_26 : decode cX12_begin 26 = .ok (.aload_n 0, 1) := by decide +kernel
theorem dX12_begin_27 : decode cX12_begin 27 = .ok (.getfield 27, 3) := by decide +kernel
theorem dX12_begin_30 : decode cX12_begin 30 = .ok (.aload_n 0, 1) := by decide +kernel
theorem dX12_begin_31 : decode cX12_begin 31 = .ok (.getfield 286, 3) := by decide +kernel
theorem dX12_begin_34 : decode cX12_begin 34 = .ok (.iaload, 1) := by decide +kernel
theorem dX12_begin_35 : decode cX12_begin 35 = .ok (.iastore, 1) := by decide +kernel
theorem dX12_begin_36 : decode cX12_begin 36 = .ok (.iconst 0, 1) := by decide +kernel
theorem dX12_begin_37 : decode cX12_begin 37 = .ok (.istore_n 1, 1) := by decide +kernel
theorem dX12_begin_38 : decode cX12_begin 38 = .ok (.iload_n 1, 1) := by decide +kernel
theorem dX12_begin_39 : decode cX12_begin 39 = .ok (.aload_n 0, 1) := by decide +kernel
theorem dX12_begin_40 : decode cX12_begin 40 = .ok (.getfield 27, 3) := by decide +kernel
theorem dX12_begin_43 : decode cX12_begin 43 = .ok (.aload_n 0, 1) := by decide +kernel
theorem dX12_begin_44 : decode cX12_begin 44 = .ok (.getfield 286, 3) := by decide +kernel
theorem dX12_begin_47 : decode cX12_begin 47 = .ok (.iaload, 1) := by decide +kernel
theorem dX12_begin_48 : decode cX12_begin 48 = .ok (.if_icmp .ge 85, 3) := by decide +kernel
theorem dX12_begin_51 : decode cX12_begin 51 = .ok (.aload_n 0, 1) := by decide +kernel
theorem dX12_begin_52 : decode cX12_begin 52 = .ok (.getfield 98, 3) := by decide +kernel
theorem dX12_begin_55 : decode cX12_begin 55 = .ok (.iconst 1, 1) := by decide +kernel
theorem dX12_begin_56 : decode cX12_begin 56 = .ok (.iload_n 1, 1) := by decide +kernel
theorem dX12_begin_57 : decode cX12_begin 57 = .ok (.iadd, 1) := by decide +kernel
theorem dX12_begin_58 : decode cX12_begin 58 = .ok (.aload_n 0, 1) := by decide +kernel
theorem dX12_begin_59 : decode cX12_begin 59 = .ok (.getfield 57, 3) := by decide +kernel
theorem dX12_begin_62 : decode cX12_begin 62 = .ok (.bipush 12, 2) := by decide +kernel
theorem dX12_begin_64 : decode cX12_begin 64 = .ok (.aload_n 0, 1) := by decide +kernel
theorem dX12_begin_65 : decode cX12_begin 65 = .ok (.getfield 286, 3) := by decide +kernel
theorem dX12_begin_68 : decode cX12_begin 68 = .ok (.imul, 1) := by decide +kernel
theorem dX12_begin_69 : decode cX12_begin 69 = .ok (.iload_n 1, 1) := by decide +kernel
theorem dX12_begin_70 : decode cX12_begin 70 = .ok (.iadd, 1) := by decide +kernel
theorem dX12_begin_71 : decode cX12_begin 71 = .ok (.iaload, 1) := by decide +kernel
theorem dX12_begin_72 : decode cX12_begin 72 = .ok (.iastore, 1) := by decide +kernel
theorem dX12_begin_73 : decode cX12_begin 73 = .ok (.aload_n 0, 1) := by decide +kernel
theorem dX12_begin_74 : decode cX12_begin 74 = .ok (.getfield 98, 3) := by decide +kernel
theorem dX12_begin_77 : decode cX12_begin 77 = .ok (.bipush 25, 2) := by decide +kernel
theorem dX12_begin_79 : decode cX12_begin 79 = .ok (.iload_n 1, 1) := by decide +kernel
theorem dX12_begin_80 : decode cX12_begin 80 = .ok (.iadd, 1) := by decide +kernel
theorem dX12_begin_81 : decode cX12_begin 81 = .ok (.aload_n 0, 1) := by decide +kernel
theorem dX12_begin_82 : decode cX12_begin 82 = .ok (.getfield 60, 3) := by decide +kernel
theorem dX12_begin_85 : decode cX12_begin 85 = .ok (.bipush 12, 2) := by decide +kernel
theorem dX12_begin_87 : decode cX12_begin 87 = .ok (.aload_n 0, 1) := by decide +kernel
theorem dX12_begin_88 : decode cX12_begin 88 = .ok (.getfield 286, 3) := by decide +kernel
theorem dX12_begin_91 : decode cX12_begin 91 = .ok (.imul, 1) := by decide +kernel
theorem dX12_begin_92 : decode cX12_begin 92 = .ok (.iload_n 1, 1) := by decide +kernel
theorem dX12_begin_93 : decode cX12_begin 93 = .ok (.iadd, 1) := by decide +kernel
theorem dX12_begin_94 : decode cX12_begin 94 = .ok (.iaload, 1) := by decide +kernel
theorem dX12_begin_95 : decode cX12_begin 95 = .ok (.iastore, 1) := by decide +kernel
theorem dX12_begin_96 : decode cX12_begin 96 = .ok (.aload_n 0, 1) := by decide +kernel
theorem dX12_begin_97 : decode cX12_begin 97 = .ok (.getfield 98, 3) := by decide +kernel
theorem dX12_begin_100 : decode cX12_begin 100 = .ok (.bipush 49, 2) := by decide +kernel
theorem dX12_begin_102 : decode cX12_begin 102 = .ok (.iload_n 1, 1) := by decide +kernel
theorem dX12_begin_103 : decode cX12_begin 103 = .ok (.iadd, 1) := by decide +kernel
theorem dX12_begin_104 : decode cX12_begin 104 = .ok (.aload_n 0, 1) := by decide +kernel
theorem dX12_begin_105 : decode cX12_begin 105 = .ok (.getfield 66, 3) := by decide +kernel
theorem dX12_begin_108 : decode cX12_begin 108 = .ok (.bipush 12, 2) := by decide +kernel
theorem dX12_begin_110 : decode cX12_begin 110 = .ok (.aload_n 0, 1) := by decide +kernel
theorem dX12_begin_111 : decode cX12_begin 111 = .ok (.getfield 286, 3) := by decide +kernel
theorem dX12_begin_114 : decode cX12_begin 114 = .ok (.imul, 1) := by decide +kernel
theorem dX12_begin_115 : decode cX12_begin 115 = .ok (.iload_n 1, 1) := by decide +kernel
theorem dX12_begin_116 : decode cX12_begin 116 = .ok (.iadd, 1) := by decide +kernel
theorem dX12_begin_117 : decode cX12_begin 117 = .ok (.baload, 1) := by decide +kernel
theorem dX12_begin_118 : decode cX12_begin 118 = .ok (.ifCond .eq 7, 3) := by decide +kernel
theorem dX12_begin_121 : decode cX12_begin 121 = .ok (.iconst 0, 1) := by decide +kernel
theorem dX12_begin_122 : decode cX12_begin 122 = .ok (.goto 4, 3) := by decide +kernel
theorem dX12_begin_125 : decode cX12_begin 125 = .ok (.iconst 1, 1) := by decide +kernel
theorem dX12_begin_126 : decode cX12_begin 126 = .ok (.iastore, 1) := by decide +kernel
theorem dX12_begin_127 : decode cX12_begin 127 = .ok (.iinc 1 1, 3) := by decide +kernel
theorem dX12_begin_130 : decode cX12_begin 130 = .ok (.goto (-92), 3) := by decide +kernel
theorem dX12_begin_133 : decode cX12_begin 133 = .ok (.iconst 0, 1) := by decide +kernel
theorem dX12_begin_134 : decode cX12_begin 134 = .ok (.istore_n 1, 1) := by decide +kernel
theorem dX12_begin_135 : decode cX12_begin 135 = .ok (.iload_n 1, 1) := by decide +kernel
theorem dX12_begin_136 : decode cX12_begin 136 = .ok (.aload_n 0, 1) := by decide +kernel
theorem dX12_begin_137 : decode cX12_begin 137 = .ok (.invokevirtual 363, 3) := by decide +kernel
theorem dX12_begin_140 : decode cX12_begin 140 = .ok (.if_icmp .ge 31, 3) := by decide +kernel
theorem dX12_begin_143 : decode cX12_begin 143 = .ok (.aload_n 0, 1) := by decide +kernel
theorem dX12_begin_144 : decode cX12_begin 144 = .ok (.getfield 98, 3) := by decide +kernel
theorem dX12_begin_147 : decode cX12_begin 147 = .ok (.bipush 73, 2) := by decide +kernel
theorem dX12_begin_149 : decode cX12_begin 149 = .ok (.iload_n 1, 1) := by decide +kernel
theorem dX12_begin_150 : decode cX12_begin 150 = .ok (.iadd, 1) := by decide +kernel
theorem dX12_begin_151 : decode cX12_begin 151 = .ok (.aload_n 0, 1) := by decide +kernel
theorem dX12_begin_152 : decode cX12_begin 152 = .ok (.getfield 33, 3) := by decide +kernel
theorem dX12_begin_155 : decode cX12_begin 155 = .ok (.iconst 5, 1) := by decide +kernel
theorem dX12_begin_156 : decode cX12_begin 156 = .ok (.aload_n 0, 1) := by decide +kernel
theorem dX12_begin_157 : decode cX12_begin 157 = .ok (.getfield 286, 3) := by decide +kernel
theorem dX12_begin_160 : decode cX12_begin 160 = .ok (.imul, 1) := by decide +kernel
theorem dX12_begin_161 : decode cX12_begin 161 = .ok (.iload_n 1, 1) := by decide +kernel
theorem dX12_begin_162 : decode cX12_begin 162 = .ok (.iadd, 1) := by decide +kernel
theorem dX12_begin_163 : decode cX12_begin 163 = .ok (.iaload, 1) := by decide +kernel
theorem dX12_begin_164 : decode cX12_begin 164 = .ok (.iastore, 1) := by decide +kernel
theorem dX12_begin_165 : decode cX12_begin 165 = .ok (.iinc 1 1, 3) := by decide +kernel
theorem dX12_begin_168 : decode cX12_begin 168 = .ok (.goto (-33), 3) := by decide +kernel
theorem dX12_begin_171 : decode cX12_begin 171 = .ok (.aload_n 0, 1) := by decide +kernel
theorem dX12_begin_172 : decode cX12_begin 172 = .ok (.iconst 0, 1) := by decide +kernel
theorem dX12_begin_173 : decode cX12_begin 173 = .ok (.putfield 373, 3) := by decide +kernel
theorem dX12_begin_176 : decode cX12_begin 176 = .ok (.aload_n 0, 1) := by decide +kernel
theorem dX12_begin_177 : decode cX12_begin 177 = .ok (.iconst 0, 1) := by decide +kernel
theorem dX12_begin_178 : decode cX12_begin 178 = .ok (.putfield 376, 3) := by decide +kernel
theorem dX12_begin_181 : decode cX12_begin 181 = .ok (.return_, 1) := by decide +kernel
