theorem ddX12_goOn_0 : decode cX12_goOn 0 = .ok (.aload_n 0, 1) := by decide +kernel
theorem ddX12_goOn_1 : decode cX12_goOn 1 = .ok (.aload_n 0, 1) := by decide +kernel
theorem ddX12_goOn_2 : decode cX12_goOn 2 = .ok (.getfield 218, 3) := by decide +kernel
theorem ddX12_goOn_5 : decode cX12_goOn 5 = .ok (.putfield 221, 3) := by decide +kernel
theorem ddX12_goOn_8 : decode cX12_goOn 8 = .ok (.aload_n 0, 1) := by decide +kernel
theorem ddX12_goOn_9 : decode cX12_goOn 9 = .ok (.getfield 221, 3) := by decide +kernel
theorem ddX12_goOn_12 : decode cX12_goOn 12 = .ok (.aload_n 0, 1) := by decide +kernel
theorem ddX12_goOn_13 : decode cX12_goOn 13 = .ok (.getfield 182, 3) := by decide +kernel
theorem ddX12_goOn_16 : decode cX12_goOn 16 = .ok (.if_icmp .ge 42, 3) := by decide +kernel
theorem ddX12_goOn_19 : decode cX12_goOn 19 = .ok (.aload_n 0, 1) := by decide +kernel
theorem ddX12_goOn_20 : decode cX12_goOn 20 = .ok (.aload_n 0, 1) := by decide +kernel
theorem ddX12_goOn_21 : decode cX12_goOn 21 = .ok (.getfield 221, 3) := by decide +kernel
theorem ddX12_goOn_24 : decode cX12_goOn 24 = .ok (.invokevirtual 224, 3) := by decide +kernel
theorem ddX12_goOn_27 : decode cX12_goOn 27 = .ok (.bipush 32, 2) := by decide +kernel
theorem ddX12_goOn_29 : decode cX12_goOn 29 = .ok (.if_icmp .eq 16, 3) := by decide +kernel
theorem ddX12_goOn_32 : decode cX12_goOn 32 = .ok (.aload_n 0, 1) := by decide +kernel
theorem ddX12_goOn_33 : decode cX12_goOn 33 = .ok (.aload_n 0, 1) := by decide +kernel
theorem ddX12_goOn_34 : decode cX12_goOn 34 = .ok (.getfield 221, 3) := by decide +kernel
theorem ddX12_goOn_37 : decode cX12_goOn 37 = .ok (.invokevirtual 224, 3) := by decide +kernel
theorem ddX12_goOn_40 : decode cX12_goOn 40 = .ok (.bipush 10, 2) := by decide +kernel
theorem ddX12_goOn_42 : decode cX12_goOn 42 = .ok (.if_icmp .ne 16, 3) := by decide +kernel
theorem ddX12_goOn_45 : decode cX12_goOn 45 = .ok (.aload_n 0, 1) := by decide +kernel
theorem ddX12_goOn_46 : decode cX12_goOn 46 = .ok (.dup, 1) := by decide +kernel
theorem ddX12_goOn_47 : decode cX12_goOn 47 = .ok (.getfield 221, 3) := by decide +kernel
theorem ddX12_goOn_50 : decode cX12_goOn 50 = .ok (.iconst 1, 1) := by decide +kernel
theorem ddX12_goOn_51 : decode cX12_goOn 51 = .ok (.iadd, 1) := by decide +kernel
theorem ddX12_goOn_52 : decode cX12_goOn 52 = .ok (.putfield 221, 3) := by decide +kernel
theorem ddX12_goOn_55 : decode cX12_goOn 55 = .ok (.goto (-47), 3) := by decide +kernel
theorem ddX12_goOn_58 : decode cX12_goOn 58 = .ok (.aload_n 0, 1) := by decide +kernel
theorem ddX12_goOn_59 : decode cX12_goOn 59 = .ok (.aload_n 0, 1) := by decide +kernel
theorem ddX12_goOn_60 : decode cX12_goOn 60 = .ok (.getfield 221, 3) := by decide +kernel
theorem ddX12_goOn_63 : decode cX12_goOn 63 = .ok (.invokevirtual 224, 3) := by decide +kernel
theorem ddX12_goOn_66 : decode cX12_goOn 66 = .ok (.istore_n 1, 1) := by decide +kernel
theorem ddX12_goOn_67 : decode cX12_goOn 67 = .ok (.aload_n 0, 1) := by decide +kernel
theorem ddX12_goOn_68 : decode cX12_goOn 68 = .ok (.aload_n 0, 1) := by decide +kernel
theorem ddX12_goOn_69 : decode cX12_goOn 69 = .ok (.getfield 221, 3) := by decide +kernel
theorem ddX12_goOn_72 : decode cX12_goOn 72 = .ok (.iconst 1, 1) := by decide +kernel
theorem ddX12_goOn_73 : decode cX12_goOn 73 = .ok (.iadd, 1) := by decide +kernel
theorem ddX12_goOn_74 : decode cX12_goOn 74 = .ok (.putfield 218, 3) := by decide +kernel
theorem ddX12_goOn_77 : decode cX12_goOn 77 = .ok (.aload_n 0, 1) := by decide +kernel
theorem ddX12_goOn_78 : decode cX12_goOn 78 = .ok (.getfield 221, 3) := by decide +kernel
theorem ddX12_goOn_81 : decode cX12_goOn 81 = .ok (.aload_n 0, 1) := by decide +kernel
theorem ddX12_goOn_82 : decode cX12_goOn 82 = .ok (.getfield 182, 3) := by decide +kernel
theorem ddX12_goOn_85 : decode cX12_goOn 85 = .ok (.if_icmp .lt 27, 3) := by decide +kernel
theorem ddX12_goOn_88 : decode cX12_goOn 88 = .ok (.aload_n 0, 1) := by decide +kernel
theorem ddX12_goOn_89 : decode cX12_goOn 89 = .ok (.iconst 0, 1) := by decide +kernel
theorem ddX12_goOn_90 : decode cX12_goOn 90 = .ok (.putfield 228, 3) := by decide +kernel
theorem ddX12_goOn_93 : decode cX12_goOn 93 = .ok (.aload_n 0, 1) := by decide +kernel
theorem ddX12_goOn_94 : decode cX12_goOn 94 = .ok (.aload_n 0, 1) := by decide +kernel
theorem ddX12_goOn_95 : decode cX12_goOn 95 = .ok (.getfield 182, 3) := by decide +kernel
theorem ddX12_goOn_98 : decode cX12_goOn 98 = .ok (.putfield 221, 3) := by decide +kernel
theorem ddX12_goOn_101 : decode cX12_goOn 101 = .ok (.aload_n 0, 1) := by decide +kernel
theorem ddX12_goOn_102 : decode cX12_goOn 102 = .ok (.aload_n 0, 1) := by decide +kernel
theorem ddX12_goOn_103 : decode cX12_goOn 103 = .ok (.getfield 182, 3) := by decide +kernel
theorem ddX12_goOn_106 : decode cX12_goOn 106 = .ok (.putfield 218, 3) := by decide +kernel
theorem ddX12_goOn_109 : decode cX12_goOn 109 = .ok (.goto 268, 3) := by decide +kernel
theorem ddX12_goOn_112 : decode cX12_goOn 112 = .ok (.iload_n 1, 1) := by decide +kernel
theorem ddX12_goOn_113 : decode cX12_goOn 113 = .ok (.invokestatic 231, 3) := by decide +kernel
theorem ddX12_goOn_116 : decode cX12_goOn 116 = .ok (.ifCond .eq 123, 3) := by decide +kernel
theorem ddX12_goOn_119 : decode cX12_goOn 119 = .ok (.aload_n 0, 1) := by decide +kernel
theorem ddX12_goOn_120 : decode cX12_goOn 120 = .ok (.aload_n 0, 1) := by decide +kernel
theorem ddX12_goOn_121 : decode cX12_goOn 121 = .ok (.getfield 218, 3) := by decide +kernel
theorem ddX12_goOn_124 : decode cX12_goOn 124 = .ok (.invokevirtual 224, 3) := by decide +kernel
theorem ddX12_goOn_127 : decode cX12_goOn 127 = .ok (.invokestatic 231, 3) := by decide +kernel
theorem ddX12_goOn_130 : decode cX12_goOn 130 = .ok (.ifCond .eq 16, 3) := by decide +kernel
theorem ddX12_goOn_133 : decode cX12_goOn 133 = .ok (.aload_n 0, 1) := by decide +kernel
theorem ddX12_goOn_134 : decode cX12_goOn 134 = .ok (.dup, 1) := by decide +kernel
theorem ddX12_goOn_135 : decode cX12_goOn 135 = .ok (.getfield 218, 3) := by decide +kernel
theorem ddX12_goOn_138 : decode cX12_goOn 138 = .ok (.iconst 1, 1) := by decide +kernel
theorem ddX12_goOn_139 : decode cX12_goOn 139 = .ok (.iadd, 1) := by decide +kernel
theorem ddX12_goOn_140 : decode cX12_goOn 140 = .ok (.putfield 218, 3) := by decide +kernel
theorem ddX12_goOn_143 : decode cX12_goOn 143 = .ok (.goto (-24), 3) := by decide +kernel
theorem ddX12_goOn_146 : decode cX12_goOn 146 = .ok (.aload_n 0, 1) := by decide +kernel
theorem ddX12_goOn_147 : decode cX12_goOn 147 = .ok (.lconst 0, 1) := by decide +kernel
theorem ddX12_goOn_148 : decode cX12_goOn 148 = .ok (.putfield 235, 3) := by decide +kernel
theorem ddX12_goOn_151 : decode cX12_goOn 151 = .ok (.aload_n 0, 1) := by decide +kernel
theorem ddX12_goOn_152 : decode cX12_goOn 152 = .ok (.getfield 221, 3) := by decide +kernel
theorem ddX12_goOn_155 : decode cX12_goOn 155 = .ok (.istore_n 2, 1) := by decide +kernel
theorem ddX12_goOn_156 : decode cX12_goOn 156 = .ok (.iload_n 2, 1) := by decide +kernel
theorem ddX12_goOn_157 : decode cX12_goOn 157 = .ok (.aload_n 0, 1) := by decide +kernel
theorem ddX12_goOn_158 : decode cX12_goOn 158 = .ok (.getfield 218, 3) := by decide +kernel
theorem ddX12_goOn_161 : decode cX12_goOn 161 = .ok (.if_icmp .ge 38, 3) := by decide +kernel
theorem ddX12_goOn_164 : decode cX12_goOn 164 = .ok (.iload_n 2, 1) := by decide +kernel
theorem ddX12_goOn_165 : decode cX12_goOn 165 = .ok (.aload_n 0, 1) := by decide +kernel
theorem ddX12_goOn_166 : decode cX12_goOn 166 = .ok (.getfield 221, 3) := by decide +kernel
theorem ddX12_goOn_169 : decode cX12_goOn 169 = .ok (.bipush 8, 2) := by decide +kernel
theorem ddX12_goOn_171 : decode cX12_goOn 171 = .ok (.iadd, 1) := by decide +kernel
theorem ddX12_goOn_172 : decode cX12_goOn 172 = .ok (.if_icmp .ge 27, 3) := by decide +kernel
theorem ddX12_goOn_175 : decode cX12_goOn 175 = .ok (.aload_n 0, 1) := by decide +kernel
theorem ddX12_goOn_176 : decode cX12_goOn 176 = .ok (.aload_n 0, 1) := by decide +kernel
theorem ddX12_goOn_177 : decode cX12_goOn 177 = .ok (.getfield 235, 3) := by decide +kernel
theorem ddX12_goOn_180 : decode cX12_goOn 180 = .ok (.bipush 8, 2) := by decide +kernel
theorem ddX12_goOn_182 : decode cX12_goOn 182 = .ok (.lshl, 1) := by decide +kernel
theorem ddX12_goOn_183 : decode cX12_goOn 183 = .ok (.aload_n 0, 1) := by decide +kernel
theorem ddX12_goOn_184 : decode cX12_goOn 184 = .ok (.iload_n 2, 1) := by decide +kernel
theorem ddX12_goOn_185 : decode cX12_goOn 185 = .ok (.invokevirtual 224, 3) := by decide +kernel
theorem ddX12_goOn_188 : decode cX12_goOn 188 = .ok (.i2l, 1) := by decide +kernel
theorem ddX12_goOn_189 : decode cX12_goOn 189 = .ok (.lor, 1) := by decide +kernel
theorem ddX12_goOn_190 : decode cX12_goOn 190 = .ok (.putfield 235, 3) := by decide +kernel
theorem ddX12_goOn_193 : decode cX12_goOn 193 = .ok (.iinc 2 1, 3) := by decide +kernel
theorem ddX12_goOn_196 : decode cX12_goOn 196 = .ok (.goto (-40), 3) := by decide +kernel
theorem ddX12_goOn_199 : decode cX12_goOn 199 = .ok (.aload_n 0, 1) := by decide +kernel
theorem ddX12_goOn_200 : decode cX12_goOn 200 = .ok (.aload_n 0, 1) := by decide +kernel
theorem ddX12_goOn_201 : decode cX12_goOn 201 = .ok (.getfield 218, 3) := by decide +kernel
theorem ddX12_goOn_204 : decode cX12_goOn 204 = .ok (.aload_n 0, 1) := by decide +kernel
theorem ddX12_goOn_205 : decode cX12_goOn 205 = .ok (.getfield 221, 3) := by decide +kernel
theorem ddX12_goOn_208 : decode cX12_goOn 208 = .ok (.isub, 1) := by decide +kernel
theorem ddX12_goOn_209 : decode cX12_goOn 209 = .ok (.bipush 8, 2) := by decide +kernel
theorem ddX12_goOn_211 : decode cX12_goOn 211 = .ok (.if_icmp .le 7, 3) := by decide +kernel
theorem ddX12_goOn_214 : decode cX12_goOn 214 = .ok (.iconst 1, 1) := by decide +kernel
theorem ddX12_goOn_215 : decode cX12_goOn 215 = .ok (.goto 18, 3) := by decide +kernel
theorem ddX12_goOn_218 : decode cX12_goOn 218 = .ok (.aload_n 0, 1) := by decide +kernel
theorem ddX12_goOn_219 : decode cX12_goOn 219 = .ok (.getfield 235, 3) := by decide +kernel
theorem ddX12_goOn_222 : decode cX12_goOn 222 = .ok (.invokestatic 239, 3) := by decide +kernel
theorem ddX12_goOn_225 : decode cX12_goOn 225 = .ok (.ifCond .eq 7, 3) := by decide +kernel
theorem ddX12_goOn_228 : decode cX12_goOn 228 = .ok (.iconst 3, 1) := by decide +kernel
theorem ddX12_goOn_229 : decode cX12_goOn 229 = .ok (.goto 4, 3) := by decide +kernel
theorem ddX12_goOn_232 : decode cX12_goOn 232 = .ok (.iconst 2, 1) := by decide +kernel
theorem ddX12_goOn_233 : decode cX12_goOn 233 = .ok (.putfield 228, 3) := by decide +kernel
theorem ddX12_goOn_236 : decode cX12_goOn 236 = .ok (.goto 141, 3) := by decide +kernel
theorem ddX12_goOn_239 : decode cX12_goOn 239 = .ok (.iload_n 1, 1) := by decide +kernel
theorem ddX12_goOn_240 : decode cX12_goOn 240 = .ok (.invokestatic 243, 3) := by decide +kernel
theorem ddX12_goOn_243 : decode cX12_goOn 243 = .ok (.ifCond .eq 118, 3) := by decide +kernel
theorem ddX12_goOn_246 : decode cX12_goOn 246 = .ok (.aload_n 0, 1) := by decide +kernel
theorem ddX12_goOn_247 : decode cX12_goOn 247 = .ok (.iconst 0, 1) := by decide +kernel
theorem ddX12_goOn_248 : decode cX12_goOn 248 = .ok (.putfield 246, 3) := by decide +kernel
theorem ddX12_goOn_251 : decode cX12_goOn 251 = .ok (.aload_n 0, 1) := by decide +kernel
theorem ddX12_goOn_252 : decode cX12_goOn 252 = .ok (.aload_n 0, 1) := by decide +kernel
theorem ddX12_goOn_253 : decode cX12_goOn 253 = .ok (.getfield 221, 3) := by decide +kernel
theorem ddX12_goOn_256 : decode cX12_goOn 256 = .ok (.putfield 218, 3) := by decide +kernel
theorem ddX12_goOn_259 : decode cX12_goOn 259 = .ok (.aload_n 0, 1) := by decide +kernel
theorem ddX12_goOn_260 : decode cX12_goOn 260 = .ok (.aload_n 0, 1) := by decide +kernel
theorem ddX12_goOn_261 : decode cX12_goOn 261 = .ok (.getfield 218, 3) := by decide +kernel
theorem ddX12_goOn_264 : decode cX12_goOn 264 = .ok (.invokevirtual 224, 3) := by decide +kernel
theorem ddX12_goOn_267 : decode cX12_goOn 267 = .ok (.invokestatic 243, 3) := by decide +kernel
theorem ddX12_goOn_270 : decode cX12_goOn 270 = .ok (.ifCond .eq 52, 3) := by decide +kernel
theorem ddX12_goOn_273 : decode cX12_goOn 273 = .ok (.aload_n 0, 1) := by decide +kernel
theorem ddX12_goOn_274 : decode cX12_goOn 274 = .ok (.getfield 218, 3) := by decide +kernel
theorem ddX12_goOn_277 : decode cX12_goOn 277 = .ok (.aload_n 0, 1) := by decide +kernel
theorem ddX12_goOn_278 : decode cX12_goOn 278 = .ok (.getfield 221, 3) := by decide +kernel
theorem ddX12_goOn_281 : decode cX12_goOn 281 = .ok (.isub, 1) := by decide +kernel
theorem ddX12_goOn_282 : decode cX12_goOn 282 = .ok (.iconst 4, 1) := by decide +kernel
theorem ddX12_goOn_283 : decode cX12_goOn 283 = .ok (.if_icmp .ge 26, 3) := by decide +kernel
theorem ddX12_goOn_286 : decode cX12_goOn 286 = .ok (.aload_n 0, 1) := by decide +kernel
theorem ddX12_goOn_287 : decode cX12_goOn 287 = .ok (.bipush 10, 2) := by decide +kernel
theorem ddX12_goOn_289 : decode cX12_goOn 289 = .ok (.aload_n 0, 1) := by decide +kernel
theorem ddX12_goOn_290 : decode cX12_goOn 290 = .ok (.getfield 246, 3) := by decide +kernel
theorem ddX12_goOn_293 : decode cX12_goOn 293 = .ok (.imul, 1) := by decide +kernel
theorem ddX12_goOn_294 : decode cX12_goOn 294 = .ok (.aload_n 0, 1) := by decide +kernel
theorem ddX12_goOn_295 : decode cX12_goOn 295 = .ok (.aload_n 0, 1) := by decide +kernel
theorem ddX12_goOn_296 : decode cX12_goOn 296 = .ok (.getfield 218, 3) := by decide +kernel
theorem ddX12_goOn_299 : decode cX12_goOn 299 = .ok (.invokevirtual 224, 3) := by decide +kernel
theorem ddX12_goOn_302 : decode cX12_goOn 302 = .ok (.iadd, 1) := by decide +kernel
theorem ddX12_goOn_303 : decode cX12_goOn 303 = .ok (.bipush 48, 2) := by decide +kernel
theorem ddX12_goOn_305 : decode cX12_goOn 305 = .ok (.isub, 1) := by decide +kernel
theorem ddX12_goOn_306 : decode cX12_goOn 306 = .ok (.putfield 246, 3) := by decide +kernel
theorem ddX12_goOn_309 : decode cX12_goOn 309 = .ok (.aload_n 0, 1) := by decide +kernel
theorem ddX12_goOn_310 : decode cX12_goOn 310 = .ok (.dup, 1) := by decide +kernel
theorem ddX12_goOn_311 : decode cX12_goOn 311 = .ok (.getfield 218, 3) := by decide +kernel
theorem ddX12_goOn_314 : decode cX12_goOn 314 = .ok (.iconst 1, 1) := by decide +kernel
theorem ddX12_goOn_315 : decode cX12_goOn 315 = .ok (.iadd, 1) := by decide +kernel
theorem ddX12_goOn_316 : decode cX12_goOn 316 = .ok (.putfield 218, 3) := by decide +kernel
theorem ddX12_goOn_319 : decode cX12_goOn 319 = .ok (.goto (-60), 3) := by decide +kernel
theorem ddX12_goOn_322 : decode cX12_goOn 322 = .ok (.aload_n 0, 1) := by decide +kernel
theorem ddX12_goOn_323 : decode cX12_goOn 323 = .ok (.aload_n 0, 1) := by decide +kernel
theorem ddX12_goOn_324 : decode cX12_goOn 324 = .ok (.getfield 218, 3) := by decide +kernel
theorem ddX12_goOn_327 : decode cX12_goOn 327 = .ok (.aload_n 0, 1) := by decide +kernel
theorem ddX12_goOn_328 : decode cX12_goOn 328 = .ok (.getfield 221, 3) := by decide +kernel
theorem ddX12_goOn_331 : decode cX12_goOn 331 = .ok (.isub, 1) := by decide +kernel
theorem ddX12_goOn_332 : decode cX12_goOn 332 = .ok (.iconst 4, 1) := by decide +kernel
theorem ddX12_goOn_333 : decode cX12_goOn 333 = .ok (.if_icmp .gt 17, 3) := by decide +kernel
theorem ddX12_goOn_336 : decode cX12_goOn 336 = .ok (.aload_n 0, 1) := by decide +kernel
theorem ddX12_goOn_337 : decode cX12_goOn 337 = .ok (.aload_n 0, 1) := by decide +kernel
theorem ddX12_goOn_338 : decode cX12_goOn 338 = .ok (.getfield 218, 3) := by decide +kernel
theorem ddX12_goOn_341 : decode cX12_goOn 341 = .ok (.invokevirtual 224, 3) := by decide +kernel
theorem ddX12_goOn_344 : decode cX12_goOn 344 = .ok (.invokestatic 231, 3) := by decide +kernel
theorem ddX12_goOn_347 : decode cX12_goOn 347 = .ok (.ifCond .eq 7, 3) := by decide +kernel
theorem ddX12_goOn_350 : decode cX12_goOn 350 = .ok (.iconst 1, 1) := by decide +kernel
theorem ddX12_goOn_351 : decode cX12_goOn 351 = .ok (.goto 4, 3) := by decide +kernel
theorem ddX12_goOn_354 : decode cX12_goOn 354 = .ok (.iconst 4, 1) := by decide +kernel
theorem ddX12_goOn_355 : decode cX12_goOn 355 = .ok (.putfield 228, 3) := by decide +kernel
theorem ddX12_goOn_358 : decode cX12_goOn 358 = .ok (.goto 19, 3) := by decide +kernel
theorem ddX12_goOn_361 : decode cX12_goOn 361 = .ok (.aload_n 0, 1) := by decide +kernel
theorem ddX12_goOn_362 : decode cX12_goOn 362 = .ok (.iload_n 1, 1) := by decide +kernel
theorem ddX12_goOn_363 : decode cX12_goOn 363 = .ok (.invokestatic 249, 3) := by decide +kernel
theorem ddX12_goOn_366 : decode cX12_goOn 366 = .ok (.ifCond .eq 7, 3) := by decide +kernel
theorem ddX12_goOn_369 : decode cX12_goOn 369 = .ok (.iconst 5, 1) := by decide +kernel
theorem ddX12_goOn_370 : decode cX12_goOn 370 = .ok (.goto 4, 3) := by decide +kernel
theorem ddX12_goOn_373 : decode cX12_goOn 373 = .ok (.iconst 1, 1) := by decide +kernel
theorem ddX12_goOn_374 : decode cX12_goOn 374 = .ok (.putfield 228, 3) := by decide +kernel
theorem ddX12_goOn_377 : decode cX12_goOn 377 = .ok (.return_, 1) := by decide +kernel
def wq_k_X12_goOn : List Cond := Cond.code yX12_goOn cX12_goOn 3 none :: (([Cond.fieldLink RX12 218 "CrowTollModel" "end" "I", Cond.fieldLink RX12 221 "CrowTollModel" "at" "I", Cond.fieldLink RX12 182 "CrowTollModel" "size" "I", Cond.methodLink RX12 224 yX12_sign, Cond.instanceMethod yX12_sign, Cond.selects RX12 yX12_sign yX12_sign, Cond.initialized RX12, Cond.code yX12_sign cX12_sign 2 (some .int), Cond.fieldLink RX12 13 "CrowTollModel" "text" "[B", Cond.methodLink RX12 231 yX12_isLetter, Cond.static yX12_isLetter, Cond.code yX12_isLetter cX12_isLetter 1 (some .boolean), Cond.fieldLink RX12 235 "CrowTollModel" "name" "J", Cond.methodLink RX12 239 yX12_isKept, Cond.static yX12_isKept, Cond.code yX12_isKept cX12_isKept 3 (some .boolean), Cond.constantLong RX12 188 (1651077732), Cond.constantLong RX12 190 (109330362692723), Cond.constantLong RX12 192 (6775152), Cond.constantLong RX12 194 (499850634611), Cond.constantLong RX12 196 (1886352244), Cond.constantLong RX12 198 (24948), Cond.constantLong RX12 200 (1953459308), Cond.constantLong RX12 202 (1667330676), Cond.constantLong RX12 204 (495555144563), Cond.constantLong RX12 206 (469786780261), Cond.constantLong RX12 208 (7102839), Cond.constantLong RX12 210 (7238760), Cond.constantLong RX12 212 (28530), Cond.constantLong RX12 214 (6385252), Cond.constantLong RX12 216 (7237492), Cond.fieldLink RX12 228 "CrowTollModel" "token" "I", Cond.methodLink RX12 243 yX12_isDigit, Cond.static yX12_isDigit, Cond.code yX12_isDigit cX12_isDigit 1 (some .boolean), Cond.fieldLink RX12 246 "CrowTollModel" "number" "I", Cond.methodLink RX12 249 yX12_isSign, Cond.static yX12_isSign, Cond.code yX12_isSign cX12_isSign 1 (some .boolean)] : List Cond) ++ wsX120)
set_option maxRecDepth 20000 in
theorem gr_k_X12_goOn_k_X12_sign : GoodIn wq_k_X12_goOn wq_k_X12_sign := List.forall_mem_cons.mpr ⟨⟨(List.mem_of_getElem? (i := 8) rfl), good_of_word rfl⟩, List.forall_mem_append.mpr ⟨List.forall_mem_cons.mpr ⟨⟨(List.mem_of_getElem? (i := 3) rfl), good_of_word rfl⟩, List.forall_mem_cons.mpr ⟨⟨(List.mem_of_getElem? (i := 9) rfl), good_of_word rfl⟩, (fun _ h => absurd h List.not_mem_nil)⟩⟩, fun w h => ⟨(fun w h => List.mem_cons_of_mem _ (List.mem_append_right _ h)) w h, good_of_word (List.all_eq_true.mp gw_X12 w h)⟩⟩⟩
set_option maxRecDepth 20000 in
theorem gq_k_X12_goOn_k_X12_sign_224 : GoodIn wq_k_X12_goOn (wsV RX12 224 RX12 yX12_sign wq_k_X12_sign) := goodIn_app (List.forall_mem_cons.mpr ⟨⟨(List.mem_of_getElem? (i := 4) rfl), good_of_word rfl⟩, List.forall_mem_cons.mpr ⟨⟨(List.mem_of_getElem? (i := 5) rfl), good_of_word rfl⟩, List.forall_mem_cons.mpr ⟨⟨(List.mem_of_getElem? (i := 6) rfl), good_of_word rfl⟩, List.forall_mem_cons.mpr ⟨⟨(List.mem_of_getElem? (i := 7) rfl), good_of_word rfl⟩, (fun _ h => absurd h List.not_mem_nil)⟩⟩⟩⟩) gr_k_X12_goOn_k_X12_sign
set_option maxRecDepth 20000 in
theorem gr_k_X12_goOn_k_X12_isLetter : GoodIn wq_k_X12_goOn wq_k_X12_isLetter := List.forall_mem_cons.mpr ⟨⟨(List.mem_of_getElem? (i := 12) rfl), good_of_word rfl⟩, (fun _ h => absurd h List.not_mem_nil)⟩
set_option maxRecDepth 20000 in
theorem gq_k_X12_goOn_k_X12_isLetter_231 : GoodIn wq_k_X12_goOn (va_wsS RX12 231 yX12_isLetter wq_k_X12_isLetter) := goodIn_app (List.forall_mem_cons.mpr ⟨⟨(List.mem_of_getElem? (i := 10) rfl), good_of_word rfl⟩, List.forall_mem_cons.mpr ⟨⟨(List.mem_of_getElem? (i := 11) rfl), good_of_word rfl⟩, List.forall_mem_cons.mpr ⟨⟨(List.mem_of_getElem? (i := 7) rfl), good_of_word rfl⟩, (fun _ h => absurd h List.not_mem_nil)⟩⟩⟩) gr_k_X12_goOn_k_X12_isLetter
set_option maxRecDepth 20000 in
theorem gr_k_X12_goOn_k_X12_isKept : GoodIn wq_k_X12_goOn wq_k_X12_isKept := List.forall_mem_cons.mpr ⟨⟨(List.mem_of_getElem? (i := 16) rfl), good_of_word rfl⟩, List.forall_mem_cons.mpr ⟨⟨(List.mem_of_getElem? (i := 17) rfl), good_of_word rfl⟩, List.forall_mem_cons.mpr ⟨⟨(List.mem_of_getElem? (i := 18) rfl), good_of_word rfl⟩, List.forall_mem_cons.mpr ⟨⟨(List.mem_of_getElem? (i := 19) rfl), good_of_word rfl⟩, List.forall_mem_cons.mpr ⟨⟨(List.mem_of_getElem? (i := 20) rfl), good_of_word rfl⟩, List.forall_mem_cons.mpr ⟨⟨(List.mem_of_getElem? (i := 21) rfl), good_of_word rfl⟩, List.forall_mem_cons.mpr ⟨⟨(List.mem_of_getElem? (i := 22) rfl), good_of_word rfl⟩, List.forall_mem_cons.mpr ⟨⟨(List.mem_of_getElem? (i := 23) rfl), good_of_word rfl⟩, List.forall_mem_cons.mpr ⟨⟨(List.mem_of_getElem? (i := 24) rfl), good_of_word rfl⟩, List.forall_mem_cons.mpr ⟨⟨(List.mem_of_getElem? (i := 25) rfl), good_of_word rfl⟩, List.forall_mem_cons.mpr ⟨⟨(List.mem_of_getElem? (i := 26) rfl), good_of_word rfl⟩, List.forall_mem_cons.mpr ⟨⟨(List.mem_of_getElem? (i := 27) rfl), good_of_word rfl⟩, List.forall_mem_cons.mpr ⟨⟨(List.mem_of_getElem? (i := 28) rfl), good_of_word rfl⟩, List.forall_mem_cons.mpr ⟨⟨(List.mem_of_getElem? (i := 29) rfl), good_of_word rfl⟩, List.forall_mem_cons.mpr ⟨⟨(List.mem_of_getElem? (i := 30) rfl), good_of_word rfl⟩, List.forall_mem_cons.mpr ⟨⟨(List.mem_of_getElem? (i := 31) rfl), good_of_word rfl⟩, (fun _ h => absurd h List.not_mem_nil)⟩⟩⟩⟩⟩⟩⟩⟩⟩⟩⟩⟩⟩⟩⟩⟩
set_option maxRecDepth 20000 in
theorem gq_k_X12_goOn_k_X12_isKept_239 : GoodIn wq_k_X12_goOn (va_wsS RX12 239 yX12_isKept wq_k_X12_isKept) := goodIn_app (List.forall_mem_cons.mpr ⟨⟨(List.mem_of_getElem? (i := 14) rfl), good_of_word rfl⟩, List.forall_mem_cons.mpr ⟨⟨(List.mem_of_getElem? (i := 15) rfl), good_of_word rfl⟩, List.forall_mem_cons.mpr ⟨⟨(List.mem_of_getElem? (i := 7) rfl), good_of_word rfl⟩, (fun _ h => absurd h List.not_mem_nil)⟩⟩⟩) gr_k_X12_goOn_k_X12_isKept
set_option maxRecDepth 20000 in
theorem gr_k_X12_goOn_k_X12_isDigit : GoodIn wq_k_X12_goOn wq_k_X12_isDigit := List.forall_mem_cons.mpr ⟨⟨(List.mem_of_getElem? (i := 35) rfl), good_of_word rfl⟩, (fun _ h => absurd h List.not_mem_nil)⟩
set_option maxRecDepth 20000 in
theorem gq_k_X12_goOn_k_X12_isDigit_243 : GoodIn wq_k_X12_goOn (va_wsS RX12 243 yX12_isDigit wq_k_X12_isDigit) := goodIn_app (List.forall_mem_cons.mpr ⟨⟨(List.mem_of_getElem? (i := 33) rfl), good_of_word rfl⟩, List.forall_mem_cons.mpr ⟨⟨(List.mem_of_getElem? (i := 34) rfl), good_of_word rfl⟩, List.forall_mem_cons.mpr ⟨⟨(List.mem_of_getElem? (i := 7) rfl), good_of_word rfl⟩, (fun _ h => absurd h List.not_mem_nil)⟩⟩⟩) gr_k_X12_goOn_k_X12_isDigit
set_option maxRecDepth 20000 in
theorem gr_k_X12_goOn_k_X12_isSign : GoodIn wq_k_X12_goOn wq_k_X12_isSign := List.forall_mem_cons.mpr ⟨⟨(List.mem_of_getElem? (i := 39) rfl), good_of_word rfl⟩, (fun _ h => absurd h List.not_mem_nil)⟩
set_option maxRecDepth 20000 in
theorem gq_k_X12_goOn_k_X12_isSign_249 : GoodIn wq_k_X12_goOn (va_wsS RX12 249 yX12_isSign wq_k_X12_isSign) := goodIn_app (List.forall_mem_cons.mpr ⟨⟨(List.mem_of_getElem? (i := 37) rfl), good_of_word rfl⟩, List.forall_mem_cons.mpr ⟨⟨(List.mem_of_getElem? (i := 38) rfl), good_of_word rfl⟩, List.forall_mem_cons.mpr ⟨⟨(List.mem_of_getElem? (i := 7) rfl), good_of_word rfl⟩, (fun _ h => absurd h List.not_mem_nil)⟩⟩⟩) gr_k_X12_goOn_k_X12_isSign
set_option maxHeartbeats 8000000 in
set_option maxRecDepth 100000 in
theorem k_X12_goOn (l : Launch) (D : va_G) (cy : Nat → ClassId) (ad : Nat → Nat) (g : Nat → va_E) {u0_0 : Value} {u0_2 : Value} {x0_3 : Int32} {u0_4 : Value} {u0_5 : Value} {x0_6 : Int32} {x0_7 : Int32} {x0_8 : Int32} {x0_9 : Int32} {w0x10 : Int64} {u0_11 : Value} {u0_12 : Value} {u0_13 : Value} {u0_14 : Value} {u0_15 : Value} {u0_16 : Value} {u0_17 : Value} {u0_18 : Value} {u0_19 : Value} {u0_20 : Value} {u0_21 : Value} {u0_22 : Value} {u0_23 : Value} {u0_24 : Value} {u0_25 : Value} {u0_26 : Value} {u0_27 : Value} {u0_28 : Value} {u0_29 : Value} {u0_30 : Value} {u0_31 : Value} {u0_32 : Value} {u0_33 : Value} {u0_34 : Value} {u0_35 : Value} {u0_36 : Value} {u0_37 : Value} {u0_38 : Value} {u0_39 : Value} {u0_40 : Value} {u0_41 : Value} {u0_42 : Value} {u0_43 : Value} {u0_44 : Value} {u0_45 : Value} {u0_46 : Value} {u0_47 : Value} {u0_48 : Value} {u0_49 : Value} {u0_50 : Value} {u0_51 : Value} {u0_52 : Value} {u0_53 : Value} {u0_54 : Value} {u0_55 : Value} {u0_56 : Value} {u0_57 : Value} {u0_58 : Value} {u0_59 : Value} {u0_60 : Value} {u0_61 : Value} {u0_62 : Value} {u0_63 : Value} {u0_64 : Value} {u0_65 : Value} {u0_66 : Value} {u0_67 : Value} {u0_68 : Value} {u0_69 : Value} {u0_70 : Value} {u0_71 : Value} {u0_72 : Value} {u0_73 : Value} {c1 : Nat → Int32} (o0 : g 0 = .inr (12, [u0_0, .ref (ad 1), u0_2, .int x0_3, u0_4, u0_5, .int x0_6, .int x0_7, .int x0_8, .int x0_9, .long w0x10, u0_11, u0_12, u0_13, u0_14, u0_15, u0_16, u0_17, u0_18, u0_19, u0_20, u0_21, u0_22, u0_23, u0_24, u0_25, u0_26, u0_27, u0_28, u0_29, u0_30, u0_31, u0_32, u0_33, u0_34, u0_35, u0_36, u0_37, u0_38, u0_39, u0_40, u0_41, u0_42, u0_43, u0_44, u0_45, u0_46, u0_47, u0_48, u0_49, u0_50, u0_51, u0_52, u0_53, u0_54, u0_55, u0_56, u0_57, u0_58, u0_59, u0_60, u0_61, u0_62, u0_63, u0_64, u0_65, u0_66, u0_67, u0_68, u0_69, u0_70, u0_71, u0_72, u0_73])) (a1 : g 1 = .inl (cy 3, 1600, .inl c1)) (b0_3 : zi 0 1600 x0_3) (b0_6 : zi 0 1600 x0_6) (b0_7 : zi 0 1600 x0_7) (b0_8 : zi 0 5 x0_8) (hg_en : (x0_7 : Int32).toInt ≤ (x0_3 : Int32).toInt) : cMv l yX12_goOn wq_k_X12_goOn { frames := 1, cells := 0, slots := 0, locals := 22 } 2 0 0 0 D cy ad g [.ref (ad 0)] (fun nw lu => ∃ (y0_6 : Int32) (y0_7 : Int32) (y0_8 : Int32) (y0_9 : Int32) (w0_10 : Int64), (zi 0 1600 y0_6) ∧ (zi 0 1600 y0_7) ∧ (zi 0 5 y0_8) ∧ ((y0_7 : Int32).toInt ≤ (x0_3 : Int32).toInt) ∧ (rho (x0_7 : Int32) (x0_8 : Int32) ≤ rho (y0_7 : Int32) (y0_8 : Int32) ∧ ((x0_8 : Int32).toInt = 0 ∨ rho (x0_7 : Int32) (x0_8 : Int32) < rho (y0_7 : Int32) (y0_8 : Int32))) ∧ (lu = [(0, .inr (12, [u0_0, .ref (ad 1), u0_2, .int x0_3, u0_4, u0_5, .int y0_6, .int y0_7, .int y0_8, .int y0_9, .long w0_10, u0_11, u0_12, u0_13, u0_14, u0_15, u0_16, u0_17, u0_18, u0_19, u0_20, u0_21, u0_22, u0_23, u0_24, u0_25, u0_26, u0_27, u0_28, u0_29, u0_30, u0_31, u0_32, u0_33, u0_34, u0_35, u0_36, u0_37, u0_38, u0_39, u0_40, u0_41, u0_42, u0_43, u0_44, u0_45, u0_46, u0_47, u0_48, u0_49, u0_50, u0_51, u0_52, u0_53, u0_54, u0_55, u0_56, u0_57, u0_58, u0_59, u0_60, u0_61, u0_62, u0_63, u0_64, u0_65, u0_66, u0_67, u0_68, u0_69, u0_70, u0_71, u0_72, u0_73]))])) := by
  refine cM_of (Qc := fun A => cQv (fun nw lu => ∃ (y0_6 : Int32) (y0_7 : Int32) (y0_8 : Int32) (y0_9 : Int32) (w0_10 : Int64), (zi 0 1600 y0_6) ∧ (zi 0 1600 y0_7) ∧ (zi 0 5 y0_8) ∧ ((y0_7 : Int32).toInt ≤ (x0_3 : Int32).toInt) ∧ (rho (x0_7 : Int32) (x0_8 : Int32) ≤ rho (y0_7 : Int32) (y0_8 : Int32) ∧ ((x0_8 : Int32).toInt = 0 ∨ rho (x0_7 : Int32) (x0_8 : Int32) < rho (y0_7 : Int32) (y0_8 : Int32))) ∧ (lu = [(0, .inr (12, [u0_0, .ref (ad 1), u0_2, .int x0_3, u0_4, u0_5, .int y0_6, .int y0_7, .int y0_8, .int y0_9, .long w0_10, u0_11, u0_12, u0_13, u0_14, u0_15, u0_16, u0_17, u0_18, u0_19, u0_20, u0_21, u0_22, u0_23, u0_24, u0_25, u0_26, u0_27, u0_28, u0_29, u0_30, u0_31, u0_32, u0_33, u0_34, u0_35, u0_36, u0_37, u0_38, u0_39, u0_40, u0_41, u0_42, u0_43, u0_44, u0_45, u0_46, u0_47, u0_48, u0_49, u0_50, u0_51, u0_52, u0_53, u0_54, u0_55, u0_56, u0_57, u0_58, u0_59, u0_60, u0_61, u0_62, u0_63, u0_64, u0_65, u0_66, u0_67, u0_68, u0_69, u0_70, u0_71, u0_72, u0_73]))])) D 2 0 ad g A) (cc := cX12_goOn) (maxL := 3) (ret := none) (by decide) rfl (Nat.le_of_ble_eq_true rfl) ?_
  intro p e s m below meth c A hC hr hlk hnm hO ls hl
  have hC : CallFix p m c cX12_goOn 3 s [.ref (ad 0)].toArray wq_k_X12_goOn RX12 := hC
  obtain ⟨hx, hb, hml, hown, hts⟩ := id hC
  have hl : lv_has ls 3 [(0, .ref (ad 0))] := hl
  have zc0 : (0 : Int32).toInt = 0 := by decide
  have zc1 : (1 : Int32).toInt = 1 := by decide
  have zc2 : (2 : Int32).toInt = 2 := by decide
  have zc3 : (3 : Int32).toInt = 3 := by decide
  have zc4 : (4 : Int32).toInt = 4 := by decide
  have zc5 : (5 : Int32).toInt = 5 := by decide
  have zc6 : (6 : Int32).toInt = 6 := by decide
  have zc7 : (7 : Int32).toInt = 7 := by decide
  have zc8 : (8 : Int32).toInt = 8 := by decide
  have i_X12 : ∀ w ∈ wsX120, w ∈ wq_k_X12_goOn := fun w h => List.mem_cons_of_mem _ (List.mem_append_right _ h)
  have hO := hO.notes [(0, .inr (12, [u0_0, .ref (ad 1), u0_2, .int x0_3, u0_4, u0_5, .int x0_6, .int x0_7, .int x0_8, .int x0_9, .long w0x10, u0_11, u0_12, u0_13, u0_14, u0_15, u0_16, u0_17, u0_18, u0_19, u0_20, u0_21, u0_22, u0_23, u0_24, u0_25, u0_26, u0_27, u0_28, u0_29, u0_30, u0_31, u0_32, u0_33, u0_34, u0_35, u0_36, u0_37, u0_38, u0_39, u0_40, u0_41, u0_42, u0_43, u0_44, u0_45, u0_46, u0_47, u0_48, u0_49, u0_50, u0_51, u0_52, u0_53, u0_54, u0_55, u0_56, u0_57, u0_58, u0_59, u0_60, u0_61, u0_62, u0_63, u0_64, u0_65, u0_66, u0_67, u0_68, u0_69, u0_70, u0_71, u0_72, u0_73]))] (List.forall_mem_cons.mpr ⟨o0, (fun _ h => absurd h List.not_mem_nil)⟩)
  refine lv_aload_n hx hb ddX12_goOn_0 rfl (lv_at hl 0 rfl) ?_
  refine lv_aload_n hx hb ddX12_goOn_1 rfl (lv_at hl 0 rfl) ?_
  refine cg_get hC hO 0 (by decide) rfl rfl i_X12 7 (by decide) (List.mem_of_getElem? (i := 1) rfl) rfl ddX12_goOn_2 ?_
  refine cg_put hC hO 0 (by decide) rfl rfl i_X12 tyX12_ok nmX12 6 (by decide) (List.mem_of_getElem? (i := 2) rfl) rfl rfl rfl (Nat.le_of_ble_eq_true rfl) ddX12_goOn_5 (fun H locs hO => ?_)
  have hO : cO D cy A s.heap s 2 ad (cup [(0, .inr (12, [u0_0, .ref (ad 1), u0_2, .int x0_3, u0_4, u0_5, .int x0_7, .int x0_7, .int x0_8, .int x0_9, .long w0x10, u0_11, u0_12, u0_13, u0_14, u0_15, u0_16, u0_17, u0_18, u0_19, u0_20, u0_21, u0_22, u0_23, u0_24, u0_25, u0_26, u0_27, u0_28, u0_29, u0_30, u0_31, u0_32, u0_33, u0_34, u0_35, u0_36, u0_37, u0_38, u0_39, u0_40, u0_41, u0_42, u0_43, u0_44, u0_45, u0_46, u0_47, u0_48, u0_49, u0_50, u0_51, u0_52, u0_53, u0_54, u0_55, u0_56, u0_57, u0_58, u0_59, u0_60, u0_61, u0_62, u0_63, u0_64, u0_65, u0_66, u0_67, u0_68, u0_69, u0_70, u0_71, u0_72, u0_73]))] g) _ _ := hO
  have loop_8_11827 : ∀ (d_8_11828 : Nat) (v_8_10202 : Int32), zi 0 1600 v_8_10202 → (x0_7 : Int32).toInt ≤ (v_8_10202 : Int32).toInt ∧ (v_8_10202 : Int32).toInt ≤ (x0_3 : Int32).toInt → (1600 + 1 - v_8_10202.toInt).toNat < d_8_11828 → ∀ (H : Heap) (locs : List Loc), cO D cy A s.heap s 2 ad (cup [(0, .inr (12, [u0_0, .ref (ad 1), u0_2, .int x0_3, u0_4, u0_5, .int v_8_10202, .int x0_7, .int x0_8, .int x0_9, .long w0x10, u0_11, u0_12, u0_13, u0_14, u0_15, u0_16, u0_17, u0_18, u0_19, u0_20, u0_21, u0_22, u0_23, u0_24, u0_25, u0_26, u0_27, u0_28, u0_29, u0_30, u0_31, u0_32, u0_33, u0_34, u0_35, u0_36, u0_37, u0_38, u0_39, u0_40, u0_41, u0_42, u0_43, u0_44, u0_45, u0_46, u0_47, u0_48, u0_49, u0_50, u0_51, u0_52, u0_53, u0_54, u0_55, u0_56, u0_57, u0_58, u0_59, u0_60, u0_61, u0_62, u0_63, u0_64, u0_65, u0_66, u0_67, u0_68, u0_69, u0_70, u0_71, u0_72, u0_73]))] g) H locs → ∀ ls : Array Slot, lv_has ls 3 [(0, .ref (ad 0))] → W p l e { frames := 1, cells := 0, slots := 0, locals := 22 } s m [.ref (ad 0)].toArray below meth c H locs 0 0 (MQ below (cQv (fun nw lu => ∃ (y0_6 : Int32) (y0_7 : Int32) (y0_8 : Int32) (y0_9 : Int32) (w0_10 : Int64), (zi 0 1600 y0_6) ∧ (zi 0 1600 y0_7) ∧ (zi 0 5 y0_8) ∧ ((y0_7 : Int32).toInt ≤ (x0_3 : Int32).toInt) ∧ (rho (x0_7 : Int32) (x0_8 : Int32) ≤ rho (y0_7 : Int32) (y0_8 : Int32) ∧ ((x0_8 : Int32).toInt = 0 ∨ rho (x0_7 : Int32) (x0_8 : Int32) < rho (y0_7 : Int32) (y0_8 : Int32))) ∧ (lu = [(0, .inr (12, [u0_0, .ref (ad 1), u0_2, .int x0_3, u0_4, u0_5, .int y0_6, .int y0_7, .int y0_8, .int y0_9, .long w0_10, u0_11, u0_12, u0_13, u0_14, u0_15, u0_16, u0_17, u0_18, u0_19, u0_20, u0_21, u0_22, u0_23, u0_24, u0_25, u0_26, u0_27, u0_28, u0_29, u0_30, u0_31, u0_32, u0_33, u0_34, u0_35, u0_36, u0_37, u0_38, u0_39, u0_40, u0_41, u0_42, u0_43, u0_44, u0_45, u0_46, u0_47, u0_48, u0_49, u0_50, u0_51, u0_52, u0_53, u0_54, u0_55, u0_56, u0_57, u0_58, u0_59, u0_60, u0_61, u0_62, u0_63, u0_64, u0_65, u0_66, u0_67, u0_68, u0_69, u0_70, u0_71, u0_72, u0_73]))])) D 2 0 ad g A) [.ref (ad 0)].toArray s 0 0 A) (F0 m 8 ls [])  := by
    intro d_8_11828
    induction d_8_11828 with
    | zero => intro v_8_10202 z_8_10203 ga_8_10204 mu_8_11829; exact absurd mu_8_11829 (Nat.not_lt_zero _)
    | succ d_8_11828 ih_8_11830 =>
      intro v_8_10202 z_8_10203 ga_8_10204 mu_8_11829 H locs hO ls hl
      refine lv_aload_n hx hb ddX12_goOn_8 rfl (lv_at hl 0 rfl) ?_
      refine cg_get hC hO 0 (by decide) rfl rfl i_X12 6 (by decide) (List.mem_of_getElem? (i := 2) rfl) rfl ddX12_goOn_9 ?_
      refine lv_aload_n hx hb ddX12_goOn_12 rfl (lv_at hl 0 rfl) ?_
      refine cg_get hC hO 0 (by decide) rfl rfl i_X12 3 (by decide) (List.mem_of_getElem? (i := 3) rfl) rfl ddX12_goOn_13 ?_
      have J_58_11860 : ∀ (H : Heap) (locs : List Loc), cO D cy A s.heap s 2 ad (cup [(0, .inr (12, [u0_0, .ref (ad 1), u0_2, .int x0_3, u0_4, u0_5, .int v_8_10202, .int x0_7, .int x0_8, .int x0_9, .long w0x10, u0_11, u0_12, u0_13, u0_14, u0_15, u0_16, u0_17, u0_18, u0_19, u0_20, u0_21, u0_22, u0_23, u0_24, u0_25, u0_26, u0_27, u0_28, u0_29, u0_30, u0_31, u0_32, u0_33, u0_34, u0_35, u0_36, u0_37, u0_38, u0_39, u0_40, u0_41, u0_42, u0_43, u0_44, u0_45, u0_46, u0_47, u0_48, u0_49, u0_50, u0_51, u0_52, u0_53, u0_54, u0_55, u0_56, u0_57, u0_58, u0_59, u0_60, u0_61, u0_62, u0_63, u0_64, u0_65, u0_66, u0_67, u0_68, u0_69, u0_70, u0_71, u0_72, u0_73]))] g) H locs → ∀ ls : Array Slot, lv_has ls 3 [(0, .ref (ad 0))] → W p l e { frames := 1, cells := 0, slots := 0, locals := 22 } s m [.ref (ad 0)].toArray below meth c H locs 0 0 (MQ below (cQv (fun nw lu => ∃ (y0_6 : Int32) (y0_7 : Int32) (y0_8 : Int32) (y0_9 : Int32) (w0_10 : Int64), (zi 0 1600 y0_6) ∧ (zi 0 1600 y0_7) ∧ (zi 0 5 y0_8) ∧ ((y0_7 : Int32).toInt ≤ (x0_3 : Int32).toInt) ∧ (rho (x0_7 : Int32) (x0_8 : Int32) ≤ rho (y0_7 : Int32) (y0_8 : Int32) ∧ ((x0_8 : Int32).toInt = 0 ∨ rho (x0_7 : Int32) (x0_8 : Int32) < rho (y0_7 : Int32) (y0_8 : Int32))) ∧ (lu = [(0, .inr (12, [u0_0, .ref (ad 1), u0_2, .int x0_3, u0_4, u0_5, .int y0_6, .int y0_7, .int y0_8, .int y0_9, .long w0_10, u0_11, u0_12, u0_13, u0_14, u0_15, u0_16, u0_17, u0_18, u0_19, u0_20, u0_21, u0_22, u0_23, u0_24, u0_25, u0_26, u0_27, u0_28, u0_29, u0_30, u0_31, u0_32, u0_33, u0_34, u0_35, u0_36, u0_37, u0_38, u0_39, u0_40, u0_41, u0_42, u0_43, u0_44, u0_45, u0_46, u0_47, u0_48, u0_49, u0_50, u0_51, u0_52, u0_53, u0_54, u0_55, u0_56, u0_57, u0_58, u0_59, u0_60, u0_61, u0_62, u0_63, u0_64, u0_65, u0_66, u0_67, u0_68, u0_69, u0_70, u0_71, u0_72, u0_73]))])) D 2 0 ad g A) [.ref (ad 0)].toArray s 0 0 A) (F0 m 58 ls []) := by
        intro  H locs hO ls hl
        refine lv_aload_n hx hb ddX12_goOn_58 rfl (lv_at hl 0 rfl) ?_
        refine lv_aload_n hx hb ddX12_goOn_59 rfl (lv_at hl 0 rfl) ?_
        refine cg_get hC hO 0 (by decide) rfl rfl i_X12 6 (by decide) (List.mem_of_getElem? (i := 2) rfl) rfl ddX12_goOn_60 ?_
        refine cg_Vi (As := [.int v_8_10202]) (rest := []) (mc := 0) (ms := 0) (rm := { frames := 0, cells := 0, slots := 0, locals := 0 }) hC hl.1 hO [0, 1] (by decide +kernel) (k_X12_sign l D cy _ _ (u0_0 := u0_0) (c1 := c1) (u0_2 := u0_2) (x0_3 := x0_3) (u0_4 := u0_4) (u0_5 := u0_5) (u0_6 := .int v_8_10202) (u0_7 := .int x0_7) (u0_8 := .int x0_8) (u0_9 := .int x0_9) (u0_10 := .long w0x10) (u0_11 := u0_11) (u0_12 := u0_12) (u0_13 := u0_13) (u0_14 := u0_14) (u0_15 := u0_15) (u0_16 := u0_16) (u0_17 := u0_17) (u0_18 := u0_18) (u0_19 := u0_19) (u0_20 := u0_20) (u0_21 := u0_21) (u0_22 := u0_22) (u0_23 := u0_23) (u0_24 := u0_24) (u0_25 := u0_25) (u0_26 := u0_26) (u0_27 := u0_27) (u0_28 := u0_28) (u0_29 := u0_29) (u0_30 := u0_30) (u0_31 := u0_31) (u0_32 := u0_32) (u0_33 := u0_33) (u0_34 := u0_34) (u0_35 := u0_35) (u0_36 := u0_36) (u0_37 := u0_37) (u0_38 := u0_38) (u0_39 := u0_39) (u0_40 := u0_40) (u0_41 := u0_41) (u0_42 := u0_42) (u0_43 := u0_43) (u0_44 := u0_44) (u0_45 := u0_45) (u0_46 := u0_46) (u0_47 := u0_47) (u0_48 := u0_48) (u0_49 := u0_49) (u0_50 := u0_50) (u0_51 := u0_51) (u0_52 := u0_52) (u0_53 := u0_53) (u0_54 := u0_54) (u0_55 := u0_55) (u0_56 := u0_56) (u0_57 := u0_57) (u0_58 := u0_58) (u0_59 := u0_59) (u0_60 := u0_60) (u0_61 := u0_61) (u0_62 := u0_62) (u0_63 := u0_63) (u0_64 := u0_64) (u0_65 := u0_65) (u0_66 := u0_66) (u0_67 := u0_67) (u0_68 := u0_68) (u0_69 := u0_69) (u0_70 := u0_70) (u0_71 := u0_71) (u0_72 := u0_72) (u0_73 := u0_73) (k := v_8_10202) rfl a1 b0_3 z_8_10203) gq_k_X12_goOn_k_X12_sign_224 rfl rfl rfl 1 (by decide +kernel) ⟨Nat.le_of_ble_eq_true rfl, Nat.le_of_ble_eq_true rfl⟩ rfl (by decide) rfl rfl rfl (Nat.le_of_ble_eq_true rfl) ddX12_goOn_63 ⟨Nat.le_of_ble_eq_true rfl, Nat.le_of_ble_eq_true rfl⟩ (fun r_63_11863 nw_63_11861 l_63_11862 H locs hw hO => ?_)
        obtain ⟨z_63_11864, gp_63_11865, gp_63_11866, rfl⟩ := hw
        have hO : cO D cy A s.heap s 2 ad (cup [(0, .inr (12, [u0_0, .ref (ad 1), u0_2, .int x0_3, u0_4, u0_5, .int v_8_10202, .int x0_7, .int x0_8, .int x0_9, .long w0x10, u0_11, u0_12, u0_13, u0_14, u0_15, u0_16, u0_17, u0_18, u0_19, u0_20, u0_21, u0_22, u0_23, u0_24, u0_25, u0_26, u0_27, u0_28, u0_29, u0_30, u0_31, u0_32, u0_33, u0_34, u0_35, u0_36, u0_37, u0_38, u0_39, u0_40, u0_41, u0_42, u0_43, u0_44, u0_45, u0_46, u0_47, u0_48, u0_49, u0_50, u0_51, u0_52, u0_53, u0_54, u0_55, u0_56, u0_57, u0_58, u0_59, u0_60, u0_61, u0_62, u0_63, u0_64, u0_65, u0_66, u0_67, u0_68, u0_69, u0_70, u0_71, u0_72, u0_73]))] g) _ _ := hO
        refine lv_istore_n (lv' := [(1, .int r_63_11863), (0, .ref (ad 0))]) hx hb ddX12_goOn_66 rfl hl (by decide) rfl (fun ls hl => ?_)
        refine lv_aload_n hx hb ddX12_goOn_67 rfl (lv_at hl 1 rfl) ?_
        refine lv_aload_n hx hb ddX12_goOn_68 rfl (lv_at hl 1 rfl) ?_
        refine cg_get hC hO 0 (by decide) rfl rfl i_X12 6 (by decide) (List.mem_of_getElem? (i := 2) rfl) rfl ddX12_goOn_69 ?_
        refine lv_iconst (v := 1) hx hb ddX12_goOn_72 (by decide) ?_
        refine lv_iadd hx hb ddX12_goOn_73 ?_
        refine zg_top2 (P := fun v => zi 1 1601 v) (E := fun v => v.toInt = v_8_10202.toInt + 1) (zi_addk z_8_10203 (n := 1) (by decide) (by decide)) (fun v_73_11867 z_73_11868 q_73_11869 => ?_)
        refine cg_put hC hO 0 (by decide) rfl rfl i_X12 tyX12_ok nmX12 7 (by decide) (List.mem_of_getElem? (i := 1) rfl) rfl rfl rfl (Nat.le_of_ble_eq_true rfl) ddX12_goOn_74 (fun H locs hO => ?_)
        have hO : cO D cy A s.heap s 2 ad (cup [(0, .inr (12, [u0_0, .ref (ad 1), u0_2, .int x0_3, u0_4, u0_5, .int v_8_10202, .int v_73_11867, .int x0_8, .int x0_9, .long w0x10, u0_11, u0_12, u0_13, u0_14, u0_15, u0_16, u0_17, u0_18, u0_19, u0_20, u0_21, u0_22, u0_23, u0_24, u0_25, u0_26, u0_27, u0_28, u0_29, u0_30, u0_31, u0_32, u0_33, u0_34, u0_35, u0_36, u0_37, u0_38, u0_39, u0_40, u0_41, u0_42, u0_43, u0_44, u0_45, u0_46, u0_47, u0_48, u0_49, u0_50, u0_51, u0_52, u0_53, u0_54, u0_55, u0_56, u0_57, u0_58, u0_59, u0_60, u0_61, u0_62, u0_63, u0_64, u0_65, u0_66, u0_67, u0_68, u0_69, u0_70, u0_71, u0_72, u0_73]))] g) _ _ := hO
        refine lv_aload_n hx hb ddX12_goOn_77 rfl (lv_at hl 1 rfl) ?_
        refine cg_get hC hO 0 (by decide) rfl rfl i_X12 6 (by decide) (List.mem_of_getElem? (i := 2) rfl) rfl ddX12_goOn_78 ?_
        refine lv_aload_n hx hb ddX12_goOn_81 rfl (lv_at hl 1 rfl) ?_
        refine cg_get hC hO 0 (by decide) rfl rfl i_X12 3 (by decide) (List.mem_of_getElem? (i := 3) rfl) rfl ddX12_goOn_82 ?_
        refine lv_icmp_lt (tgt := 112) hx hb ddX12_goOn_85 (by decide) (fun h_85_11870 => ?_) (fun h_85_11870 => ?_)
        · have q_85_11871 := zr_lt h_85_11870
          have z_85_11872 : zi 0 1599 v_8_10202 := zu_lt q_85_11871 z_8_10203 b0_3 (by decide)
          have z_85_11873 : zi 1 1600 x0_3 := zd_lt q_85_11871 z_8_10203 b0_3 (by decide)
          have q_112_11874 : (v_73_11867 : Int32).toInt ≤ (x0_3 : Int32).toInt := by omega
          have q_112_11875 := q_112_11874
          have z_112_11876 : zi 1 1600 v_73_11867 := zu_le q_112_11875 z_73_11868 z_85_11873 (by decide)
          refine lv_iload_n hx hb ddX12_goOn_112 rfl (lv_at hl 0 rfl) ?_
          refine cg_Si (As := [.int r_63_11863]) (rest := []) (mc := 0) (ms := 0) (rm := { frames := 0, cells := 0, slots := 0, locals := 0 }) hC hl.1 hO [] (by decide +kernel) (k_X12_isLetter l D cy _ _ (n := r_63_11863) ) gq_k_X12_goOn_k_X12_isLetter_231 rfl rfl rfl 1 (by decide +kernel) ⟨Nat.le_of_ble_eq_true rfl, Nat.le_of_ble_eq_true rfl⟩ rfl rfl (Nat.le_of_ble_eq_true rfl) ddX12_goOn_113 ⟨Nat.le_of_ble_eq_true rfl, Nat.le_of_ble_eq_true rfl⟩ (fun r_113_11879 nw_113_11877 l_113_11878 H locs hw hO => ?_)
          rcases hw with hw | hw
          · obtain ⟨z_113_11880, q_113_11881, q_113_11882, rfl, rfl⟩ := hw
            have hO : cO D cy A s.heap s 2 ad (cup [(0, .inr (12, [u0_0, .ref (ad 1), u0_2, .int x0_3, u0_4, u0_5, .int v_8_10202, .int v_73_11867, .int x0_8, .int x0_9, .long w0x10, u0_11, u0_12, u0_13, u0_14, u0_15, u0_16, u0_17, u0_18, u0_19, u0_20, u0_21, u0_22, u0_23, u0_24, u0_25, u0_26, u0_27, u0_28, u0_29, u0_30, u0_31, u0_32, u0_33, u0_34, u0_35, u0_36, u0_37, u0_38, u0_39, u0_40, u0_41, u0_42, u0_43, u0_44, u0_45, u0_46, u0_47, u0_48, u0_49, u0_50, u0_51, u0_52, u0_53, u0_54, u0_55, u0_56, u0_57, u0_58, u0_59, u0_60, u0_61, u0_62, u0_63, u0_64, u0_65, u0_66, u0_67, u0_68, u0_69, u0_70, u0_71, u0_72, u0_73]))] g) _ _ := hO
            have q_113_11883 := q_113_11881
            have q_113_11884 := q_113_11882
            refine lv_if_eq (tgt := 239) hx hb ddX12_goOn_116 (by decide) (fun h => absurd h (by decide)) (fun _ => ?_)
            have loop_119_12814 : ∀ (d_119_12815 : Nat) (v_119_12509 : Int32), zi 0 1600 v_119_12509 → (v_8_10202 : Int32).toInt + 1 ≤ (v_119_12509 : Int32).toInt ∧ (v_119_12509 : Int32).toInt ≤ (x0_3 : Int32).toInt → (1600 + 1 - v_119_12509.toInt).toNat < d_119_12815 → ∀ (H : Heap) (locs : List Loc), cO D cy A s.heap s 2 ad (cup [(0, .inr (12, [u0_0, .ref (ad 1), u0_2, .int x0_3, u0_4, u0_5, .int v_8_10202, .int v_119_12509, .int x0_8, .int x0_9, .long w0x10, u0_11, u0_12, u0_13, u0_14, u0_15, u0_16, u0_17, u0_18, u0_19, u0_20, u0_21, u0_22, u0_23, u0_24, u0_25, u0_26, u0_27, u0_28, u0_29, u0_30, u0_31, u0_32, u0_33, u0_34, u0_35, u0_36, u0_37, u0_38, u0_39, u0_40, u0_41, u0_42, u0_43, u0_44, u0_45, u0_46, u0_47, u0_48, u0_49, u0_50, u0_51, u0_52, u0_53, u0_54, u0_55, u0_56, u0_57, u0_58, u0_59, u0_60, u0_61, u0_62, u0_63, u0_64, u0_65, u0_66, u0_67, u0_68, u0_69, u0_70, u0_71, u0_72, u0_73]))] g) H locs → ∀ ls : Array Slot, lv_has ls 3 [(1, .int r_63_11863), (0, .ref (ad 0))] → W p l e { frames := 1, cells := 0, slots := 0, locals := 22 } s m [.ref (ad 0)].toArray below meth c H locs 0 0 (MQ below (cQv (fun nw lu => ∃ (y0_6 : Int32) (y0_7 : Int32) (y0_8 : Int32) (y0_9 : Int32) (w0_10 : Int64), (zi 0 1600 y0_6) ∧ (zi 0 1600 y0_7) ∧ (zi 0 5 y0_8) ∧ ((y0_7 : Int32).toInt ≤ (x0_3 : Int32).toInt) ∧ (rho (x0_7 : Int32) (x0_8 : Int32) ≤ rho (y0_7 : Int32) (y0_8 : Int32) ∧ ((x0_8 : Int32).toInt = 0 ∨ rho (x0_7 : Int32) (x0_8 : Int32) < rho (y0_7 : Int32) (y0_8 : Int32))) ∧ (lu = [(0, .inr (12, [u0_0, .ref (ad 1), u0_2, .int x0_3, u0_4, u0_5, .int y0_6, .int y0_7, .int y0_8, .int y0_9, .long w0_10, u0_11, u0_12, u0_13, u0_14, u0_15, u0_16, u0_17, u0_18, u0_19, u0_20, u0_21, u0_22, u0_23, u0_24, u0_25, u0_26, u0_27, u0_28, u0_29, u0_30, u0_31, u0_32, u0_33, u0_34, u0_35, u0_36, u0_37, u0_38, u0_39, u0_40, u0_41, u0_42, u0_43, u0_44, u0_45, u0_46, u0_47, u0_48, u0_49, u0_50, u0_51, u0_52, u0_53, u0_54, u0_55, u0_56, u0_57, u0_58, u0_59, u0_60, u0_61, u0_62, u0_63, u0_64, u0_65, u0_66, u0_67, u0_68, u0_69, u0_70, u0_71, u0_72, u0_73]))])) D 2 0 ad g A) [.ref (ad 0)].toArray s 0 0 A) (F0 m 119 ls [])  := by
              intro d_119_12815
              induction d_119_12815 with
              | zero => intro v_119_12509 z_119_12510 gb_119_12511 mu_119_12816; exact absurd mu_119_12816 (Nat.not_lt_zero _)
              | succ d_119_12815 ih_119_12817 =>
                intro v_119_12509 z_119_12510 gb_119_12511 mu_119_12816 H locs hO ls hl
                refine lv_aload_n hx hb ddX12_goOn_119 rfl (lv_at hl 1 rfl) ?_
                refine lv_aload_n hx hb ddX12_goOn_120 rfl (lv_at hl 1 rfl) ?_
                refine cg_get hC hO 0 (by decide) rfl rfl i_X12 7 (by decide) (List.mem_of_getElem? (i := 1) rfl) rfl ddX12_goOn_121 ?_
                refine cg_Vi (As := [.int v_119_12509]) (rest := []) (mc := 0) (ms := 0) (rm := { frames := 0, cells := 0, slots := 0, locals := 0 }) hC hl.1 hO [0, 1] (by decide +kernel) (k_X12_sign l D cy _ _ (u0_0 := u0_0) (c1 := c1) (u0_2 := u0_2) (x0_3 := x0_3) (u0_4 := u0_4) (u0_5 := u0_5) (u0_6 := .int v_8_10202) (u0_7 := .int v_119_12509) (u0_8 := .int x0_8) (u0_9 := .int x0_9) (u0_10 := .long w0x10) (u0_11 := u0_11) (u0_12 := u0_12) (u0_13 := u0_13) (u0_14 := u0_14) (u0_15 := u0_15) (u0_16 := u0_16) (u0_17 := u0_17) (u0_18 := u0_18) (u0_19 := u0_19) (u0_20 := u0_20) (u0_21 := u0_21) (u0_22 := u0_22) (u0_23 := u0_23) (u0_24 := u0_24) (u0_25 := u0_25) (u0_26 := u0_26) (u0_27 := u0_27) (u0_28 := u0_28) (u0_29 := u0_29) (u0_30 := u0_30) (u0_31 := u0_31) (u0_32 := u0_32) (u0_33 := u0_33) (u0_34 := u0_34) (u0_35 := u0_35) (u0_36 := u0_36) (u0_37 := u0_37) (u0_38 := u0_38) (u0_39 := u0_39) (u0_40 := u0_40) (u0_41 := u0_41) (u0_42 := u0_42) (u0_43 := u0_43) (u0_44 := u0_44) (u0_45 := u0_45) (u0_46 := u0_46) (u0_47 := u0_47) (u0_48 := u0_48) (u0_49 := u0_49) (u0_50 := u0_50) (u0_51 := u0_51) (u0_52 := u0_52) (u0_53 := u0_53) (u0_54 := u0_54) (u0_55 := u0_55) (u0_56 := u0_56) (u0_57 := u0_57) (u0_58 := u0_58) (u0_59 := u0_59) (u0_60 := u0_60) (u0_61 := u0_61) (u0_62 := u0_62) (u0_63 := u0_63) (u0_64 := u0_64) (u0_65 := u0_65) (u0_66 := u0_66) (u0_67 := u0_67) (u0_68 := u0_68) (u0_69 := u0_69) (u0_70 := u0_70) (u0_71 := u0_71) (u0_72 := u0_72) (u0_73 := u0_73) (k := v_119_12509) rfl a1 (zi_w (c := 0) (d := 1600) z_85_11873 (by decide)) z_119_12510) gq_k_X12_goOn_k_X12_sign_224 rfl rfl rfl 1 (by decide +kernel) ⟨Nat.le_of_ble_eq_true rfl, Nat.le_of_ble_eq_true rfl⟩ rfl (by decide) rfl rfl rfl (Nat.le_of_ble_eq_true rfl) ddX12_goOn_124 ⟨Nat.le_of_ble_eq_true rfl, Nat.le_of_ble_eq_true rfl⟩ (fun r_124_12820 nw_124_12818 l_124_12819 H locs hw hO => ?_)
                obtain ⟨z_124_12821, gp_124_12822, gp_124_12823, rfl⟩ := hw
                have hO : cO D cy A s.heap s 2 ad (cup [(0, .inr (12, [u0_0, .ref (ad 1), u0_2, .int x0_3, u0_4, u0_5, .int v_8_10202, .int v_119_12509, .int x0_8, .int x0_9, .long w0x10, u0_11, u0_12, u0_13, u0_14, u0_15, u0_16, u0_17, u0_18, u0_19, u0_20, u0_21, u0_22, u0_23, u0_24, u0_25, u0_26, u0_27, u0_28, u0_29, u0_30, u0_31, u0_32, u0_33, u0_34, u0_35, u0_36, u0_37, u0_38, u0_39, u0_40, u0_41, u0_42, u0_43, u0_44, u0_45, u0_46, u0_47, u0_48, u0_49, u0_50, u0_51, u0_52, u0_53, u0_54, u0_55, u0_56, u0_57, u0_58, u0_59, u0_60, u0_61, u0_62, u0_63, u0_64, u0_65, u0_66, u0_67, u0_68, u0_69, u0_70, u0_71, u0_72, u0_73]))] g) _ _ := hO
                refine cg_Si (As := [.int r_124_12820]) (rest := []) (mc := 0) (ms := 0) (rm := { frames := 0, cells := 0, slots := 0, locals := 0 }) hC hl.1 hO [] (by decide +kernel) (k_X12_isLetter l D cy _ _ (n := r_124_12820) ) gq_k_X12_goOn_k_X12_isLetter_231 rfl rfl rfl 1 (by decide +kernel) ⟨Nat.le_of_ble_eq_true rfl, Nat.le_of_ble_eq_true rfl⟩ rfl rfl (Nat.le_of_ble_eq_true rfl) ddX12_goOn_127 ⟨Nat.le_of_ble_eq_true rfl, Nat.le_of_ble_eq_true rfl⟩ (fun r_127_12826 nw_127_12824 l_127_12825 H locs hw hO => ?_)
                rcases hw with hw | hw
                · obtain ⟨z_127_12839, q_127_12840, q_127_12841, rfl, rfl⟩ := hw
                  have hO : cO D cy A s.heap s 2 ad (cup [(0, .inr (12, [u0_0, .ref (ad 1), u0_2, .int x0_3, u0_4, u0_5, .int v_8_10202, .int v_119_12509, .int x0_8, .int x0_9, .long w0x10, u0_11, u0_12, u0_13, u0_14, u0_15, u0_16, u0_17, u0_18, u0_19, u0_20, u0_21, u0_22, u0_23, u0_24, u0_25, u0_26, u0_27, u0_28, u0_29, u0_30, u0_31, u0_32, u0_33, u0_34, u0_35, u0_36, u0_37, u0_38, u0_39, u0_40, u0_41, u0_42, u0_43, u0_44, u0_45, u0_46, u0_47, u0_48, u0_49, u0_50, u0_51, u0_52, u0_53, u0_54, u0_55, u0_56, u0_57, u0_58, u0_59, u0_60, u0_61, u0_62, u0_63, u0_64, u0_65, u0_66, u0_67, u0_68, u0_69, u0_70, u0_71, u0_72, u0_73]))] g) _ _ := hO
                  have q_127_12842 := q_127_12840
                  have q_127_12843 := q_127_12841
                  refine lv_if_eq (tgt := 146) hx hb ddX12_goOn_130 (by decide) (fun h => absurd h (by decide)) (fun _ => ?_)
                  have q_133_12844 : (v_119_12509 : Int32).toInt < (x0_3 : Int32).toInt := by omega
                  have q_133_12845 := q_133_12844
                  have z_133_12846 : zi 0 1599 v_119_12509 := zu_lt q_133_12845 z_119_12510 z_85_11873 (by decide)
                  refine lv_aload_n hx hb ddX12_goOn_133 rfl (lv_at hl 1 rfl) ?_
                  refine lv_dup hx hb ddX12_goOn_134 rfl ?_
                  refine cg_get hC hO 0 (by decide) rfl rfl i_X12 7 (by decide) (List.mem_of_getElem? (i := 1) rfl) rfl ddX12_goOn_135 ?_
                  refine lv_iconst (v := 1) hx hb ddX12_goOn_138 (by decide) ?_
                  refine lv_iadd hx hb ddX12_goOn_139 ?_
                  refine zg_top2 (P := fun v => zi 1 1600 v) (E := fun v => v.toInt = v_119_12509.toInt + 1) (zi_addk z_133_12846 (n := 1) (by decide) (by decide)) (fun v_139_12847 z_139_12848 q_139_12849 => ?_)
                  refine cg_put hC hO 0 (by decide) rfl rfl i_X12 tyX12_ok nmX12 7 (by decide) (List.mem_of_getElem? (i := 1) rfl) rfl rfl rfl (Nat.le_of_ble_eq_true rfl) ddX12_goOn_140 (fun H locs hO => ?_)
                  have hO : cO D cy A s.heap s 2 ad (cup [(0, .inr (12, [u0_0, .ref (ad 1), u0_2, .int x0_3, u0_4, u0_5, .int v_8_10202, .int v_139_12847, .int x0_8, .int x0_9, .long w0x10, u0_11, u0_12, u0_13, u0_14, u0_15, u0_16, u0_17, u0_18, u0_19, u0_20, u0_21, u0_22, u0_23, u0_24, u0_25, u0_26, u0_27, u0_28, u0_29, u0_30, u0_31, u0_32, u0_33, u0_34, u0_35, u0_36, u0_37, u0_38, u0_39, u0_40, u0_41, u0_42, u0_43, u0_44, u0_45, u0_46, u0_47, u0_48, u0_49, u0_50, u0_51, u0_52, u0_53, u0_54, u0_55, u0_56, u0_57, u0_58, u0_59, u0_60, u0_61, u0_62, u0_63, u0_64, u0_65, u0_66, u0_67, u0_68, u0_69, u0_70, u0_71, u0_72, u0_73]))] g) _ _ := hO
                  refine lv_goto (tgt := 119) hx hb ddX12_goOn_143 (by decide) ?_
                  exact ih_119_12817 v_139_12847 (zi_w (c := 0) (d := 1600) z_139_12848 (by decide)) (by omega) (zm_up q_139_12849 ((zi_w (c := 0) (d := 1600) z_139_12848 (by decide))).2 (by decide) mu_119_12816) _ _ hO ls (lv_sub hl [0, 1] rfl)
                · obtain ⟨xf_127_12850, rfl, rfl⟩ := hw
                  have hO : cO D cy A s.heap s 2 ad (cup [(0, .inr (12, [u0_0, .ref (ad 1), u0_2, .int x0_3, u0_4, u0_5, .int v_8_10202, .int v_119_12509, .int x0_8, .int x0_9, .long w0x10, u0_11, u0_12, u0_13, u0_14, u0_15, u0_16, u0_17, u0_18, u0_19, u0_20, u0_21, u0_22, u0_23, u0_24, u0_25, u0_26, u0_27, u0_28, u0_29, u0_30, u0_31, u0_32, u0_33, u0_34, u0_35, u0_36, u0_37, u0_38, u0_39, u0_40, u0_41, u0_42, u0_43, u0_44, u0_45, u0_46, u0_47, u0_48, u0_49, u0_50, u0_51, u0_52, u0_53, u0_54, u0_55, u0_56, u0_57, u0_58, u0_59, u0_60, u0_61, u0_62, u0_63, u0_64, u0_65, u0_66, u0_67, u0_68, u0_69, u0_70, u0_71, u0_72, u0_73]))] g) _ _ := hO
                  refine lv_if_eq (tgt := 146) hx hb ddX12_goOn_130 (by decide) (fun _ => ?_) (fun h => absurd h (by decide))
                  refine lv_aload_n hx hb ddX12_goOn_146 rfl (lv_at hl 1 rfl) ?_
                  refine lv_lconst (v := 0) hx hb ddX12_goOn_147 (by decide) ?_
                  refine cg_put hC hO 0 (by decide) rfl rfl i_X12 tyX12_ok nmX12 10 (by decide) (List.mem_of_getElem? (i := 13) rfl) rfl rfl rfl (Nat.le_of_ble_eq_true rfl) ddX12_goOn_148 (fun H locs hO => ?_)
                  have hO : cO D cy A s.heap s 2 ad (cup [(0, .inr (12, [u0_0, .ref (ad 1), u0_2, .int x0_3, u0_4, u0_5, .int v_8_10202, .int v_119_12509, .int x0_8, .int x0_9, .long 0, u0_11, u0_12, u0_13, u0_14, u0_15, u0_16, u0_17, u0_18, u0_19, u0_20, u0_21, u0_22, u0_23, u0_24, u0_25, u0_26, u0_27, u0_28, u0_29, u0_30, u0_31, u0_32, u0_33, u0_34, u0_35, u0_36, u0_37, u0_38, u0_39, u0_40, u0_41, u0_42, u0_43, u0_44, u0_45, u0_46, u0_47, u0_48, u0_49, u0_50, u0_51, u0_52, u0_53, u0_54, u0_55, u0_56, u0_57, u0_58, u0_59, u0_60, u0_61, u0_62, u0_63, u0_64, u0_65, u0_66, u0_67, u0_68, u0_69, u0_70, u0_71, u0_72, u0_73]))] g) _ _ := hO
                  refine lv_aload_n hx hb ddX12_goOn_151 rfl (lv_at hl 1 rfl) ?_
                  refine cg_get hC hO 0 (by decide) rfl rfl i_X12 6 (by decide) (List.mem_of_getElem? (i := 2) rfl) rfl ddX12_goOn_152 ?_
                  refine lv_istore_n (lv' := [(2, .int v_8_10202), (1, .int r_63_11863), (0, .ref (ad 0))]) hx hb ddX12_goOn_155 rfl hl (by decide) rfl (fun ls hl => ?_)
                  have loop_156_13120 : ∀ (d_156_13121 : Nat) (v_156_13030 : Int32) (w_156_13032 : Int64), zi 0 1600 v_156_13030 → (1600 + 1 - v_156_13030.toInt).toNat < d_156_13121 → ∀ (H : Heap) (locs : List Loc), cO D cy A s.heap s 2 ad (cup [(0, .inr (12, [u0_0, .ref (ad 1), u0_2, .int x0_3, u0_4, u0_5, .int v_8_10202, .int v_119_12509, .int x0_8, .int x0_9, .long w_156_13032, u0_11, u0_12, u0_13, u0_14, u0_15, u0_16, u0_17, u0_18, u0_19, u0_20, u0_21, u0_22, u0_23, u0_24, u0_25, u0_26, u0_27, u0_28, u0_29, u0_30, u0_31, u0_32, u0_33, u0_34, u0_35, u0_36, u0_37, u0_38, u0_39, u0_40, u0_41, u0_42, u0_43, u0_44, u0_45, u0_46, u0_47, u0_48, u0_49, u0_50, u0_51, u0_52, u0_53, u0_54, u0_55, u0_56, u0_57, u0_58, u0_59, u0_60, u0_61, u0_62, u0_63, u0_64, u0_65, u0_66, u0_67, u0_68, u0_69, u0_70, u0_71, u0_72, u0_73]))] g) H locs → ∀ ls : Array Slot, lv_has ls 3 [(2, .int v_156_13030), (1, .int r_63_11863), (0, .ref (ad 0))] → W p l e { frames := 1, cells := 0, slots := 0, locals := 22 } s m [.ref (ad 0)].toArray below meth c H locs 0 0 (MQ below (cQv (fun nw lu => ∃ (y0_6 : Int32) (y0_7 : Int32) (y0_8 : Int32) (y0_9 : Int32) (w0_10 : Int64), (zi 0 1600 y0_6) ∧ (zi 0 1600 y0_7) ∧ (zi 0 5 y0_8) ∧ ((y0_7 : Int32).toInt ≤ (x0_3 : Int32).toInt) ∧ (rho (x0_7 : Int32) (x0_8 : Int32) ≤ rho (y0_7 : Int32) (y0_8 : Int32) ∧ ((x0_8 : Int32).toInt = 0 ∨ rho (x0_7 : Int32) (x0_8 : Int32) < rho (y0_7 : Int32) (y0_8 : Int32))) ∧ (lu = [(0, .inr (12, [u0_0, .ref (ad 1), u0_2, .int x0_3, u0_4, u0_5, .int y0_6, .int y0_7, .int y0_8, .int y0_9, .long w0_10, u0_11, u0_12, u0_13, u0_14, u0_15, u0_16, u0_17, u0_18, u0_19, u0_20, u0_21, u0_22, u0_23, u0_24, u0_25, u0_26, u0_27, u0_28, u0_29, u0_30, u0_31, u0_32, u0_33, u0_34, u0_35, u0_36, u0_37, u0_38, u0_39, u0_40, u0_41, u0_42, u0_43, u0_44, u0_45, u0_46, u0_47, u0_48, u0_49, u0_50, u0_51, u0_52, u0_53, u0_54, u0_55, u0_56, u0_57, u0_58, u0_59, u0_60, u0_61, u0_62, u0_63, u0_64, u0_65, u0_66, u0_67, u0_68, u0_69, u0_70, u0_71, u0_72, u0_73]))])) D 2 0 ad g A) [.ref (ad 0)].toArray s 0 0 A) (F0 m 156 ls [])  := by
                    intro d_156_13121
                    induction d_156_13121 with
                    | zero => intro v_156_13030 w_156_13032 z_156_13031 mu_156_13122; exact absurd mu_156_13122 (Nat.not_lt_zero _)
                    | succ d_156_13121 ih_156_13123 =>
                      intro v_156_13030 w_156_13032 z_156_13031 mu_156_13122 H locs hO ls hl
                      refine lv_iload_n hx hb ddX12_goOn_156 rfl (lv_at hl 0 rfl) ?_
                      refine lv_aload_n hx hb ddX12_goOn_157 rfl (lv_at hl 2 rfl) ?_
                      refine cg_get hC hO 0 (by decide) rfl rfl i_X12 7 (by decide) (List.mem_of_getElem? (i := 1) rfl) rfl ddX12_goOn_158 ?_
                      have J_199_13152 : ∀ (H : Heap) (locs : List Loc), cO D cy A s.heap s 2 ad (cup [(0, .inr (12, [u0_0, .ref (ad 1), u0_2, .int x0_3, u0_4, u0_5, .int v_8_10202, .int v_119_12509, .int x0_8, .int x0_9, .long w_156_13032, u0_11, u0_12, u0_13, u0_14, u0_15, u0_16, u0_17, u0_18, u0_19, u0_20, u0_21, u0_22, u0_23, u0_24, u0_25, u0_26, u0_27, u0_28, u0_29, u0_30, u0_31, u0_32, u0_33, u0_34, u0_35, u0_36, u0_37, u0_38, u0_39, u0_40, u0_41, u0_42, u0_43, u0_44, u0_45, u0_46, u0_47, u0_48, u0_49, u0_50, u0_51, u0_52, u0_53, u0_54, u0_55, u0_56, u0_57, u0_58, u0_59, u0_60, u0_61, u0_62, u0_63, u0_64, u0_65, u0_66, u0_67, u0_68, u0_69, u0_70, u0_71, u0_72, u0_73]))] g) H locs → ∀ ls : Array Slot, lv_has ls 3 [(2, .int v_156_13030), (1, .int r_63_11863), (0, .ref (ad 0))] → W p l e { frames := 1, cells := 0, slots := 0, locals := 22 } s m [.ref (ad 0)].toArray below meth c H locs 0 0 (MQ below (cQv (fun nw lu => ∃ (y0_6 : Int32) (y0_7 : Int32) (y0_8 : Int32) (y0_9 : Int32) (w0_10 : Int64), (zi 0 1600 y0_6) ∧ (zi 0 1600 y0_7) ∧ (zi 0 5 y0_8) ∧ ((y0_7 : Int32).toInt ≤ (x0_3 : Int32).toInt) ∧ (rho (x0_7 : Int32) (x0_8 : Int32) ≤ rho (y0_7 : Int32) (y0_8 : Int32) ∧ ((x0_8 : Int32).toInt = 0 ∨ rho (x0_7 : Int32) (x0_8 : Int32) < rho (y0_7 : Int32) (y0_8 : Int32))) ∧ (lu = [(0, .inr (12, [u0_0, .ref (ad 1), u0_2, .int x0_3, u0_4, u0_5, .int y0_6, .int y0_7, .int y0_8, .int y0_9, .long w0_10, u0_11, u0_12, u0_13, u0_14, u0_15, u0_16, u0_17, u0_18, u0_19, u0_20, u0_21, u0_22, u0_23, u0_24, u0_25, u0_26, u0_27, u0_28, u0_29, u0_30, u0_31, u0_32, u0_33, u0_34, u0_35, u0_36, u0_37, u0_38, u0_39, u0_40, u0_41, u0_42, u0_43, u0_44, u0_45, u0_46, u0_47, u0_48, u0_49, u0_50, u0_51, u0_52, u0_53, u0_54, u0_55, u0_56, u0_57, u0_58, u0_59, u0_60, u0_61, u0_62, u0_63, u0_64, u0_65, u0_66, u0_67, u0_68, u0_69, u0_70, u0_71, u0_72, u0_73]))])) D 2 0 ad g A) [.ref (ad 0)].toArray s 0 0 A) (F0 m 199 ls []) := by
                        intro  H locs hO ls hl
                        refine lv_aload_n hx hb ddX12_goOn_199 rfl (lv_at hl 2 rfl) ?_
                        refine lv_aload_n hx hb ddX12_goOn_200 rfl (lv_at hl 2 rfl) ?_
                        refine cg_get hC hO 0 (by decide) rfl rfl i_X12 7 (by decide) (List.mem_of_getElem? (i := 1) rfl) rfl ddX12_goOn_201 ?_
                        refine lv_aload_n hx hb ddX12_goOn_204 rfl (lv_at hl 2 rfl) ?_
                        refine cg_get hC hO 0 (by decide) rfl rfl i_X12 6 (by decide) (List.mem_of_getElem? (i := 2) rfl) rfl ddX12_goOn_205 ?_
                        refine lv_isub hx hb ddX12_goOn_208 ?_
                        refine zg_top2 (P := fun v => zi (-1599) 1600 v) (E := fun v => v.toInt = (v_119_12509 : Int32).toInt - (v_8_10202 : Int32).toInt) (zi_sub z_119_12510 z_85_11872 (by decide)) (fun v_208_13153 z_208_13154 q_208_13155 => ?_)
                        refine lv_bipush (v := 8) hx hb ddX12_goOn_209 (by decide) ?_
                        have J_233_13172 : ∀ (v_233_13170 : Int32), zi 1 3 v_233_13170 → ∀ (H : Heap) (locs : List Loc), cO D cy A s.heap s 2 ad (cup [(0, .inr (12, [u0_0, .ref (ad 1), u0_2, .int x0_3, u0_4, u0_5, .int v_8_10202, .int v_119_12509, .int x0_8, .int x0_9, .long w_156_13032, u0_11, u0_12, u0_13, u0_14, u0_15, u0_16, u0_17, u0_18, u0_19, u0_20, u0_21, u0_22, u0_23, u0_24, u0_25, u0_26, u0_27, u0_28, u0_29, u0_30, u0_31, u0_32, u0_33, u0_34, u0_35, u0_36, u0_37, u0_38, u0_39, u0_40, u0_41, u0_42, u0_43, u0_44, u0_45, u0_46, u0_47, u0_48, u0_49, u0_50, u0_51, u0_52, u0_53, u0_54, u0_55, u0_56, u0_57, u0_58, u0_59, u0_60, u0_61, u0_62, u0_63, u0_64, u0_65, u0_66, u0_67, u0_68, u0_69, u0_70, u0_71, u0_72, u0_73]))] g) H locs → ∀ ls : Array Slot, lv_has ls 3 [(2, .int v_156_13030), (1, .int r_63_11863), (0, .ref (ad 0))] → W p l e { frames := 1, cells := 0, slots := 0, locals := 22 } s m [.ref (ad 0)].toArray below meth c H locs 0 0 (MQ below (cQv (fun nw lu => ∃ (y0_6 : Int32) (y0_7 : Int32) (y0_8 : Int32) (y0_9 : Int32) (w0_10 : Int64), (zi 0 1600 y0_6) ∧ (zi 0 1600 y0_7) ∧ (zi 0 5 y0_8) ∧ ((y0_7 : Int32).toInt ≤ (x0_3 : Int32).toInt) ∧ (rho (x0_7 : Int32) (x0_8 : Int32) ≤ rho (y0_7 : Int32) (y0_8 : Int32) ∧ ((x0_8 : Int32).toInt = 0 ∨ rho (x0_7 : Int32) (x0_8 : Int32) < rho (y0_7 : Int32) (y0_8 : Int32))) ∧ (lu = [(0, .inr (12, [u0_0, .ref (ad 1), u0_2, .int x0_3, u0_4, u0_5, .int y0_6, .int y0_7, .int y0_8, .int y0_9, .long w0_10, u0_11, u0_12, u0_13, u0_14, u0_15, u0_16, u0_17, u0_18, u0_19, u0_20, u0_21, u0_22, u0_23, u0_24, u0_25, u0_26, u0_27, u0_28, u0_29, u0_30, u0_31, u0_32, u0_33, u0_34, u0_35, u0_36, u0_37, u0_38, u0_39, u0_40, u0_41, u0_42, u0_43, u0_44, u0_45, u0_46, u0_47, u0_48, u0_49, u0_50, u0_51, u0_52, u0_53, u0_54, u0_55, u0_56, u0_57, u0_58, u0_59, u0_60, u0_61, u0_62, u0_63, u0_64, u0_65, u0_66, u0_67, u0_68, u0_69, u0_70, u0_71, u0_72, u0_73]))])) D 2 0 ad g A) [.ref (ad 0)].toArray s 0 0 A) (F0 m 233 ls [.int v_233_13170, .ref (ad 0)]) := by
                          intro v_233_13170 z_233_13171 H locs hO ls hl
                          refine cg_put hC hO 0 (by decide) rfl rfl i_X12 tyX12_ok nmX12 8 (by decide) (List.mem_of_getElem? (i := 32) rfl) rfl rfl rfl (Nat.le_of_ble_eq_true rfl) ddX12_goOn_233 (fun H locs hO => ?_)
                          have hO : cO D cy A s.heap s 2 ad (cup [(0, .inr (12, [u0_0, .ref (ad 1), u0_2, .int x0_3, u0_4, u0_5, .int v_8_10202, .int v_119_12509, .int v_233_13170, .int x0_9, .long w_156_13032, u0_11, u0_12, u0_13, u0_14, u0_15, u0_16, u0_17, u0_18, u0_19, u0_20, u0_21, u0_22, u0_23, u0_24, u0_25, u0_26, u0_27, u0_28, u0_29, u0_30, u0_31, u0_32, u0_33, u0_34, u0_35, u0_36, u0_37, u0_38, u0_39, u0_40, u0_41, u0_42, u0_43, u0_44, u0_45, u0_46, u0_47, u0_48, u0_49, u0_50, u0_51, u0_52, u0_53, u0_54, u0_55, u0_56, u0_57, u0_58, u0_59, u0_60, u0_61, u0_62, u0_63, u0_64, u0_65, u0_66, u0_67, u0_68, u0_69, u0_70, u0_71, u0_72, u0_73]))] g) _ _ := hO
                          refine lv_goto (tgt := 377) hx hb ddX12_goOn_236 (by decide) ?_
                          exact cg_vret (nw := fun _ => 0) hC hr hlk hO.same (Nat.le_of_ble_eq_true rfl) (Nat.le_of_ble_eq_true rfl) (⟨v_8_10202, v_119_12509, v_233_13170, x0_9, w_156_13032, (zi_w (c := 0) (d := 1600) z_85_11872 (by decide)), z_119_12510, (zi_w (c := 0) (d := 5) z_233_13171 (by decide)), (by omega), (rho_go (by omega) (by omega)), rfl⟩) ddX12_goOn_377
                        refine lv_icmp_le (tgt := 218) hx hb ddX12_goOn_211 (by decide) (fun h_211_13156 => ?_) (fun h_211_13156 => ?_)
                        · have q_211_13173 := zr_le h_211_13156
                          have z_211_13174 : zi (-1599) 8 v_208_13153 := zu_le q_211_13173 z_208_13154 (zi_k (a := 8) (b := 8) (x := 8) rfl) (by decide)
                          refine lv_aload_n hx hb ddX12_goOn_218 rfl (lv_at hl 2 rfl) ?_
                          refine cg_get hC hO 0 (by decide) rfl rfl i_X12 10 (by decide) (List.mem_of_getElem? (i := 13) rfl) rfl ddX12_goOn_219 ?_
                          refine cg_Si (As := [.long w_156_13032]) (rest := [.ref (ad 0)]) (mc := 0) (ms := 0) (rm := { frames := 0, cells := 0, slots := 0, locals := 0 }) hC hl.1 hO [] (by decide +kernel) (k_X12_isKept l D cy _ _ (name := w_156_13032) ) gq_k_X12_goOn_k_X12_isKept_239 rfl rfl rfl 1 (by decide +kernel) ⟨Nat.le_of_ble_eq_true rfl, Nat.le_of_ble_eq_true rfl⟩ rfl rfl (Nat.le_of_ble_eq_true rfl) ddX12_goOn_222 ⟨Nat.le_of_ble_eq_true rfl, Nat.le_of_ble_eq_true rfl⟩ (fun r_222_13177 nw_222_13175 l_222_13176 H locs hw hO => ?_)
                          obtain ⟨z_222_13178, rfl⟩ := hw
                          have hO : cO D cy A s.heap s 2 ad (cup [(0, .inr (12, [u0_0, .ref (ad 1), u0_2, .int x0_3, u0_4, u0_5, .int v_8_10202, .int v_119_12509, .int x0_8, .int x0_9, .long w_156_13032, u0_11, u0_12, u0_13, u0_14, u0_15, u0_16, u0_17, u0_18, u0_19, u0_20, u0_21, u0_22, u0_23, u0_24, u0_25, u0_26, u0_27, u0_28, u0_29, u0_30, u0_31, u0_32, u0_33, u0_34, u0_35, u0_36, u0_37, u0_38, u0_39, u0_40, u0_41, u0_42, u0_43, u0_44, u0_45, u0_46, u0_47, u0_48, u0_49, u0_50, u0_51, u0_52, u0_53, u0_54, u0_55, u0_56, u0_57, u0_58, u0_59, u0_60, u0_61, u0_62, u0_63, u0_64, u0_65, u0_66, u0_67, u0_68, u0_69, u0_70, u0_71, u0_72, u0_73]))] g) _ _ := hO
                          refine lv_if_eq (tgt := 232) hx hb ddX12_goOn_225 (by decide) (fun h_225_13179 => ?_) (fun h_225_13179 => ?_)
                          · have qk_225_13180 : r_222_13177.toInt = 0 := (zr_eq h_225_13179).trans (by decide)
                            have q_225_13181 := zr_eq h_225_13179
                            have z_225_13182 : zi 0 0 r_222_13177 := ze_eq q_225_13181 z_222_13178 (zi_k (a := 0) (b := 0) (x := 0) rfl)
                            refine lv_iconst (v := 2) hx hb ddX12_goOn_232 (by decide) ?_
                            exact J_233_13172 2 (zi_k (a := 1) (b := 3) (x := 2) rfl) _ _ hO ls (lv_sub hl [0, 1, 2] rfl)
                          · have qk_225_13183 : ¬ (r_222_13177.toInt = 0) := (fun z => (zr_ne h_225_13179) (z.trans (by decide)))
                            have q_225_13184 := zr_ne h_225_13179
                            have z_225_13185 : zi 1 1 r_222_13177 := zn_lo q_225_13184 z_222_13178 (zi_k (a := 0) (b := 0) (x := 0) rfl) (by decide)
                            refine lv_iconst (v := 3) hx hb ddX12_goOn_228 (by decide) ?_
                            refine lv_goto (tgt := 233) hx hb ddX12_goOn_229 (by decide) ?_
                            exact J_233_13172 3 (zi_k (a := 1) (b := 3) (x := 3) rfl) _ _ hO ls (lv_sub hl [0, 1, 2] rfl)
                        · have q_211_13186 := zr_nle h_211_13156
                          have z_211_13187 : zi 9 1600 v_208_13153 := zd_lt q_211_13186 (zi_k (a := 8) (b := 8) (x := 8) rfl) z_208_13154 (by decide)
                          refine lv_iconst (v := 1) hx hb ddX12_goOn_214 (by decide) ?_
                          refine lv_goto (tgt := 233) hx hb ddX12_goOn_215 (by decide) ?_
                          exact J_233_13172 1 (zi_k (a := 1) (b := 3) (x := 1) rfl) _ _ hO ls (lv_sub hl [0, 1, 2] rfl)
                      refine lv_icmp_ge (tgt := 199) hx hb ddX12_goOn_161 (by decide) (fun h_161_13124 => ?_) (fun h_161_13124 => ?_)
                      · have q_161_13188 := zr_le h_161_13124
                        exact J_199_13152  _ _ hO ls (lv_sub hl [0, 1, 2] rfl)
                      · have q_161_13189 := zr_nle h_161_13124
                        have z_161_13190 : zi 0 1599 v_156_13030 := zu_lt q_161_13189 z_156_13031 z_119_12510 (by decide)
                        have z_161_13191 : zi 1 1600 v_119_12509 := zd_lt q_161_13189 z_156_13031 z_119_12510 (by decide)
                        refine lv_iload_n hx hb ddX12_goOn_164 rfl (lv_at hl 0 rfl) ?_
                        refine lv_aload_n hx hb ddX12_goOn_165 rfl (lv_at hl 2 rfl) ?_
                        refine cg_get hC hO 0 (by decide) rfl rfl i_X12 6 (by decide) (List.mem_of_getElem? (i := 2) rfl) rfl ddX12_goOn_166 ?_
                        refine lv_bipush (v := 8) hx hb ddX12_goOn_169 (by decide) ?_
                        refine lv_iadd hx hb ddX12_goOn_171 ?_
                        refine zg_top2 (P := fun v => zi 8 1607 v) (E := fun v => v.toInt = v_8_10202.toInt + 8) (zi_addk z_85_11872 (n := 8) (by decide) (by decide)) (fun v_171_13192 z_171_13193 q_171_13194 => ?_)
                        refine lv_icmp_ge (tgt := 199) hx hb ddX12_goOn_172 (by decide) (fun h_172_13195 => ?_) (fun h_172_13195 => ?_)
                        · have q_172_13196 := zr_le h_172_13195
                          have z_172_13197 : zi 8 1599 v_171_13192 := zu_le q_172_13196 z_171_13193 z_161_13190 (by decide)
                          have z_172_13198 : zi 0 1591 v_8_10202 := zp_add q_171_13194 z_172_13197 z_85_11872 (by decide)
                          have z_172_13199 : zi 8 1599 v_156_13030 := zd_le q_172_13196 z_171_13193 z_161_13190 (by decide)
                          have z_172_13200 : zi 9 1600 v_119_12509 := zd_lt q_161_13189 z_172_13199 z_161_13191 (by decide)
                          exact J_199_13152  _ _ hO ls (lv_sub hl [0, 1, 2] rfl)
                        · have q_172_13201 := zr_nle h_172_13195
                          refine lv_aload_n hx hb ddX12_goOn_175 rfl (lv_at hl 2 rfl) ?_
                          refine lv_aload_n hx hb ddX12_goOn_176 rfl (lv_at hl 2 rfl) ?_
                          refine cg_get hC hO 0 (by decide) rfl rfl i_X12 10 (by decide) (List.mem_of_getElem? (i := 13) rfl) rfl ddX12_goOn_177 ?_
                          refine lv_bipush (v := 8) hx hb ddX12_goOn_180 (by decide) ?_
                          refine lv_lshl hx hb ddX12_goOn_182 rfl ?_
                          refine lv_topl (fun w_182_13202 _ => ?_)
                          refine lv_aload_n hx hb ddX12_goOn_183 rfl (lv_at hl 2 rfl) ?_
                          refine lv_iload_n hx hb ddX12_goOn_184 rfl (lv_at hl 0 rfl) ?_
                          refine cg_Vi (As := [.int v_156_13030]) (rest := [.long w_182_13202, .ref (ad 0)]) (mc := 0) (ms := 0) (rm := { frames := 0, cells := 0, slots := 0, locals := 0 }) hC hl.1 hO [0, 1] (by decide +kernel) (k_X12_sign l D cy _ _ (u0_0 := u0_0) (c1 := c1) (u0_2 := u0_2) (x0_3 := x0_3) (u0_4 := u0_4) (u0_5 := u0_5) (u0_6 := .int v_8_10202) (u0_7 := .int v_119_12509) (u0_8 := .int x0_8) (u0_9 := .int x0_9) (u0_10 := .long w_156_13032) (u0_11 := u0_11) (u0_12 := u0_12) (u0_13 := u0_13) (u0_14 := u0_14) (u0_15 := u0_15) (u0_16 := u0_16) (u0_17 := u0_17) (u0_18 := u0_18) (u0_19 := u0_19) (u0_20 := u0_20) (u0_21 := u0_21) (u0_22 := u0_22) (u0_23 := u0_23) (u0_24 := u0_24) (u0_25 := u0_25) (u0_26 := u0_26) (u0_27 := u0_27) (u0_28 := u0_28) (u0_29 := u0_29) (u0_30 := u0_30) (u0_31 := u0_31) (u0_32 := u0_32) (u0_33 := u0_33) (u0_34 := u0_34) (u0_35 := u0_35) (u0_36 := u0_36) (u0_37 := u0_37) (u0_38 := u0_38) (u0_39 := u0_39) (u0_40 := u0_40) (u0_41 := u0_41) (u0_42 := u0_42) (u0_43 := u0_43) (u0_44 := u0_44) (u0_45 := u0_45) (u0_46 := u0_46) (u0_47 := u0_47) (u0_48 := u0_48) (u0_49 := u0_49) (u0_50 := u0_50) (u0_51 := u0_51) (u0_52 := u0_52) (u0_53 := u0_53) (u0_54 := u0_54) (u0_55 := u0_55) (u0_56 := u0_56) (u0_57 := u0_57) (u0_58 := u0_58) (u0_59 := u0_59) (u0_60 := u0_60) (u0_61 := u0_61) (u0_62 := u0_62) (u0_63 := u0_63) (u0_64 := u0_64) (u0_65 := u0_65) (u0_66 := u0_66) (u0_67 := u0_67) (u0_68 := u0_68) (u0_69 := u0_69) (u0_70 := u0_70) (u0_71 := u0_71) (u0_72 := u0_72) (u0_73 := u0_73) (k := v_156_13030) rfl a1 (zi_w (c := 0) (d := 1600) z_85_11873 (by decide)) (zi_w (c := 0) (d := 1600) z_161_13190 (by decide))) gq_k_X12_goOn_k_X12_sign_224 rfl rfl rfl 1 (by decide +kernel) ⟨Nat.le_of_ble_eq_true rfl, Nat.le_of_ble_eq_true rfl⟩ rfl (by decide) rfl rfl rfl (Nat.le_of_ble_eq_true rfl) ddX12_goOn_185 ⟨Nat.le_of_ble_eq_true rfl, Nat.le_of_ble_eq_true rfl⟩ (fun r_185_13205 nw_185_13203 l_185_13204 H locs hw hO => ?_)
                          obtain ⟨z_185_13206, gp_185_13207, gp_185_13208, rfl⟩ := hw
                          have hO : cO D cy A s.heap s 2 ad (cup [(0, .inr (12, [u0_0, .ref (ad 1), u0_2, .int x0_3, u0_4, u0_5, .int v_8_10202, .int v_119_12509, .int x0_8, .int x0_9, .long w_156_13032, u0_11, u0_12, u0_13, u0_14, u0_15, u0_16, u0_17, u0_18, u0_19, u0_20, u0_21, u0_22, u0_23, u0_24, u0_25, u0_26, u0_27, u0_28, u0_29, u0_30, u0_31, u0_32, u0_33, u0_34, u0_35, u0_36, u0_37, u0_38, u0_39, u0_40, u0_41, u0_42, u0_43, u0_44, u0_45, u0_46, u0_47, u0_48, u0_49, u0_50, u0_51, u0_52, u0_53, u0_54, u0_55, u0_56, u0_57, u0_58, u0_59, u0_60, u0_61, u0_62, u0_63, u0_64, u0_65, u0_66, u0_67, u0_68, u0_69, u0_70, u0_71, u0_72, u0_73]))] g) _ _ := hO
                          refine lv_i2l hx hb ddX12_goOn_188 rfl ?_
                          refine lv_topl (fun w_188_13209 _ => ?_)
                          refine lv_lor hx hb ddX12_goOn_189 ?_
                          refine lv_topl (fun w_189_13210 _ => ?_)
                          refine cg_put hC hO 0 (by decide) rfl rfl i_X12 tyX12_ok nmX12 10 (by decide) (List.mem_of_getElem? (i := 13) rfl) rfl rfl rfl (Nat.le_of_ble_eq_true rfl) ddX12_goOn_190 (fun H locs hO => ?_)
                          have hO : cO D cy A s.heap s 2 ad (cup [(0, .inr (12, [u0_0, .ref (ad 1), u0_2, .int x0_3, u0_4, u0_5, .int v_8_10202, .int v_119_12509, .int x0_8, .int x0_9, .long w_189_13210, u0_11, u0_12, u0_13, u0_14, u0_15, u0_16, u0_17, u0_18, u0_19, u0_20, u0_21, u0_22, u0_23, u0_24, u0_25, u0_26, u0_27, u0_28, u0_29, u0_30, u0_31, u0_32, u0_33, u0_34, u0_35, u0_36, u0_37, u0_38, u0_39, u0_40, u0_41, u0_42, u0_43, u0_44, u0_45, u0_46, u0_47, u0_48, u0_49, u0_50, u0_51, u0_52, u0_53, u0_54, u0_55, u0_56, u0_57, u0_58, u0_59, u0_60, u0_61, u0_62, u0_63, u0_64, u0_65, u0_66, u0_67, u0_68, u0_69, u0_70, u0_71, u0_72, u0_73]))] g) _ _ := hO
                          obtain ⟨v_193_13211, e_193_13212, z_193_13213, q_193_13214⟩ := zi_inc (e := 1) (f := 1600) 1 z_161_13190 (by decide)
                          refine lv_iinc (v := v_193_13211) (lv' := [(2, .int v_193_13211), (1, .int r_63_11863), (0, .ref (ad 0))]) hx hb ddX12_goOn_193 hl (k := 0) rfl e_193_13212 (by decide) rfl (fun ls hl => ?_)
                          refine lv_goto (tgt := 156) hx hb ddX12_goOn_196 (by decide) ?_
                          exact ih_156_13123 v_193_13211 w_189_13210 (zi_w (c := 0) (d := 1600) z_193_13213 (by decide)) (zm_up q_193_13214 ((zi_w (c := 0) (d := 1600) z_193_13213 (by decide))).2 (by decide) mu_156_13122) _ _ hO ls (lv_sub hl [0, 1, 2] rfl)
                  exact loop_156_13120 ((1600 + 1 - (v_8_10202 : Int32).toInt).toNat + 1) v_8_10202 0 (zi_w (c := 0) (d := 1600) z_85_11872 (by decide)) (Nat.lt_succ_self _) _ _ hO ls (lv_sub hl [0, 1, 2] rfl)
            exact loop_119_12814 ((1600 + 1 - (v_73_11867 : Int32).toInt).toNat + 1) v_73_11867 (zi_w (c := 0) (d := 1600) z_112_11876 (by decide)) (by omega) (Nat.lt_succ_self _) _ _ hO ls (lv_sub hl [0, 1] rfl)
          · obtain ⟨xf_113_13215, rfl, rfl⟩ := hw
            have hO : cO D cy A s.heap s 2 ad (cup [(0, .inr (12, [u0_0, .ref (ad 1), u0_2, .int x0_3, u0_4, u0_5, .int v_8_10202, .int v_73_11867, .int x0_8, .int x0_9, .long w0x10, u0_11, u0_12, u0_13, u0_14, u0_15, u0_16, u0_17, u0_18, u0_19, u0_20, u0_21, u0_22, u0_23, u0_24, u0_25, u0_26, u0_27, u0_28, u0_29, u0_30, u0_31, u0_32, u0_33, u0_34, u0_35, u0_36, u0_37, u0_38, u0_39, u0_40, u0_41, u0_42, u0_43, u0_44, u0_45, u0_46, u0_47, u0_48, u0_49, u0_50, u0_51, u0_52, u0_53, u0_54, u0_55, u0_56, u0_57, u0_58, u0_59, u0_60, u0_61, u0_62, u0_63, u0_64, u0_65, u0_66, u0_67, u0_68, u0_69, u0_70, u0_71, u0_72, u0_73]))] g) _ _ := hO
            refine lv_if_eq (tgt := 239) hx hb ddX12_goOn_116 (by decide) (fun _ => ?_) (fun h => absurd h (by decide))
            refine lv_iload_n hx hb ddX12_goOn_239 rfl (lv_at hl 0 rfl) ?_
            refine cg_Si (As := [.int r_63_11863]) (rest := []) (mc := 0) (ms := 0) (rm := { frames := 0, cells := 0, slots := 0, locals := 0 }) hC hl.1 hO [] (by decide +kernel) (k_X12_isDigit l D cy _ _ (n := r_63_11863) ) gq_k_X12_goOn_k_X12_isDigit_243 rfl rfl rfl 1 (by decide +kernel) ⟨Nat.le_of_ble_eq_true rfl, Nat.le_of_ble_eq_true rfl⟩ rfl rfl (Nat.le_of_ble_eq_true rfl) ddX12_goOn_240 ⟨Nat.le_of_ble_eq_true rfl, Nat.le_of_ble_eq_true rfl⟩ (fun r_240_13218 nw_240_13216 l_240_13217 H locs hw hO => ?_)
            rcases hw with hw | hw
            · obtain ⟨z_240_13219, q_240_13220, q_240_13221, rfl, rfl⟩ := hw
              have hO : cO D cy A s.heap s 2 ad (cup [(0, .inr (12, [u0_0, .ref (ad 1), u0_2, .int x0_3, u0_4, u0_5, .int v_8_10202, .int v_73_11867, .int x0_8, .int x0_9, .long w0x10, u0_11, u0_12, u0_13, u0_14, u0_15, u0_16, u0_17, u0_18, u0_19, u0_20, u0_21, u0_22, u0_23, u0_24, u0_25, u0_26, u0_27, u0_28, u0_29, u0_30, u0_31, u0_32, u0_33, u0_34, u0_35, u0_36, u0_37, u0_38, u0_39, u0_40, u0_41, u0_42, u0_43, u0_44, u0_45, u0_46, u0_47, u0_48, u0_49, u0_50, u0_51, u0_52, u0_53, u0_54, u0_55, u0_56, u0_57, u0_58, u0_59, u0_60, u0_61, u0_62, u0_63, u0_64, u0_65, u0_66, u0_67, u0_68, u0_69, u0_70, u0_71, u0_72, u0_73]))] g) _ _ := hO
              have q_240_13222 := q_240_13220
              have q_240_13223 := q_240_13221
              refine lv_if_eq (tgt := 361) hx hb ddX12_goOn_243 (by decide) (fun h => absurd h (by decide)) (fun _ => ?_)
              refine lv_aload_n hx hb ddX12_goOn_246 rfl (lv_at hl 1 rfl) ?_
              refine lv_iconst (v := 0) hx hb ddX12_goOn_247 (by decide) ?_
              refine cg_put hC hO 0 (by decide) rfl rfl i_X12 tyX12_ok nmX12 9 (by decide) (List.mem_of_getElem? (i := 36) rfl) rfl rfl rfl (Nat.le_of_ble_eq_true rfl) ddX12_goOn_248 (fun H locs hO => ?_)
              have hO : cO D cy A s.heap s 2 ad (cup [(0, .inr (12, [u0_0, .ref (ad 1), u0_2, .int x0_3, u0_4, u0_5, .int v_8_10202, .int v_73_11867, .int x0_8, .int 0, .long w0x10, u0_11, u0_12, u0_13, u0_14, u0_15, u0_16, u0_17, u0_18, u0_19, u0_20, u0_21, u0_22, u0_23, u0_24, u0_25, u0_26, u0_27, u0_28, u0_29, u0_30, u0_31, u0_32, u0_33, u0_34, u0_35, u0_36, u0_37, u0_38, u0_39, u0_40, u0_41, u0_42, u0_43, u0_44, u0_45, u0_46, u0_47, u0_48, u0_49, u0_50, u0_51, u0_52, u0_53, u0_54, u0_55, u0_56, u0_57, u0_58, u0_59, u0_60, u0_61, u0_62, u0_63, u0_64, u0_65, u0_66, u0_67, u0_68, u0_69, u0_70, u0_71, u0_72, u0_73]))] g) _ _ := hO
              refine lv_aload_n hx hb ddX12_goOn_251 rfl (lv_at hl 1 rfl) ?_
              refine lv_aload_n hx hb ddX12_goOn_252 rfl (lv_at hl 1 rfl) ?_
              refine cg_get hC hO 0 (by decide) rfl rfl i_X12 6 (by decide) (List.mem_of_getElem? (i := 2) rfl) rfl ddX12_goOn_253 ?_
              refine cg_put hC hO 0 (by decide) rfl rfl i_X12 tyX12_ok nmX12 7 (by decide) (List.mem_of_getElem? (i := 1) rfl) rfl rfl rfl (Nat.le_of_ble_eq_true rfl) ddX12_goOn_256 (fun H locs hO => ?_)
              have hO : cO D cy A s.heap s 2 ad (cup [(0, .inr (12, [u0_0, .ref (ad 1), u0_2, .int x0_3, u0_4, u0_5, .int v_8_10202, .int v_8_10202, .int x0_8, .int 0, .long w0x10, u0_11, u0_12, u0_13, u0_14, u0_15, u0_16, u0_17, u0_18, u0_19, u0_20, u0_21, u0_22, u0_23, u0_24, u0_25, u0_26, u0_27, u0_28, u0_29, u0_30, u0_31, u0_32, u0_33, u0_34, u0_35, u0_36, u0_37, u0_38, u0_39, u0_40, u0_41, u0_42, u0_43, u0_44, u0_45, u0_46, u0_47, u0_48, u0_49, u0_50, u0_51, u0_52, u0_53, u0_54, u0_55, u0_56, u0_57, u0_58, u0_59, u0_60, u0_61, u0_62, u0_63, u0_64, u0_65, u0_66, u0_67, u0_68, u0_69, u0_70, u0_71, u0_72, u0_73]))] g) _ _ := hO
              have loop_259_13810 : ∀ (d_259_13811 : Nat) (v_259_13666 : Int32) (v_259_13668 : Int32), zi 0 1600 v_259_13666 → (v_8_10202 : Int32).toInt ≤ (v_259_13666 : Int32).toInt ∧ (v_259_13666 : Int32).toInt ≤ (x0_3 : Int32).toInt → (1600 + 1 - v_259_13666.toInt).toNat < d_259_13811 → ∀ (H : Heap) (locs : List Loc), cO D cy A s.heap s 2 ad (cup [(0, .inr (12, [u0_0, .ref (ad 1), u0_2, .int x0_3, u0_4, u0_5, .int v_8_10202, .int v_259_13666, .int x0_8, .int v_259_13668, .long w0x10, u0_11, u0_12, u0_13, u0_14, u0_15, u0_16, u0_17, u0_18, u0_19, u0_20, u0_21, u0_22, u0_23, u0_24, u0_25, u0_26, u0_27, u0_28, u0_29, u0_30, u0_31, u0_32, u0_33, u0_34, u0_35, u0_36, u0_37, u0_38, u0_39, u0_40, u0_41, u0_42, u0_43, u0_44, u0_45, u0_46, u0_47, u0_48, u0_49, u0_50, u0_51, u0_52, u0_53, u0_54, u0_55, u0_56, u0_57, u0_58, u0_59, u0_60, u0_61, u0_62, u0_63, u0_64, u0_65, u0_66, u0_67, u0_68, u0_69, u0_70, u0_71, u0_72, u0_73]))] g) H locs → ∀ ls : Array Slot, lv_has ls 3 [(1, .int r_63_11863), (0, .ref (ad 0))] → W p l e { frames := 1, cells := 0, slots := 0, locals := 22 } s m [.ref (ad 0)].toArray below meth c H locs 0 0 (MQ below (cQv (fun nw lu => ∃ (y0_6 : Int32) (y0_7 : Int32) (y0_8 : Int32) (y0_9 : Int32) (w0_10 : Int64), (zi 0 1600 y0_6) ∧ (zi 0 1600 y0_7) ∧ (zi 0 5 y0_8) ∧ ((y0_7 : Int32).toInt ≤ (x0_3 : Int32).toInt) ∧ (rho (x0_7 : Int32) (x0_8 : Int32) ≤ rho (y0_7 : Int32) (y0_8 : Int32) ∧ ((x0_8 : Int32).toInt = 0 ∨ rho (x0_7 : Int32) (x0_8 : Int32) < rho (y0_7 : Int32) (y0_8 : Int32))) ∧ (lu = [(0, .inr (12, [u0_0, .ref (ad 1), u0_2, .int x0_3, u0_4, u0_5, .int y0_6, .int y0_7, .int y0_8, .int y0_9, .long w0_10, u0_11, u0_12, u0_13, u0_14, u0_15, u0_16, u0_17, u0_18, u0_19, u0_20, u0_21, u0_22, u0_23, u0_24, u0_25, u0_26, u0_27, u0_28, u0_29, u0_30, u0_31, u0_32, u0_33, u0_34, u0_35, u0_36, u0_37, u0_38, u0_39, u0_40, u0_41, u0_42, u0_43, u0_44, u0_45, u0_46, u0_47, u0_48, u0_49, u0_50, u0_51, u0_52, u0_53, u0_54, u0_55, u0_56, u0_57, u0_58, u0_59, u0_60, u0_61, u0_62, u0_63, u0_64, u0_65, u0_66, u0_67, u0_68, u0_69, u0_70, u0_71, u0_72, u0_73]))])) D 2 0 ad g A) [.ref (ad 0)].toArray s 0 0 A) (F0 m 259 ls [])  := by
                intro d_259_13811
                induction d_259_13811 with
                | zero => intro v_259_13666 v_259_13668 z_259_13667 gc_259_13669 mu_259_13812; exact absurd mu_259_13812 (Nat.not_lt_zero _)
                | succ d_259_13811 ih_259_13813 =>
                  intro v_259_13666 v_259_13668 z_259_13667 gc_259_13669 mu_259_13812 H locs hO ls hl
                  refine lv_aload_n hx hb ddX12_goOn_259 rfl (lv_at hl 1 rfl) ?_
                  refine lv_aload_n hx hb ddX12_goOn_260 rfl (lv_at hl 1 rfl) ?_
                  refine cg_get hC hO 0 (by decide) rfl rfl i_X12 7 (by decide) (List.mem_of_getElem? (i := 1) rfl) rfl ddX12_goOn_261 ?_
                  refine cg_Vi (As := [.int v_259_13666]) (rest := []) (mc := 0) (ms := 0) (rm := { frames := 0, cells := 0, slots := 0, locals := 0 }) hC hl.1 hO [0, 1] (by decide +kernel) (k_X12_sign l D cy _ _ (u0_0 := u0_0) (c1 := c1) (u0_2 := u0_2) (x0_3 := x0_3) (u0_4 := u0_4) (u0_5 := u0_5) (u0_6 := .int v_8_10202) (u0_7 := .int v_259_13666) (u0_8 := .int x0_8) (u0_9 := .int v_259_13668) (u0_10 := .long w0x10) (u0_11 := u0_11) (u0_12 := u0_12) (u0_13 := u0_13) (u0_14 := u0_14) (u0_15 := u0_15) (u0_16 := u0_16) (u0_17 := u0_17) (u0_18 := u0_18) (u0_19 := u0_19) (u0_20 := u0_20) (u0_21 := u0_21) (u0_22 := u0_22) (u0_23 := u0_23) (u0_24 := u0_24) (u0_25 := u0_25) (u0_26 := u0_26) (u0_27 := u0_27) (u0_28 := u0_28) (u0_29 := u0_29) (u0_30 := u0_30) (u0_31 := u0_31) (u0_32 := u0_32) (u0_33 := u0_33) (u0_34 := u0_34) (u0_35 := u0_35) (u0_36 := u0_36) (u0_37 := u0_37) (u0_38 := u0_38) (u0_39 := u0_39) (u0_40 := u0_40) (u0_41 := u0_41) (u0_42 := u0_42) (u0_43 := u0_43) (u0_44 := u0_44) (u0_45 := u0_45) (u0_46 := u0_46) (u0_47 := u0_47) (u0_48 := u0_48) (u0_49 := u0_49) (u0_50 := u0_50) (u0_51 := u0_51) (u0_52 := u0_52) (u0_53 := u0_53) (u0_54 := u0_54) (u0_55 := u0_55) (u0_56 := u0_56) (u0_57 := u0_57) (u0_58 := u0_58) (u0_59 := u0_59) (u0_60 := u0_60) (u0_61 := u0_61) (u0_62 := u0_62) (u0_63 := u0_63) (u0_64 := u0_64) (u0_65 := u0_65) (u0_66 := u0_66) (u0_67 := u0_67) (u0_68 := u0_68) (u0_69 := u0_69) (u0_70 := u0_70) (u0_71 := u0_71) (u0_72 := u0_72) (u0_73 := u0_73) (k := v_259_13666) rfl a1 (zi_w (c := 0) (d := 1600) z_85_11873 (by decide)) z_259_13667) gq_k_X12_goOn_k_X12_sign_224 rfl rfl rfl 1 (by decide +kernel) ⟨Nat.le_of_ble_eq_true rfl, Nat.le_of_ble_eq_true rfl⟩ rfl (by decide) rfl rfl rfl (Nat.le_of_ble_eq_true rfl) ddX12_goOn_264 ⟨Nat.le_of_ble_eq_true rfl, Nat.le_of_ble_eq_true rfl⟩ (fun r_264_13816 nw_264_13814 l_264_13815 H locs hw hO => ?_)
                  obtain ⟨z_264_13817, gp_264_13818, gp_264_13819, rfl⟩ := hw
                  have hO : cO D cy A s.heap s 2 ad (cup [(0, .inr (12, [u0_0, .ref (ad 1), u0_2, .int x0_3, u0_4, u0_5, .int v_8_10202, .int v_259_13666, .int x0_8, .int v_259_13668, .long w0x10, u0_11, u0_12, u0_13, u0_14, u0_15, u0_16, u0_17, u0_18, u0_19, u0_20, u0_21, u0_22, u0_23, u0_24, u0_25, u0_26, u0_27, u0_28, u0_29, u0_30, u0_31, u0_32, u0_33, u0_34, u0_35, u0_36, u0_37, u0_38, u0_39, u0_40, u0_41, u0_42, u0_43, u0_44, u0_45, u0_46, u0_47, u0_48, u0_49, u0_50, u0_51, u0_52, u0_53, u0_54, u0_55, u0_56, u0_57, u0_58, u0_59, u0_60, u0_61, u0_62, u0_63, u0_64, u0_65, u0_66, u0_67, u0_68, u0_69, u0_70, u0_71, u0_72, u0_73]))] g) _ _ := hO
                  refine cg_Si (As := [.int r_264_13816]) (rest := []) (mc := 0) (ms := 0) (rm := { frames := 0, cells := 0, slots := 0, locals := 0 }) hC hl.1 hO [] (by decide +kernel) (k_X12_isDigit l D cy _ _ (n := r_264_13816) ) gq_k_X12_goOn_k_X12_isDigit_243 rfl rfl rfl 1 (by decide +kernel) ⟨Nat.le_of_ble_eq_true rfl, Nat.le_of_ble_eq_true rfl⟩ rfl rfl (Nat.le_of_ble_eq_true rfl) ddX12_goOn_267 ⟨Nat.le_of_ble_eq_true rfl, Nat.le_of_ble_eq_true rfl⟩ (fun r_267_13822 nw_267_13820 l_267_13821 H locs hw hO => ?_)
                  rcases hw with hw | hw
                  · obtain ⟨z_267_13866, q_267_13867, q_267_13868, rfl, rfl⟩ := hw
                    have hO : cO D cy A s.heap s 2 ad (cup [(0, .inr (12, [u0_0, .ref (ad 1), u0_2, .int x0_3, u0_4, u0_5, .int v_8_10202, .int v_259_13666, .int x0_8, .int v_259_13668, .long w0x10, u0_11, u0_12, u0_13, u0_14, u0_15, u0_16, u0_17, u0_18, u0_19, u0_20, u0_21, u0_22, u0_23, u0_24, u0_25, u0_26, u0_27, u0_28, u0_29, u0_30, u0_31, u0_32, u0_33, u0_34, u0_35, u0_36, u0_37, u0_38, u0_39, u0_40, u0_41, u0_42, u0_43, u0_44, u0_45, u0_46, u0_47, u0_48, u0_49, u0_50, u0_51, u0_52, u0_53, u0_54, u0_55, u0_56, u0_57, u0_58, u0_59, u0_60, u0_61, u0_62, u0_63, u0_64, u0_65, u0_66, u0_67, u0_68, u0_69, u0_70, u0_71, u0_72, u0_73]))] g) _ _ := hO
                    have q_267_13869 := q_267_13867
                    have q_267_13870 := q_267_13868
                    refine lv_if_eq (tgt := 322) hx hb ddX12_goOn_270 (by decide) (fun h => absurd h (by decide)) (fun _ => ?_)
                    refine lv_aload_n hx hb ddX12_goOn_273 rfl (lv_at hl 1 rfl) ?_
                    refine cg_get hC hO 0 (by decide) rfl rfl i_X12 7 (by decide) (List.mem_of_getElem? (i := 1) rfl) rfl ddX12_goOn_274 ?_
                    refine lv_aload_n hx hb ddX12_goOn_277 rfl (lv_at hl 1 rfl) ?_
                    refine cg_get hC hO 0 (by decide) rfl rfl i_X12 6 (by decide) (List.mem_of_getElem? (i := 2) rfl) rfl ddX12_goOn_278 ?_
                    refine lv_isub hx hb ddX12_goOn_281 ?_
                    refine zg_top2 (P := fun v => zi (-1599) 1600 v) (E := fun v => v.toInt = (v_259_13666 : Int32).toInt - (v_8_10202 : Int32).toInt) (zi_sub z_259_13667 z_85_11872 (by decide)) (fun v_281_13871 z_281_13872 q_281_13873 => ?_)
                    refine lv_iconst (v := 4) hx hb ddX12_goOn_282 (by decide) ?_
                    have J_309_13889 : ∀ (v_309_13888 : Int32), ∀ (H : Heap) (locs : List Loc), cO D cy A s.heap s 2 ad (cup [(0, .inr (12, [u0_0, .ref (ad 1), u0_2, .int x0_3, u0_4, u0_5, .int v_8_10202, .int v_259_13666, .int x0_8, .int v_309_13888, .long w0x10, u0_11, u0_12, u0_13, u0_14, u0_15, u0_16, u0_17, u0_18, u0_19, u0_20, u0_21, u0_22, u0_23, u0_24, u0_25, u0_26, u0_27, u0_28, u0_29, u0_30, u0_31, u0_32, u0_33, u0_34, u0_35, u0_36, u0_37, u0_38, u0_39, u0_40, u0_41, u0_42, u0_43, u0_44, u0_45, u0_46, u0_47, u0_48, u0_49, u0_50, u0_51, u0_52, u0_53, u0_54, u0_55, u0_56, u0_57, u0_58, u0_59, u0_60, u0_61, u0_62, u0_63, u0_64, u0_65, u0_66, u0_67, u0_68, u0_69, u0_70, u0_71, u0_72, u0_73]))] g) H locs → ∀ ls : Array Slot, lv_has ls 3 [(1, .int r_63_11863), (0, .ref (ad 0))] → W p l e { frames := 1, cells := 0, slots := 0, locals := 22 } s m [.ref (ad 0)].toArray below meth c H locs 0 0 (MQ below (cQv (fun nw lu => ∃ (y0_6 : Int32) (y0_7 : Int32) (y0_8 : Int32) (y0_9 : Int32) (w0_10 : Int64), (zi 0 1600 y0_6) ∧ (zi 0 1600 y0_7) ∧ (zi 0 5 y0_8) ∧ ((y0_7 : Int32).toInt ≤ (x0_3 : Int32).toInt) ∧ (rho (x0_7 : Int32) (x0_8 : Int32) ≤ rho (y0_7 : Int32) (y0_8 : Int32) ∧ ((x0_8 : Int32).toInt = 0 ∨ rho (x0_7 : Int32) (x0_8 : Int32) < rho (y0_7 : Int32) (y0_8 : Int32))) ∧ (lu = [(0, .inr (12, [u0_0, .ref (ad 1), u0_2, .int x0_3, u0_4, u0_5, .int y0_6, .int y0_7, .int y0_8, .int y0_9, .long w0_10, u0_11, u0_12, u0_13, u0_14, u0_15, u0_16, u0_17, u0_18, u0_19, u0_20, u0_21, u0_22, u0_23, u0_24, u0_25, u0_26, u0_27, u0_28, u0_29, u0_30, u0_31, u0_32, u0_33, u0_34, u0_35, u0_36, u0_37, u0_38, u0_39, u0_40, u0_41, u0_42, u0_43, u0_44, u0_45, u0_46, u0_47, u0_48, u0_49, u0_50, u0_51, u0_52, u0_53, u0_54, u0_55, u0_56, u0_57, u0_58, u0_59, u0_60, u0_61, u0_62, u0_63, u0_64, u0_65, u0_66, u0_67, u0_68, u0_69, u0_70, u0_71, u0_72, u0_73]))])) D 2 0 ad g A) [.ref (ad 0)].toArray s 0 0 A) (F0 m 309 ls []) := by
                      intro v_309_13888 H locs hO ls hl
                      have q_309_13890 : (v_259_13666 : Int32).toInt < (x0_3 : Int32).toInt := by omega
                      have q_309_13891 := q_309_13890
                      have z_309_13892 : zi 0 1599 v_259_13666 := zu_lt q_309_13891 z_259_13667 z_85_11873 (by decide)
                      refine lv_aload_n hx hb ddX12_goOn_309 rfl (lv_at hl 1 rfl) ?_
                      refine lv_dup hx hb ddX12_goOn_310 rfl ?_
                      refine cg_get hC hO 0 (by decide) rfl rfl i_X12 7 (by decide) (List.mem_of_getElem? (i := 1) rfl) rfl ddX12_goOn_311 ?_
                      refine lv_iconst (v := 1) hx hb ddX12_goOn_314 (by decide) ?_
                      refine lv_iadd hx hb ddX12_goOn_315 ?_
                      refine zg_top2 (P := fun v => zi 1 1600 v) (E := fun v => v.toInt = v_259_13666.toInt + 1) (zi_addk z_309_13892 (n := 1) (by decide) (by decide)) (fun v_315_13893 z_315_13894 q_315_13895 => ?_)
                      refine cg_put hC hO 0 (by decide) rfl rfl i_X12 tyX12_ok nmX12 7 (by decide) (List.mem_of_getElem? (i := 1) rfl) rfl rfl rfl (Nat.le_of_ble_eq_true rfl) ddX12_goOn_316 (fun H locs hO => ?_)
                      have hO : cO D cy A s.heap s 2 ad (cup [(0, .inr (12, [u0_0, .ref (ad 1), u0_2, .int x0_3, u0_4, u0_5, .int v_8_10202, .int v_315_13893, .int x0_8, .int v_309_13888, .long w0x10, u0_11, u0_12, u0_13, u0_14, u0_15, u0_16, u0_17, u0_18, u0_19, u0_20, u0_21, u0_22, u0_23, u0_24, u0_25, u0_26, u0_27, u0_28, u0_29, u0_30, u0_31, u0_32, u0_33, u0_34, u0_35, u0_36, u0_37, u0_38, u0_39, u0_40, u0_41, u0_42, u0_43, u0_44, u0_45, u0_46, u0_47, u0_48, u0_49, u0_50, u0_51, u0_52, u0_53, u0_54, u0_55, u0_56, u0_57, u0_58, u0_59, u0_60, u0_61, u0_62, u0_63, u0_64, u0_65, u0_66, u0_67, u0_68, u0_69, u0_70, u0_71, u0_72, u0_73]))] g) _ _ := hO
                      refine lv_goto (tgt := 259) hx hb ddX12_goOn_319 (by decide) ?_
                      exact ih_259_13813 v_315_13893 v_309_13888 (zi_w (c := 0) (d := 1600) z_315_13894 (by decide)) (by omega) (zm_up q_315_13895 ((zi_w (c := 0) (d := 1600) z_315_13894 (by decide))).2 (by decide) mu_259_13812) _ _ hO ls (lv_sub hl [0, 1] rfl)
                    refine lv_icmp_ge (tgt := 309) hx hb ddX12_goOn_283 (by decide) (fun h_283_13874 => ?_) (fun h_283_13874 => ?_)
                    · have q_283_13896 := zr_le h_283_13874
                      have z_283_13897 : zi 4 1600 v_281_13871 := zd_le q_283_13896 (zi_k (a := 4) (b := 4) (x := 4) rfl) z_281_13872 (by decide)
                      exact J_309_13889 v_259_13668 _ _ hO ls (lv_sub hl [0, 1] rfl)
                    · have q_283_13898 := zr_nle h_283_13874
                      have z_283_13899 : zi (-1599) 3 v_281_13871 := zu_lt q_283_13898 z_281_13872 (zi_k (a := 4) (b := 4) (x := 4) rfl) (by decide)
                      refine lv_aload_n hx hb ddX12_goOn_286 rfl (lv_at hl 1 rfl) ?_
                      refine lv_bipush (v := 10) hx hb ddX12_goOn_287 (by decide) ?_
                      refine lv_aload_n hx hb ddX12_goOn_289 rfl (lv_at hl 1 rfl) ?_
                      refine cg_get hC hO 0 (by decide) rfl rfl i_X12 9 (by decide) (List.mem_of_getElem? (i := 36) rfl) rfl ddX12_goOn_290 ?_
                      refine lv_imul hx hb ddX12_goOn_293 ?_
                      refine lv_topi (fun v_293_13900 _ => ?_)
                      refine lv_aload_n hx hb ddX12_goOn_294 rfl (lv_at hl 1 rfl) ?_
                      refine lv_aload_n hx hb ddX12_goOn_295 rfl (lv_at hl 1 rfl) ?_
                      refine cg_get hC hO 0 (by decide) rfl rfl i_X12 7 (by decide) (List.mem_of_getElem? (i := 1) rfl) rfl ddX12_goOn_296 ?_
                      refine cg_Vi (As := [.int v_259_13666]) (rest := [.int v_293_13900, .ref (ad 0)]) (mc := 0) (ms := 0) (rm := { frames := 0, cells := 0, slots := 0, locals := 0 }) hC hl.1 hO [0, 1] (by decide +kernel) (k_X12_sign l D cy _ _ (u0_0 := u0_0) (c1 := c1) (u0_2 := u0_2) (x0_3 := x0_3) (u0_4 := u0_4) (u0_5 := u0_5) (u0_6 := .int v_8_10202) (u0_7 := .int v_259_13666) (u0_8 := .int x0_8) (u0_9 := .int v_259_13668) (u0_10 := .long w0x10) (u0_11 := u0_11) (u0_12 := u0_12) (u0_13 := u0_13) (u0_14 := u0_14) (u0_15 := u0_15) (u0_16 := u0_16) (u0_17 := u0_17) (u0_18 := u0_18) (u0_19 := u0_19) (u0_20 := u0_20) (u0_21 := u0_21) (u0_22 := u0_22) (u0_23 := u0_23) (u0_24 := u0_24) (u0_25 := u0_25) (u0_26 := u0_26) (u0_27 := u0_27) (u0_28 := u0_28) (u0_29 := u0_29) (u0_30 := u0_30) (u0_31 := u0_31) (u0_32 := u0_32) (u0_33 := u0_33) (u0_34 := u0_34) (u0_35 := u0_35) (u0_36 := u0_36) (u0_37 := u0_37) (u0_38 := u0_38) (u0_39 := u0_39) (u0_40 := u0_40) (u0_41 := u0_41) (u0_42 := u0_42) (u0_43 := u0_43) (u0_44 := u0_44) (u0_45 := u0_45) (u0_46 := u0_46) (u0_47 := u0_47) (u0_48 := u0_48) (u0_49 := u0_49) (u0_50 := u0_50) (u0_51 := u0_51) (u0_52 := u0_52) (u0_53 := u0_53) (u0_54 := u0_54) (u0_55 := u0_55) (u0_56 := u0_56) (u0_57 := u0_57) (u0_58 := u0_58) (u0_59 := u0_59) (u0_60 := u0_60) (u0_61 := u0_61) (u0_62 := u0_62) (u0_63 := u0_63) (u0_64 := u0_64) (u0_65 := u0_65) (u0_66 := u0_66) (u0_67 := u0_67) (u0_68 := u0_68) (u0_69 := u0_69) (u0_70 := u0_70) (u0_71 := u0_71) (u0_72 := u0_72) (u0_73 := u0_73) (k := v_259_13666) rfl a1 (zi_w (c := 0) (d := 1600) z_85_11873 (by decide)) z_259_13667) gq_k_X12_goOn_k_X12_sign_224 rfl rfl rfl 1 (by decide +kernel) ⟨Nat.le_of_ble_eq_true rfl, Nat.le_of_ble_eq_true rfl⟩ rfl (by decide) rfl rfl rfl (Nat.le_of_ble_eq_true rfl) ddX12_goOn_299 ⟨Nat.le_of_ble_eq_true rfl, Nat.le_of_ble_eq_true rfl⟩ (fun r_299_13903 nw_299_13901 l_299_13902 H locs hw hO => ?_)
                      obtain ⟨z_299_13904, gp_299_13905, gp_299_13906, rfl⟩ := hw
                      have hO : cO D cy A s.heap s 2 ad (cup [(0, .inr (12, [u0_0, .ref (ad 1), u0_2, .int x0_3, u0_4, u0_5, .int v_8_10202, .int v_259_13666, .int x0_8, .int v_259_13668, .long w0x10, u0_11, u0_12, u0_13, u0_14, u0_15, u0_16, u0_17, u0_18, u0_19, u0_20, u0_21, u0_22, u0_23, u0_24, u0_25, u0_26, u0_27, u0_28, u0_29, u0_30, u0_31, u0_32, u0_33, u0_34, u0_35, u0_36, u0_37, u0_38, u0_39, u0_40, u0_41, u0_42, u0_43, u0_44, u0_45, u0_46, u0_47, u0_48, u0_49, u0_50, u0_51, u0_52, u0_53, u0_54, u0_55, u0_56, u0_57, u0_58, u0_59, u0_60, u0_61, u0_62, u0_63, u0_64, u0_65, u0_66, u0_67, u0_68, u0_69, u0_70, u0_71, u0_72, u0_73]))] g) _ _ := hO
                      refine lv_iadd hx hb ddX12_goOn_302 ?_
                      refine lv_topi (fun v_302_13907 _ => ?_)
                      refine lv_bipush (v := 48) hx hb ddX12_goOn_303 (by decide) ?_
                      refine lv_isub hx hb ddX12_goOn_305 ?_
                      refine lv_topi (fun v_305_13908 _ => ?_)
                      refine cg_put hC hO 0 (by decide) rfl rfl i_X12 tyX12_ok nmX12 9 (by decide) (List.mem_of_getElem? (i := 36) rfl) rfl rfl rfl (Nat.le_of_ble_eq_true rfl) ddX12_goOn_306 (fun H locs hO => ?_)
                      have hO : cO D cy A s.heap s 2 ad (cup [(0, .inr (12, [u0_0, .ref (ad 1), u0_2, .int x0_3, u0_4, u0_5, .int v_8_10202, .int v_259_13666, .int x0_8, .int v_305_13908, .long w0x10, u0_11, u0_12, u0_13, u0_14, u0_15, u0_16, u0_17, u0_18, u0_19, u0_20, u0_21, u0_22, u0_23, u0_24, u0_25, u0_26, u0_27, u0_28, u0_29, u0_30, u0_31, u0_32, u0_33, u0_34, u0_35, u0_36, u0_37, u0_38, u0_39, u0_40, u0_41, u0_42, u0_43, u0_44, u0_45, u0_46, u0_47, u0_48, u0_49, u0_50, u0_51, u0_52, u0_53, u0_54, u0_55, u0_56, u0_57, u0_58, u0_59, u0_60, u0_61, u0_62, u0_63, u0_64, u0_65, u0_66, u0_67, u0_68, u0_69, u0_70, u0_71, u0_72, u0_73]))] g) _ _ := hO
                      exact J_309_13889 v_305_13908 _ _ hO ls (lv_sub hl [0, 1] rfl)
                  · obtain ⟨xf_267_13909, rfl, rfl⟩ := hw
                    have hO : cO D cy A s.heap s 2 ad (cup [(0, .inr (12, [u0_0, .ref (ad 1), u0_2, .int x0_3, u0_4, u0_5, .int v_8_10202, .int v_259_13666, .int x0_8, .int v_259_13668, .long w0x10, u0_11, u0_12, u0_13, u0_14, u0_15, u0_16, u0_17, u0_18, u0_19, u0_20, u0_21, u0_22, u0_23, u0_24, u0_25, u0_26, u0_27, u0_28, u0_29, u0_30, u0_31, u0_32, u0_33, u0_34, u0_35, u0_36, u0_37, u0_38, u0_39, u0_40, u0_41, u0_42, u0_43, u0_44, u0_45, u0_46, u0_47, u0_48, u0_49, u0_50, u0_51, u0_52, u0_53, u0_54, u0_55, u0_56, u0_57, u0_58, u0_59, u0_60, u0_61, u0_62, u0_63, u0_64, u0_65, u0_66, u0_67, u0_68, u0_69, u0_70, u0_71, u0_72, u0_73]))] g) _ _ := hO
                    refine lv_if_eq (tgt := 322) hx hb ddX12_goOn_270 (by decide) (fun _ => ?_) (fun h => absurd h (by decide))
                    have q_322_13910 : (v_8_10202 : Int32).toInt + 1 ≤ (v_259_13666 : Int32).toInt := sgn_ne gp_63_11865 gp_264_13818 (by omega) xf_267_13909 (by omega)
                    refine lv_aload_n hx hb ddX12_goOn_322 rfl (lv_at hl 1 rfl) ?_
                    refine lv_aload_n hx hb ddX12_goOn_323 rfl (lv_at hl 1 rfl) ?_
                    refine cg_get hC hO 0 (by decide) rfl rfl i_X12 7 (by decide) (List.mem_of_getElem? (i := 1) rfl) rfl ddX12_goOn_324 ?_
                    refine lv_aload_n hx hb ddX12_goOn_327 rfl (lv_at hl 1 rfl) ?_
                    refine cg_get hC hO 0 (by decide) rfl rfl i_X12 6 (by decide) (List.mem_of_getElem? (i := 2) rfl) rfl ddX12_goOn_328 ?_
                    refine lv_isub hx hb ddX12_goOn_331 ?_
                    refine zg_top2 (P := fun v => zi (-1599) 1600 v) (E := fun v => v.toInt = (v_259_13666 : Int32).toInt - (v_8_10202 : Int32).toInt) (zi_sub z_259_13667 z_85_11872 (by decide)) (fun v_331_13911 z_331_13912 q_331_13913 => ?_)
                    refine lv_iconst (v := 4) hx hb ddX12_goOn_332 (by decide) ?_
                    have J_355_13936 : ∀ (v_355_13934 : Int32), zi 1 4 v_355_13934 → ∀ (H : Heap) (locs : List Loc), cO D cy A s.heap s 2 ad (cup [(0, .inr (12, [u0_0, .ref (ad 1), u0_2, .int x0_3, u0_4, u0_5, .int v_8_10202, .int v_259_13666, .int x0_8, .int v_259_13668, .long w0x10, u0_11, u0_12, u0_13, u0_14, u0_15, u0_16, u0_17, u0_18, u0_19, u0_20, u0_21, u0_22, u0_23, u0_24, u0_25, u0_26, u0_27, u0_28, u0_29, u0_30, u0_31, u0_32, u0_33, u0_34, u0_35, u0_36, u0_37, u0_38, u0_39, u0_40, u0_41, u0_42, u0_43, u0_44, u0_45, u0_46, u0_47, u0_48, u0_49, u0_50, u0_51, u0_52, u0_53, u0_54, u0_55, u0_56, u0_57, u0_58, u0_59, u0_60, u0_61, u0_62, u0_63, u0_64, u0_65, u0_66, u0_67, u0_68, u0_69, u0_70, u0_71, u0_72, u0_73]))] g) H locs → ∀ ls : Array Slot, lv_has ls 3 [(1, .int r_63_11863), (0, .ref (ad 0))] → W p l e { frames := 1, cells := 0, slots := 0, locals := 22 } s m [.ref (ad 0)].toArray below meth c H locs 0 0 (MQ below (cQv (fun nw lu => ∃ (y0_6 : Int32) (y0_7 : Int32) (y0_8 : Int32) (y0_9 : Int32) (w0_10 : Int64), (zi 0 1600 y0_6) ∧ (zi 0 1600 y0_7) ∧ (zi 0 5 y0_8) ∧ ((y0_7 : Int32).toInt ≤ (x0_3 : Int32).toInt) ∧ (rho (x0_7 : Int32) (x0_8 : Int32) ≤ rho (y0_7 : Int32) (y0_8 : Int32) ∧ ((x0_8 : Int32).toInt = 0 ∨ rho (x0_7 : Int32) (x0_8 : Int32) < rho (y0_7 : Int32) (y0_8 : Int32))) ∧ (lu = [(0, .inr (12, [u0_0, .ref (ad 1), u0_2, .int x0_3, u0_4, u0_5, .int y0_6, .int y0_7, .int y0_8, .int y0_9, .long w0_10, u0_11, u0_12, u0_13, u0_14, u0_15, u0_16, u0_17, u0_18, u0_19, u0_20, u0_21, u0_22, u0_23, u0_24, u0_25, u0_26, u0_27, u0_28, u0_29, u0_30, u0_31, u0_32, u0_33, u0_34, u0_35, u0_36, u0_37, u0_38, u0_39, u0_40, u0_41, u0_42, u0_43, u0_44, u0_45, u0_46, u0_47, u0_48, u0_49, u0_50, u0_51, u0_52, u0_53, u0_54, u0_55, u0_56, u0_57, u0_58, u0_59, u0_60, u0_61, u0_62, u0_63, u0_64, u0_65, u0_66, u0_67, u0_68, u0_69, u0_70, u0_71, u0_72, u0_73]))])) D 2 0 ad g A) [.ref (ad 0)].toArray s 0 0 A) (F0 m 355 ls [.int v_355_13934, .ref (ad 0)]) := by
                      intro v_355_13934 z_355_13935 H locs hO ls hl
                      refine cg_put hC hO 0 (by decide) rfl rfl i_X12 tyX12_ok nmX12 8 (by decide) (List.mem_of_getElem? (i := 32) rfl) rfl rfl rfl (Nat.le_of_ble_eq_true rfl) ddX12_goOn_355 (fun H locs hO => ?_)
                      have hO : cO D cy A s.heap s 2 ad (cup [(0, .inr (12, [u0_0, .ref (ad 1), u0_2, .int x0_3, u0_4, u0_5, .int v_8_10202, .int v_259_13666, .int v_355_13934, .int v_259_13668, .long w0x10, u0_11, u0_12, u0_13, u0_14, u0_15, u0_16, u0_17, u0_18, u0_19, u0_20, u0_21, u0_22, u0_23, u0_24, u0_25, u0_26, u0_27, u0_28, u0_29, u0_30, u0_31, u0_32, u0_33, u0_34, u0_35, u0_36, u0_37, u0_38, u0_39, u0_40, u0_41, u0_42, u0_43, u0_44, u0_45, u0_46, u0_47, u0_48, u0_49, u0_50, u0_51, u0_52, u0_53, u0_54, u0_55, u0_56, u0_57, u0_58, u0_59, u0_60, u0_61, u0_62, u0_63, u0_64, u0_65, u0_66, u0_67, u0_68, u0_69, u0_70, u0_71, u0_72, u0_73]))] g) _ _ := hO
                      refine lv_goto (tgt := 377) hx hb ddX12_goOn_358 (by decide) ?_
                      exact cg_vret (nw := fun _ => 0) hC hr hlk hO.same (Nat.le_of_ble_eq_true rfl) (Nat.le_of_ble_eq_true rfl) (⟨v_8_10202, v_259_13666, v_355_13934, v_259_13668, w0x10, (zi_w (c := 0) (d := 1600) z_85_11872 (by decide)), z_259_13667, (zi_w (c := 0) (d := 5) z_355_13935 (by decide)), (by omega), (rho_go (by omega) (by omega)), rfl⟩) ddX12_goOn_377
                    refine lv_icmp_gt (tgt := 350) hx hb ddX12_goOn_333 (by decide) (fun h_333_13914 => ?_) (fun h_333_13914 => ?_)
                    · have q_333_13937 := zr_lt h_333_13914
                      have z_333_13938 : zi 5 1600 v_331_13911 := zd_lt q_333_13937 (zi_k (a := 4) (b := 4) (x := 4) rfl) z_331_13912 (by decide)
                      refine lv_iconst (v := 1) hx hb ddX12_goOn_350 (by decide) ?_
                      refine lv_goto (tgt := 355) hx hb ddX12_goOn_351 (by decide) ?_
                      exact J_355_13936 1 (zi_k (a := 1) (b := 4) (x := 1) rfl) _ _ hO ls (lv_sub hl [0, 1] rfl)
                    · have q_333_13939 := zr_nlt h_333_13914
                      have z_333_13940 : zi (-1599) 4 v_331_13911 := zu_le q_333_13939 z_331_13912 (zi_k (a := 4) (b := 4) (x := 4) rfl) (by decide)
                      refine lv_aload_n hx hb ddX12_goOn_336 rfl (lv_at hl 1 rfl) ?_
                      refine lv_aload_n hx hb ddX12_goOn_337 rfl (lv_at hl 1 rfl) ?_
                      refine cg_get hC hO 0 (by decide) rfl rfl i_X12 7 (by decide) (List.mem_of_getElem? (i := 1) rfl) rfl ddX12_goOn_338 ?_
                      refine cg_Vi (As := [.int v_259_13666]) (rest := [.ref (ad 0)]) (mc := 0) (ms := 0) (rm := { frames := 0, cells := 0, slots := 0, locals := 0 }) hC hl.1 hO [0, 1] (by decide +kernel) (k_X12_sign l D cy _ _ (u0_0 := u0_0) (c1 := c1) (u0_2 := u0_2) (x0_3 := x0_3) (u0_4 := u0_4) (u0_5 := u0_5) (u0_6 := .int v_8_10202) (u0_7 := .int v_259_13666) (u0_8 := .int x0_8) (u0_9 := .int v_259_13668) (u0_10 := .long w0x10) (u0_11 := u0_11) (u0_12 := u0_12) (u0_13 := u0_13) (u0_14 := u0_14) (u0_15 := u0_15) (u0_16 := u0_16) (u0_17 := u0_17) (u0_18 := u0_18) (u0_19 := u0_19) (u0_20 := u0_20) (u0_21 := u0_21) (u0_22 := u0_22) (u0_23 := u0_23) (u0_24 := u0_24) (u0_25 := u0_25) (u0_26 := u0_26) (u0_27 := u0_27) (u0_28 := u0_28) (u0_29 := u0_29) (u0_30 := u0_30) (u0_31 := u0_31) (u0_32 := u0_32) (u0_33 := u0_33) (u0_34 := u0_34) (u0_35 := u0_35) (u0_36 := u0_36) (u0_37 := u0_37) (u0_38 := u0_38) (u0_39 := u0_39) (u0_40 := u0_40) (u0_41 := u0_41) (u0_42 := u0_42) (u0_43 := u0_43) (u0_44 := u0_44) (u0_45 := u0_45) (u0_46 := u0_46) (u0_47 := u0_47) (u0_48 := u0_48) (u0_49 := u0_49) (u0_50 := u0_50) (u0_51 := u0_51) (u0_52 := u0_52) (u0_53 := u0_53) (u0_54 := u0_54) (u0_55 := u0_55) (u0_56 := u0_56) (u0_57 := u0_57) (u0_58 := u0_58) (u0_59 := u0_59) (u0_60 := u0_60) (u0_61 := u0_61) (u0_62 := u0_62) (u0_63 := u0_63) (u0_64 := u0_64) (u0_65 := u0_65) (u0_66 := u0_66) (u0_67 := u0_67) (u0_68 := u0_68) (u0_69 := u0_69) (u0_70 := u0_70) (u0_71 := u0_71) (u0_72 := u0_72) (u0_73 := u0_73) (k := v_259_13666) rfl a1 (zi_w (c := 0) (d := 1600) z_85_11873 (by decide)) z_259_13667) gq_k_X12_goOn_k_X12_sign_224 rfl rfl rfl 1 (by decide +kernel) ⟨Nat.le_of_ble_eq_true rfl, Nat.le_of_ble_eq_true rfl⟩ rfl (by decide) rfl rfl rfl (Nat.le_of_ble_eq_true rfl) ddX12_goOn_341 ⟨Nat.le_of_ble_eq_true rfl, Nat.le_of_ble_eq_true rfl⟩ (fun r_341_13943 nw_341_13941 l_341_13942 H locs hw hO => ?_)
                      obtain ⟨z_341_13944, gp_341_13945, gp_341_13946, rfl⟩ := hw
                      have hO : cO D cy A s.heap s 2 ad (cup [(0, .inr (12, [u0_0, .ref (ad 1), u0_2, .int x0_3, u0_4, u0_5, .int v_8_10202, .int v_259_13666, .int x0_8, .int v_259_13668, .long w0x10, u0_11, u0_12, u0_13, u0_14, u0_15, u0_16, u0_17, u0_18, u0_19, u0_20, u0_21, u0_22, u0_23, u0_24, u0_25, u0_26, u0_27, u0_28, u0_29, u0_30, u0_31, u0_32, u0_33, u0_34, u0_35, u0_36, u0_37, u0_38, u0_39, u0_40, u0_41, u0_42, u0_43, u0_44, u0_45, u0_46, u0_47, u0_48, u0_49, u0_50, u0_51, u0_52, u0_53, u0_54, u0_55, u0_56, u0_57, u0_58, u0_59, u0_60, u0_61, u0_62, u0_63, u0_64, u0_65, u0_66, u0_67, u0_68, u0_69, u0_70, u0_71, u0_72, u0_73]))] g) _ _ := hO
                      refine cg_Si (As := [.int r_341_13943]) (rest := [.ref (ad 0)]) (mc := 0) (ms := 0) (rm := { frames := 0, cells := 0, slots := 0, locals := 0 }) hC hl.1 hO [] (by decide +kernel) (k_X12_isLetter l D cy _ _ (n := r_341_13943) ) gq_k_X12_goOn_k_X12_isLetter_231 rfl rfl rfl 1 (by decide +kernel) ⟨Nat.le_of_ble_eq_true rfl, Nat.le_of_ble_eq_true rfl⟩ rfl rfl (Nat.le_of_ble_eq_true rfl) ddX12_goOn_344 ⟨Nat.le_of_ble_eq_true rfl, Nat.le_of_ble_eq_true rfl⟩ (fun r_344_13949 nw_344_13947 l_344_13948 H locs hw hO => ?_)
                      rcases hw with hw | hw
                      · obtain ⟨z_344_13950, q_344_13951, q_344_13952, rfl, rfl⟩ := hw
                        have hO : cO D cy A s.heap s 2 ad (cup [(0, .inr (12, [u0_0, .ref (ad 1), u0_2, .int x0_3, u0_4, u0_5, .int v_8_10202, .int v_259_13666, .int x0_8, .int v_259_13668, .long w0x10, u0_11, u0_12, u0_13, u0_14, u0_15, u0_16, u0_17, u0_18, u0_19, u0_20, u0_21, u0_22, u0_23, u0_24, u0_25, u0_26, u0_27, u0_28, u0_29, u0_30, u0_31, u0_32, u0_33, u0_34, u0_35, u0_36, u0_37, u0_38, u0_39, u0_40, u0_41, u0_42, u0_43, u0_44, u0_45, u0_46, u0_47, u0_48, u0_49, u0_50, u0_51, u0_52, u0_53, u0_54, u0_55, u0_56, u0_57, u0_58, u0_59, u0_60, u0_61, u0_62, u0_63, u0_64, u0_65, u0_66, u0_67, u0_68, u0_69, u0_70, u0_71, u0_72, u0_73]))] g) _ _ := hO
                        have q_344_13953 := q_344_13951
                        have q_344_13954 := q_344_13952
                        refine lv_if_eq (tgt := 354) hx hb ddX12_goOn_347 (by decide) (fun h => absurd h (by decide)) (fun _ => ?_)
                        refine lv_iconst (v := 1) hx hb ddX12_goOn_350 (by decide) ?_
                        refine lv_goto (tgt := 355) hx hb ddX12_goOn_351 (by decide) ?_
                        exact J_355_13936 1 (zi_k (a := 1) (b := 4) (x := 1) rfl) _ _ hO ls (lv_sub hl [0, 1] rfl)
                      · obtain ⟨xf_344_13955, rfl, rfl⟩ := hw
                        have hO : cO D cy A s.heap s 2 ad (cup [(0, .inr (12, [u0_0, .ref (ad 1), u0_2, .int x0_3, u0_4, u0_5, .int v_8_10202, .int v_259_13666, .int x0_8, .int v_259_13668, .long w0x10, u0_11, u0_12, u0_13, u0_14, u0_15, u0_16, u0_17, u0_18, u0_19, u0_20, u0_21, u0_22, u0_23, u0_24, u0_25, u0_26, u0_27, u0_28, u0_29, u0_30, u0_31, u0_32, u0_33, u0_34, u0_35, u0_36, u0_37, u0_38, u0_39, u0_40, u0_41, u0_42, u0_43, u0_44, u0_45, u0_46, u0_47, u0_48, u0_49, u0_50, u0_51, u0_52, u0_53, u0_54, u0_55, u0_56, u0_57, u0_58, u0_59, u0_60, u0_61, u0_62, u0_63, u0_64, u0_65, u0_66, u0_67, u0_68, u0_69, u0_70, u0_71, u0_72, u0_73]))] g) _ _ := hO
                        refine lv_if_eq (tgt := 354) hx hb ddX12_goOn_347 (by decide) (fun _ => ?_) (fun h => absurd h (by decide))
                        refine lv_iconst (v := 4) hx hb ddX12_goOn_354 (by decide) ?_
                        exact J_355_13936 4 (zi_k (a := 1) (b := 4) (x := 4) rfl) _ _ hO ls (lv_sub hl [0, 1] rfl)
              exact loop_259_13810 ((1600 + 1 - (v_8_10202 : Int32).toInt).toNat + 1) v_8_10202 0 (zi_w (c := 0) (d := 1600) z_85_11872 (by decide)) (by omega) (Nat.lt_succ_self _) _ _ hO ls (lv_sub hl [0, 1] rfl)
            · obtain ⟨xf_240_13956, rfl, rfl⟩ := hw
              have hO : cO D cy A s.heap s 2 ad (cup [(0, .inr (12, [u0_0, .ref (ad 1), u0_2, .int x0_3, u0_4, u0_5, .int v_8_10202, .int v_73_11867, .int x0_8, .int x0_9, .long w0x10, u0_11, u0_12, u0_13, u0_14, u0_15, u0_16, u0_17, u0_18, u0_19, u0_20, u0_21, u0_22, u0_23, u0_24, u0_25, u0_26, u0_27, u0_28, u0_29, u0_30, u0_31, u0_32, u0_33, u0_34, u0_35, u0_36, u0_37, u0_38, u0_39, u0_40, u0_41, u0_42, u0_43, u0_44, u0_45, u0_46, u0_47, u0_48, u0_49, u0_50, u0_51, u0_52, u0_53, u0_54, u0_55, u0_56, u0_57, u0_58, u0_59, u0_60, u0_61, u0_62, u0_63, u0_64, u0_65, u0_66, u0_67, u0_68, u0_69, u0_70, u0_71, u0_72, u0_73]))] g) _ _ := hO
              refine lv_if_eq (tgt := 361) hx hb ddX12_goOn_243 (by decide) (fun _ => ?_) (fun h => absurd h (by decide))
              refine lv_aload_n hx hb ddX12_goOn_361 rfl (lv_at hl 1 rfl) ?_
              refine lv_iload_n hx hb ddX12_goOn_362 rfl (lv_at hl 0 rfl) ?_
              refine cg_Si (As := [.int r_63_11863]) (rest := [.ref (ad 0)]) (mc := 0) (ms := 0) (rm := { frames := 0, cells := 0, slots := 0, locals := 0 }) hC hl.1 hO [] (by decide +kernel) (k_X12_isSign l D cy _ _ (n := r_63_11863) ) gq_k_X12_goOn_k_X12_isSign_249 rfl rfl rfl 1 (by decide +kernel) ⟨Nat.le_of_ble_eq_true rfl, Nat.le_of_ble_eq_true rfl⟩ rfl rfl (Nat.le_of_ble_eq_true rfl) ddX12_goOn_363 ⟨Nat.le_of_ble_eq_true rfl, Nat.le_of_ble_eq_true rfl⟩ (fun r_363_13959 nw_363_13957 l_363_13958 H locs hw hO => ?_)
              obtain ⟨z_363_13960, rfl⟩ := hw
              have hO : cO D cy A s.heap s 2 ad (cup [(0, .inr (12, [u0_0, .ref (ad 1), u0_2, .int x0_3, u0_4, u0_5, .int v_8_10202, .int v_73_11867, .int x0_8, .int x0_9, .long w0x10, u0_11, u0_12, u0_13, u0_14, u0_15, u0_16, u0_17, u0_18, u0_19, u0_20, u0_21, u0_22, u0_23, u0_24, u0_25, u0_26, u0_27, u0_28, u0_29, u0_30, u0_31, u0_32, u0_33, u0_34, u0_35, u0_36, u0_37, u0_38, u0_39, u0_40, u0_41, u0_42, u0_43, u0_44, u0_45, u0_46, u0_47, u0_48, u0_49, u0_50, u0_51, u0_52, u0_53, u0_54, u0_55, u0_56, u0_57, u0_58, u0_59, u0_60, u0_61, u0_62, u0_63, u0_64, u0_65, u0_66, u0_67, u0_68, u0_69, u0_70, u0_71, u0_72, u0_73]))] g) _ _ := hO
              have J_374_13968 : ∀ (v_374_13966 : Int32), zi 1 5 v_374_13966 → ∀ (H : Heap) (locs : List Loc), cO D cy A s.heap s 2 ad (cup [(0, .inr (12, [u0_0, .ref (ad 1), u0_2, .int x0_3, u0_4, u0_5, .int v_8_10202, .int v_73_11867, .int x0_8, .int x0_9, .long w0x10, u0_11, u0_12, u0_13, u0_14, u0_15, u0_16, u0_17, u0_18, u0_19, u0_20, u0_21, u0_22, u0_23, u0_24, u0_25, u0_26, u0_27, u0_28, u0_29, u0_30, u0_31, u0_32, u0_33, u0_34, u0_35, u0_36, u0_37, u0_38, u0_39, u0_40, u0_41, u0_42, u0_43, u0_44, u0_45, u0_46, u0_47, u0_48, u0_49, u0_50, u0_51, u0_52, u0_53, u0_54, u0_55, u0_56, u0_57, u0_58, u0_59, u0_60, u0_61, u0_62, u0_63, u0_64, u0_65, u0_66, u0_67, u0_68, u0_69, u0_70, u0_71, u0_72, u0_73]))] g) H locs → ∀ ls : Array Slot, lv_has ls 3 [(1, .int r_63_11863), (0, .ref (ad 0))] → W p l e { frames := 1, cells := 0, slots := 0, locals := 22 } s m [.ref (ad 0)].toArray below meth c H locs 0 0 (MQ below (cQv (fun nw lu => ∃ (y0_6 : Int32) (y0_7 : Int32) (y0_8 : Int32) (y0_9 : Int32) (w0_10 : Int64), (zi 0 1600 y0_6) ∧ (zi 0 1600 y0_7) ∧ (zi 0 5 y0_8) ∧ ((y0_7 : Int32).toInt ≤ (x0_3 : Int32).toInt) ∧ (rho (x0_7 : Int32) (x0_8 : Int32) ≤ rho (y0_7 : Int32) (y0_8 : Int32) ∧ ((x0_8 : Int32).toInt = 0 ∨ rho (x0_7 : Int32) (x0_8 : Int32) < rho (y0_7 : Int32) (y0_8 : Int32))) ∧ (lu = [(0, .inr (12, [u0_0, .ref (ad 1), u0_2, .int x0_3, u0_4, u0_5, .int y0_6, .int y0_7, .int y0_8, .int y0_9, .long w0_10, u0_11, u0_12, u0_13, u0_14, u0_15, u0_16, u0_17, u0_18, u0_19, u0_20, u0_21, u0_22, u0_23, u0_24, u0_25, u0_26, u0_27, u0_28, u0_29, u0_30, u0_31, u0_32, u0_33, u0_34, u0_35, u0_36, u0_37, u0_38, u0_39, u0_40, u0_41, u0_42, u0_43, u0_44, u0_45, u0_46, u0_47, u0_48, u0_49, u0_50, u0_51, u0_52, u0_53, u0_54, u0_55, u0_56, u0_57, u0_58, u0_59, u0_60, u0_61, u0_62, u0_63, u0_64, u0_65, u0_66, u0_67, u0_68, u0_69, u0_70, u0_71, u0_72, u0_73]))])) D 2 0 ad g A) [.ref (ad 0)].toArray s 0 0 A) (F0 m 374 ls [.int v_374_13966, .ref (ad 0)]) := by
                intro v_374_13966 z_374_13967 H locs hO ls hl
                refine cg_put hC hO 0 (by decide) rfl rfl i_X12 tyX12_ok nmX12 8 (by decide) (List.mem_of_getElem? (i := 32) rfl) rfl rfl rfl (Nat.le_of_ble_eq_true rfl) ddX12_goOn_374 (fun H locs hO => ?_)
                have hO : cO D cy A s.heap s 2 ad (cup [(0, .inr (12, [u0_0, .ref (ad 1), u0_2, .int x0_3, u0_4, u0_5, .int v_8_10202, .int v_73_11867, .int v_374_13966, .int x0_9, .long w0x10, u0_11, u0_12, u0_13, u0_14, u0_15, u0_16, u0_17, u0_18, u0_19, u0_20, u0_21, u0_22, u0_23, u0_24, u0_25, u0_26, u0_27, u0_28, u0_29, u0_30, u0_31, u0_32, u0_33, u0_34, u0_35, u0_36, u0_37, u0_38, u0_39, u0_40, u0_41, u0_42, u0_43, u0_44, u0_45, u0_46, u0_47, u0_48, u0_49, u0_50, u0_51, u0_52, u0_53, u0_54, u0_55, u0_56, u0_57, u0_58, u0_59, u0_60, u0_61, u0_62, u0_63, u0_64, u0_65, u0_66, u0_67, u0_68, u0_69, u0_70, u0_71, u0_72, u0_73]))] g) _ _ := hO
                exact cg_vret (nw := fun _ => 0) hC hr hlk hO.same (Nat.le_of_ble_eq_true rfl) (Nat.le_of_ble_eq_true rfl) (⟨v_8_10202, v_73_11867, v_374_13966, x0_9, w0x10, (zi_w (c := 0) (d := 1600) z_85_11872 (by decide)), (zi_w (c := 0) (d := 1600) z_112_11876 (by decide)), (zi_w (c := 0) (d := 5) z_374_13967 (by decide)), (by omega), (rho_go (by omega) (by omega)), rfl⟩) ddX12_goOn_377
              refine lv_if_eq (tgt := 373) hx hb ddX12_goOn_366 (by decide) (fun h_366_13961 => ?_) (fun h_366_13961 => ?_)
              · have qk_366_13969 : r_363_13959.toInt = 0 := (zr_eq h_366_13961).trans (by decide)
                have q_366_13970 := zr_eq h_366_13961
                have z_366_13971 : zi 0 0 r_363_13959 := ze_eq q_366_13970 z_363_13960 (zi_k (a := 0) (b := 0) (x := 0) rfl)
                refine lv_iconst (v := 1) hx hb ddX12_goOn_373 (by decide) ?_
                exact J_374_13968 1 (zi_k (a := 1) (b := 5) (x := 1) rfl) _ _ hO ls (lv_sub hl [0, 1] rfl)
              · have qk_366_13972 : ¬ (r_363_13959.toInt = 0) := (fun z => (zr_ne h_366_13961) (z.trans (by decide)))
                have q_366_13973 := zr_ne h_366_13961
                have z_366_13974 : zi 1 1 r_363_13959 := zn_lo q_366_13973 z_363_13960 (zi_k (a := 0) (b := 0) (x := 0) rfl) (by decide)
                refine lv_iconst (v := 5) hx hb ddX12_goOn_369 (by decide) ?_
                refine lv_goto (tgt := 374) hx hb ddX12_goOn_370 (by decide) ?_
                exact J_374_13968 5 (zi_k (a := 1) (b := 5) (x := 5) rfl) _ _ hO ls (lv_sub hl [0, 1] rfl)
        · have q_85_13975 := zr_nlt h_85_11870
          refine lv_aload_n hx hb ddX12_goOn_88 rfl (lv_at hl 1 rfl) ?_
          refine lv_iconst (v := 0) hx hb ddX12_goOn_89 (by decide) ?_
          refine cg_put hC hO 0 (by decide) rfl rfl i_X12 tyX12_ok nmX12 8 (by decide) (List.mem_of_getElem? (i := 32) rfl) rfl rfl rfl (Nat.le_of_ble_eq_true rfl) ddX12_goOn_90 (fun H locs hO => ?_)
          have hO : cO D cy A s.heap s 2 ad (cup [(0, .inr (12, [u0_0, .ref (ad 1), u0_2, .int x0_3, u0_4, u0_5, .int v_8_10202, .int v_73_11867, .int 0, .int x0_9, .long w0x10, u0_11, u0_12, u0_13, u0_14, u0_15, u0_16, u0_17, u0_18, u0_19, u0_20, u0_21, u0_22, u0_23, u0_24, u0_25, u0_26, u0_27, u0_28, u0_29, u0_30, u0_31, u0_32, u0_33, u0_34, u0_35, u0_36, u0_37, u0_38, u0_39, u0_40, u0_41, u0_42, u0_43, u0_44, u0_45, u0_46, u0_47, u0_48, u0_49, u0_50, u0_51, u0_52, u0_53, u0_54, u0_55, u0_56, u0_57, u0_58, u0_59, u0_60, u0_61, u0_62, u0_63, u0_64, u0_65, u0_66, u0_67, u0_68, u0_69, u0_70, u0_71, u0_72, u0_73]))] g) _ _ := hO
          refine lv_aload_n hx hb ddX12_goOn_93 rfl (lv_at hl 1 rfl) ?_
          refine lv_aload_n hx hb ddX12_goOn_94 rfl (lv_at hl 1 rfl) ?_
          refine cg_get hC hO 0 (by decide) rfl rfl i_X12 3 (by decide) (List.mem_of_getElem? (i := 3) rfl) rfl ddX12_goOn_95 ?_
          refine cg_put hC hO 0 (by decide) rfl rfl i_X12 tyX12_ok nmX12 6 (by decide) (List.mem_of_getElem? (i := 2) rfl) rfl rfl rfl (Nat.le_of_ble_eq_true rfl) ddX12_goOn_98 (fun H locs hO => ?_)
          have hO : cO D cy A s.heap s 2 ad (cup [(0, .inr (12, [u0_0, .ref (ad 1), u0_2, .int x0_3, u0_4, u0_5, .int x0_3, .int v_73_11867, .int 0, .int x0_9, .long w0x10, u0_11, u0_12, u0_13, u0_14, u0_15, u0_16, u0_17, u0_18, u0_19, u0_20, u0_21, u0_22, u0_23, u0_24, u0_25, u0_26, u0_27, u0_28, u0_29, u0_30, u0_31, u0_32, u0_33, u0_34, u0_35, u0_36, u0_37, u0_38, u0_39, u0_40, u0_41, u0_42, u0_43, u0_44, u0_45, u0_46, u0_47, u0_48, u0_49, u0_50, u0_51, u0_52, u0_53, u0_54, u0_55, u0_56, u0_57, u0_58, u0_59, u0_60, u0_61, u0_62, u0_63, u0_64, u0_65, u0_66, u0_67, u0_68, u0_69, u0_70, u0_71, u0_72, u0_73]))] g) _ _ := hO
          refine lv_aload_n hx hb ddX12_goOn_101 rfl (lv_at hl 1 rfl) ?_
          refine lv_aload_n hx hb ddX12_goOn_102 rfl (lv_at hl 1 rfl) ?_
          refine cg_get hC hO 0 (by decide) rfl rfl i_X12 3 (by decide) (List.mem_of_getElem? (i := 3) rfl) rfl ddX12_goOn_103 ?_
          refine cg_put hC hO 0 (by decide) rfl rfl i_X12 tyX12_ok nmX12 7 (by decide) (List.mem_of_getElem? (i := 1) rfl) rfl rfl rfl (Nat.le_of_ble_eq_true rfl) ddX12_goOn_106 (fun H locs hO => ?_)
          have hO : cO D cy A s.heap s 2 ad (cup [(0, .inr (12, [u0_0, .ref (ad 1), u0_2, .int x0_3, u0_4, u0_5, .int x0_3, .int x0_3, .int 0, .int x0_9, .long w0x10, u0_11, u0_12, u0_13, u0_14, u0_15, u0_16, u0_17, u0_18, u0_19, u0_20, u0_21, u0_22, u0_23, u0_24, u0_25, u0_26, u0_27, u0_28, u0_29, u0_30, u0_31, u0_32, u0_33, u0_34, u0_35, u0_36, u0_37, u0_38, u0_39, u0_40, u0_41, u0_42, u0_43, u0_44, u0_45, u0_46, u0_47, u0_48, u0_49, u0_50, u0_51, u0_52, u0_53, u0_54, u0_55, u0_56, u0_57, u0_58, u0_59, u0_60, u0_61, u0_62, u0_63, u0_64, u0_65, u0_66, u0_67, u0_68, u0_69, u0_70, u0_71, u0_72, u0_73]))] g) _ _ := hO
          refine lv_goto (tgt := 377) hx hb ddX12_goOn_109 (by decide) ?_
          exact cg_vret (nw := fun _ => 0) hC hr hlk hO.same (Nat.le_of_ble_eq_true rfl) (Nat.le_of_ble_eq_true rfl) (⟨x0_3, x0_3, 0, x0_9, w0x10, b0_3, b0_3, (zi_k (a := 0) (b := 5) (x := 0) rfl), (by omega), (rho_go (by omega) (by omega)), rfl⟩) ddX12_goOn_377
      refine lv_icmp_ge (tgt := 58) hx hb ddX12_goOn_16 (by decide) (fun h_16_11831 => ?_) (fun h_16_11831 => ?_)
      · have q_16_13976 := zr_le h_16_11831
        exact J_58_11860  _ _ hO ls (lv_sub hl [0] rfl)
      · have q_16_13977 := zr_nle h_16_11831
        have z_16_13978 : zi 0 1599 v_8_10202 := zu_lt q_16_13977 z_8_10203 b0_3 (by decide)
        have z_16_13979 : zi 1 1600 x0_3 := zd_lt q_16_13977 z_8_10203 b0_3 (by decide)
        refine lv_aload_n hx hb ddX12_goOn_19 rfl (lv_at hl 0 rfl) ?_
        refine lv_aload_n hx hb ddX12_goOn_20 rfl (lv_at hl 0 rfl) ?_
        refine cg_get hC hO 0 (by decide) rfl rfl i_X12 6 (by decide) (List.mem_of_getElem? (i := 2) rfl) rfl ddX12_goOn_21 ?_
        refine cg_Vi (As := [.int v_8_10202]) (rest := []) (mc := 0) (ms := 0) (rm := { frames := 0, cells := 0, slots := 0, locals := 0 }) hC hl.1 hO [0, 1] (by decide +kernel) (k_X12_sign l D cy _ _ (u0_0 := u0_0) (c1 := c1) (u0_2 := u0_2) (x0_3 := x0_3) (u0_4 := u0_4) (u0_5 := u0_5) (u0_6 := .int v_8_10202) (u0_7 := .int x0_7) (u0_8 := .int x0_8) (u0_9 := .int x0_9) (u0_10 := .long w0x10) (u0_11 := u0_11) (u0_12 := u0_12) (u0_13 := u0_13) (u0_14 := u0_14) (u0_15 := u0_15) (u0_16 := u0_16) (u0_17 := u0_17) (u0_18 := u0_18) (u0_19 := u0_19) (u0_20 := u0_20) (u0_21 := u0_21) (u0_22 := u0_22) (u0_23 := u0_23) (u0_24 := u0_24) (u0_25 := u0_25) (u0_26 := u0_26) (u0_27 := u0_27) (u0_28 := u0_28) (u0_29 := u0_29) (u0_30 := u0_30) (u0_31 := u0_31) (u0_32 := u0_32) (u0_33 := u0_33) (u0_34 := u0_34) (u0_35 := u0_35) (u0_36 := u0_36) (u0_37 := u0_37) (u0_38 := u0_38) (u0_39 := u0_39) (u0_40 := u0_40) (u0_41 := u0_41) (u0_42 := u0_42) (u0_43 := u0_43) (u0_44 := u0_44) (u0_45 := u0_45) (u0_46 := u0_46) (u0_47 := u0_47) (u0_48 := u0_48) (u0_49 := u0_49) (u0_50 := u0_50) (u0_51 := u0_51) (u0_52 := u0_52) (u0_53 := u0_53) (u0_54 := u0_54) (u0_55 := u0_55) (u0_56 := u0_56) (u0_57 := u0_57) (u0_58 := u0_58) (u0_59 := u0_59) (u0_60 := u0_60) (u0_61 := u0_61) (u0_62 := u0_62) (u0_63 := u0_63) (u0_64 := u0_64) (u0_65 := u0_65) (u0_66 := u0_66) (u0_67 := u0_67) (u0_68 := u0_68) (u0_69 := u0_69) (u0_70 := u0_70) (u0_71 := u0_71) (u0_72 := u0_72) (u0_73 := u0_73) (k := v_8_10202) rfl a1 (zi_w (c := 0) (d := 1600) z_16_13979 (by decide)) (zi_w (c := 0) (d := 1600) z_16_13978 (by decide))) gq_k_X12_goOn_k_X12_sign_224 rfl rfl rfl 1 (by decide +kernel) ⟨Nat.le_of_ble_eq_true rfl, Nat.le_of_ble_eq_true rfl⟩ rfl (by decide) rfl rfl rfl (Nat.le_of_ble_eq_true rfl) ddX12_goOn_24 ⟨Nat.le_of_ble_eq_true rfl, Nat.le_of_ble_eq_true rfl⟩ (fun r_24_13982 nw_24_13980 l_24_13981 H locs hw hO => ?_)
        obtain ⟨z_24_13983, gp_24_13984, gp_24_13985, rfl⟩ := hw
        have hO : cO D cy A s.heap s 2 ad (cup [(0, .inr (12, [u0_0, .ref (ad 1), u0_2, .int x0_3, u0_4, u0_5, .int v_8_10202, .int x0_7, .int x0_8, .int x0_9, .long w0x10, u0_11, u0_12, u0_13, u0_14, u0_15, u0_16, u0_17, u0_18, u0_19, u0_20, u0_21, u0_22, u0_23, u0_24, u0_25, u0_26, u0_27, u0_28, u0_29, u0_30, u0_31, u0_32, u0_33, u0_34, u0_35, u0_36, u0_37, u0_38, u0_39, u0_40, u0_41, u0_42, u0_43, u0_44, u0_45, u0_46, u0_47, u0_48, u0_49, u0_50, u0_51, u0_52, u0_53, u0_54, u0_55, u0_56, u0_57, u0_58, u0_59, u0_60, u0_61, u0_62, u0_63, u0_64, u0_65, u0_66, u0_67, u0_68, u0_69, u0_70, u0_71, u0_72, u0_73]))] g) _ _ := hO
        refine lv_bipush (v := 32) hx hb ddX12_goOn_27 (by decide) ?_
        refine lv_icmp_eq (tgt := 45) hx hb ddX12_goOn_29 (by decide) (fun h_29_13986 => ?_) (fun h_29_13986 => ?_)
        · have qk_29_13987 : r_24_13982.toInt = 32 := (zr_eq h_29_13986).trans (by decide)
          have q_29_13988 := zr_eq h_29_13986
          have z_29_13989 : zi 32 32 r_24_13982 := ze_eq q_29_13988 z_24_13983 (zi_k (a := 32) (b := 32) (x := 32) rfl)
          refine lv_aload_n hx hb ddX12_goOn_45 rfl (lv_at hl 0 rfl) ?_
          refine lv_dup hx hb ddX12_goOn_46 rfl ?_
          refine cg_get hC hO 0 (by decide) rfl rfl i_X12 6 (by decide) (List.mem_of_getElem? (i := 2) rfl) rfl ddX12_goOn_47 ?_
          refine lv_iconst (v := 1) hx hb ddX12_goOn_50 (by decide) ?_
          refine lv_iadd hx hb ddX12_goOn_51 ?_
          refine zg_top2 (P := fun v => zi 1 1600 v) (E := fun v => v.toInt = v_8_10202.toInt + 1) (zi_addk z_16_13978 (n := 1) (by decide) (by decide)) (fun v_51_13990 z_51_13991 q_51_13992 => ?_)
          refine cg_put hC hO 0 (by decide) rfl rfl i_X12 tyX12_ok nmX12 6 (by decide) (List.mem_of_getElem? (i := 2) rfl) rfl rfl rfl (Nat.le_of_ble_eq_true rfl) ddX12_goOn_52 (fun H locs hO => ?_)
          have hO : cO D cy A s.heap s 2 ad (cup [(0, .inr (12, [u0_0, .ref (ad 1), u0_2, .int x0_3, u0_4, u0_5, .int v_51_13990, .int x0_7, .int x0_8, .int x0_9, .long w0x10, u0_11, u0_12, u0_13, u0_14, u0_15, u0_16, u0_17, u0_18, u0_19, u0_20, u0_21, u0_22, u0_23, u0_24, u0_25, u0_26, u0_27, u0_28, u0_29, u0_30, u0_31, u0_32, u0_33, u0_34, u0_35, u0_36, u0_37, u0_38, u0_39, u0_40, u0_41, u0_42, u0_43, u0_44, u0_45, u0_46, u0_47, u0_48, u0_49, u0_50, u0_51, u0_52, u0_53, u0_54, u0_55, u0_56, u0_57, u0_58, u0_59, u0_60, u0_61, u0_62, u0_63, u0_64, u0_65, u0_66, u0_67, u0_68, u0_69, u0_70, u0_71, u0_72, u0_73]))] g) _ _ := hO
          refine lv_goto (tgt := 8) hx hb ddX12_goOn_55 (by decide) ?_
          exact ih_8_11830 v_51_13990 (zi_w (c := 0) (d := 1600) z_51_13991 (by decide)) (by omega) (zm_up q_51_13992 ((zi_w (c := 0) (d := 1600) z_51_13991 (by decide))).2 (by decide) mu_8_11829) _ _ hO ls (lv_sub hl [0] rfl)
        · have qk_29_13993 : ¬ (r_24_13982.toInt = 32) := (fun z => (zr_ne h_29_13986) (z.trans (by decide)))
          refine lv_aload_n hx hb ddX12_goOn_32 rfl (lv_at hl 0 rfl) ?_
          refine lv_aload_n hx hb ddX12_goOn_33 rfl (lv_at hl 0 rfl) ?_
          refine cg_get hC hO 0 (by decide) rfl rfl i_X12 6 (by decide) (List.mem_of_getElem? (i := 2) rfl) rfl ddX12_goOn_34 ?_
          refine cg_Vi (As := [.int v_8_10202]) (rest := []) (mc := 0) (ms := 0) (rm := { frames := 0, cells := 0, slots := 0, locals := 0 }) hC hl.1 hO [0, 1] (by decide +kernel) (k_X12_sign l D cy _ _ (u0_0 := u0_0) (c1 := c1) (u0_2 := u0_2) (x0_3 := x0_3) (u0_4 := u0_4) (u0_5 := u0_5) (u0_6 := .int v_8_10202) (u0_7 := .int x0_7) (u0_8 := .int x0_8) (u0_9 := .int x0_9) (u0_10 := .long w0x10) (u0_11 := u0_11) (u0_12 := u0_12) (u0_13 := u0_13) (u0_14 := u0_14) (u0_15 := u0_15) (u0_16 := u0_16) (u0_17 := u0_17) (u0_18 := u0_18) (u0_19 := u0_19) (u0_20 := u0_20) (u0_21 := u0_21) (u0_22 := u0_22) (u0_23 := u0_23) (u0_24 := u0_24) (u0_25 := u0_25) (u0_26 := u0_26) (u0_27 := u0_27) (u0_28 := u0_28) (u0_29 := u0_29) (u0_30 := u0_30) (u0_31 := u0_31) (u0_32 := u0_32) (u0_33 := u0_33) (u0_34 := u0_34) (u0_35 := u0_35) (u0_36 := u0_36) (u0_37 := u0_37) (u0_38 := u0_38) (u0_39 := u0_39) (u0_40 := u0_40) (u0_41 := u0_41) (u0_42 := u0_42) (u0_43 := u0_43) (u0_44 := u0_44) (u0_45 := u0_45) (u0_46 := u0_46) (u0_47 := u0_47) (u0_48 := u0_48) (u0_49 := u0_49) (u0_50 := u0_50) (u0_51 := u0_51) (u0_52 := u0_52) (u0_53 := u0_53) (u0_54 := u0_54) (u0_55 := u0_55) (u0_56 := u0_56) (u0_57 := u0_57) (u0_58 := u0_58) (u0_59 := u0_59) (u0_60 := u0_60) (u0_61 := u0_61) (u0_62 := u0_62) (u0_63 := u0_63) (u0_64 := u0_64) (u0_65 := u0_65) (u0_66 := u0_66) (u0_67 := u0_67) (u0_68 := u0_68) (u0_69 := u0_69) (u0_70 := u0_70) (u0_71 := u0_71) (u0_72 := u0_72) (u0_73 := u0_73) (k := v_8_10202) rfl a1 (zi_w (c := 0) (d := 1600) z_16_13979 (by decide)) (zi_w (c := 0) (d := 1600) z_16_13978 (by decide))) gq_k_X12_goOn_k_X12_sign_224 rfl rfl rfl 1 (by decide +kernel) ⟨Nat.le_of_ble_eq_true rfl, Nat.le_of_ble_eq_true rfl⟩ rfl (by decide) rfl rfl rfl (Nat.le_of_ble_eq_true rfl) ddX12_goOn_37 ⟨Nat.le_of_ble_eq_true rfl, Nat.le_of_ble_eq_true rfl⟩ (fun r_37_13996 nw_37_13994 l_37_13995 H locs hw hO => ?_)
          obtain ⟨z_37_13997, gp_37_13998, gp_37_13999, rfl⟩ := hw
          have hO : cO D cy A s.heap s 2 ad (cup [(0, .inr (12, [u0_0, .ref (ad 1), u0_2, .int x0_3, u0_4, u0_5, .int v_8_10202, .int x0_7, .int x0_8, .int x0_9, .long w0x10, u0_11, u0_12, u0_13, u0_14, u0_15, u0_16, u0_17, u0_18, u0_19, u0_20, u0_21, u0_22, u0_23, u0_24, u0_25, u0_26, u0_27, u0_28, u0_29, u0_30, u0_31, u0_32, u0_33, u0_34, u0_35, u0_36, u0_37, u0_38, u0_39, u0_40, u0_41, u0_42, u0_43, u0_44, u0_45, u0_46, u0_47, u0_48, u0_49, u0_50, u0_51, u0_52, u0_53, u0_54, u0_55, u0_56, u0_57, u0_58, u0_59, u0_60, u0_61, u0_62, u0_63, u0_64, u0_65, u0_66, u0_67, u0_68, u0_69, u0_70, u0_71, u0_72, u0_73]))] g) _ _ := hO
          refine lv_bipush (v := 10) hx hb ddX12_goOn_40 (by decide) ?_
          refine lv_icmp_ne (tgt := 58) hx hb ddX12_goOn_42 (by decide) (fun h_42_14000 => ?_) (fun h_42_14000 => ?_)
          · have qk_42_14001 : ¬ (r_37_13996.toInt = 10) := (fun z => (zr_ne h_42_14000) (z.trans (by decide)))
            exact J_58_11860  _ _ hO ls (lv_sub hl [0] rfl)
          · have qk_42_14002 : r_37_13996.toInt = 10 := (zr_eq h_42_14000).trans (by decide)
            have q_42_14003 := zr_eq h_42_14000
            have z_42_14004 : zi 10 10 r_37_13996 := ze_eq q_42_14003 z_37_13997 (zi_k (a := 10) (b := 10) (x := 10) rfl)
            refine lv_aload_n hx hb ddX12_goOn_45 rfl (lv_at hl 0 rfl) ?_
            refine lv_dup hx hb ddX12_goOn_46 rfl ?_
            refine cg_get hC hO 0 (by decide) rfl rfl i_X12 6 (by decide) (List.mem_of_getElem? (i := 2) rfl) rfl ddX12_goOn_47 ?_
            refine lv_iconst (v := 1) hx hb ddX12_goOn_50 (by decide) ?_
            refine lv_iadd hx hb ddX12_goOn_51 ?_
            refine zg_top2 (P := fun v => zi 1 1600 v) (E := fun v => v.toInt = v_8_10202.toInt + 1) (zi_addk z_16_13978 (n := 1) (by decide) (by decide)) (fun v_51_14005 z_51_14006 q_51_14007 => ?_)
            refine cg_put hC hO 0 (by decide) rfl rfl i_X12 tyX12_ok nmX12 6 (by decide) (List.mem_of_getElem? (i := 2) rfl) rfl rfl rfl (Nat.le_of_ble_eq_true rfl) ddX12_goOn_52 (fun H locs hO => ?_)
            have hO : cO D cy A s.heap s 2 ad (cup [(0, .inr (12, [u0_0, .ref (ad 1), u0_2, .int x0_3, u0_4, u0_5, .int v_51_14005, .int x0_7, .int x0_8, .int x0_9, .long w0x10, u0_11, u0_12, u0_13, u0_14, u0_15, u0_16, u0_17, u0_18, u0_19, u0_20, u0_21, u0_22, u0_23, u0_24, u0_25, u0_26, u0_27, u0_28, u0_29, u0_30, u0_31, u0_32, u0_33, u0_34, u0_35, u0_36, u0_37, u0_38, u0_39, u0_40, u0_41, u0_42, u0_43, u0_44, u0_45, u0_46, u0_47, u0_48, u0_49, u0_50, u0_51, u0_52, u0_53, u0_54, u0_55, u0_56, u0_57, u0_58, u0_59, u0_60, u0_61, u0_62, u0_63, u0_64, u0_65, u0_66, u0_67, u0_68, u0_69, u0_70, u0_71, u0_72, u0_73]))] g) _ _ := hO
            refine lv_goto (tgt := 8) hx hb ddX12_goOn_55 (by decide) ?_
            exact ih_8_11830 v_51_14005 (zi_w (c := 0) (d := 1600) z_51_14006 (by decide)) (by omega) (zm_up q_51_14007 ((zi_w (c := 0) (d := 1600) z_51_14006 (by decide))).2 (by decide) mu_8_11829) _ _ hO ls (lv_sub hl [0] rfl)
  exact loop_8_11827 ((1600 + 1 - (x0_7 : Int32).toInt).toNat + 1) x0_7 b0_7 (by omega) (Nat.lt_succ_self _) _ _ hO ls (lv_sub hl [0] rfl)

