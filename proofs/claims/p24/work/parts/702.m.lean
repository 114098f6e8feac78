theorem ddX12_comesBy_0 : decode cX12_comesBy 0 = .ok (.aload_n 0, 1) := by decide +kernel
theorem ddX12_comesBy_1 : decode cX12_comesBy 1 = .ok (.getfield 101, 3) := by decide +kernel
theorem ddX12_comesBy_4 : decode cX12_comesBy 4 = .ok (.iload_n 1, 1) := by decide +kernel
theorem ddX12_comesBy_5 : decode cX12_comesBy 5 = .ok (.iaload, 1) := by decide +kernel
theorem ddX12_comesBy_6 : decode cX12_comesBy 6 = .ok (.aload_n 0, 1) := by decide +kernel
theorem ddX12_comesBy_7 : decode cX12_comesBy 7 = .ok (.getfield 45, 3) := by decide +kernel
theorem ddX12_comesBy_10 : decode cX12_comesBy 10 = .ok (.iconst 4, 1) := by decide +kernel
theorem ddX12_comesBy_11 : decode cX12_comesBy 11 = .ok (.aload_n 0, 1) := by decide +kernel
theorem ddX12_comesBy_12 : decode cX12_comesBy 12 = .ok (.getfield 286, 3) := by decide +kernel
theorem ddX12_comesBy_15 : decode cX12_comesBy 15 = .ok (.imul, 1) := by decide +kernel
theorem ddX12_comesBy_16 : decode cX12_comesBy 16 = .ok (.iload_n 2, 1) := by decide +kernel
theorem ddX12_comesBy_17 : decode cX12_comesBy 17 = .ok (.iadd, 1) := by decide +kernel
theorem ddX12_comesBy_18 : decode cX12_comesBy 18 = .ok (.iaload, 1) := by decide +kernel
theorem ddX12_comesBy_19 : decode cX12_comesBy 19 = .ok (.iadd, 1) := by decide +kernel
theorem ddX12_comesBy_20 : decode cX12_comesBy 20 = .ok (.istore_n 3, 1) := by decide +kernel
theorem ddX12_comesBy_21 : decode cX12_comesBy 21 = .ok (.iconst 0, 1) := by decide +kernel
theorem ddX12_comesBy_22 : decode cX12_comesBy 22 = .ok (.istore 4, 2) := by decide +kernel
theorem ddX12_comesBy_24 : decode cX12_comesBy 24 = .ok (.iload 4, 2) := by decide +kernel
theorem ddX12_comesBy_26 : decode cX12_comesBy 26 = .ok (.aload_n 0, 1) := by decide +kernel
theorem ddX12_comesBy_27 : decode cX12_comesBy 27 = .ok (.getfield 110, 3) := by decide +kernel
theorem ddX12_comesBy_30 : decode cX12_comesBy 30 = .ok (.iload_n 2, 1) := by decide +kernel
theorem ddX12_comesBy_31 : decode cX12_comesBy 31 = .ok (.iaload, 1) := by decide +kernel
theorem ddX12_comesBy_32 : decode cX12_comesBy 32 = .ok (.if_icmp .ge 227, 3) := by decide +kernel
theorem ddX12_comesBy_35 : decode cX12_comesBy 35 = .ok (.aload_n 0, 1) := by decide +kernel
theorem ddX12_comesBy_36 : decode cX12_comesBy 36 = .ok (.getfield 113, 3) := by decide +kernel
theorem ddX12_comesBy_39 : decode cX12_comesBy 39 = .ok (.iconst 5, 1) := by decide +kernel
theorem ddX12_comesBy_40 : decode cX12_comesBy 40 = .ok (.iload_n 2, 1) := by decide +kernel
theorem ddX12_comesBy_41 : decode cX12_comesBy 41 = .ok (.imul, 1) := by decide +kernel
theorem ddX12_comesBy_42 : decode cX12_comesBy 42 = .ok (.iload 4, 2) := by decide +kernel
theorem ddX12_comesBy_44 : decode cX12_comesBy 44 = .ok (.iadd, 1) := by decide +kernel
theorem ddX12_comesBy_45 : decode cX12_comesBy 45 = .ok (.iaload, 1) := by decide +kernel
theorem ddX12_comesBy_46 : decode cX12_comesBy 46 = .ok (.istore 5, 2) := by decide +kernel
theorem ddX12_comesBy_48 : decode cX12_comesBy 48 = .ok (.iconst 5, 1) := by decide +kernel
theorem ddX12_comesBy_49 : decode cX12_comesBy 49 = .ok (.aload_n 0, 1) := by decide +kernel
theorem ddX12_comesBy_50 : decode cX12_comesBy 50 = .ok (.getfield 286, 3) := by decide +kernel
theorem ddX12_comesBy_53 : decode cX12_comesBy 53 = .ok (.imul, 1) := by decide +kernel
theorem ddX12_comesBy_54 : decode cX12_comesBy 54 = .ok (.iload 5, 2) := by decide +kernel
theorem ddX12_comesBy_56 : decode cX12_comesBy 56 = .ok (.iadd, 1) := by decide +kernel
theorem ddX12_comesBy_57 : decode cX12_comesBy 57 = .ok (.istore 6, 2) := by decide +kernel
theorem ddX12_comesBy_59 : decode cX12_comesBy 59 = .ok (.aload_n 0, 1) := by decide +kernel
theorem ddX12_comesBy_60 : decode cX12_comesBy 60 = .ok (.getfield 140, 3) := by decide +kernel
theorem ddX12_comesBy_63 : decode cX12_comesBy 63 = .ok (.iload 5, 2) := by decide +kernel
theorem ddX12_comesBy_65 : decode cX12_comesBy 65 = .ok (.baload, 1) := by decide +kernel
theorem ddX12_comesBy_66 : decode cX12_comesBy 66 = .ok (.ifCond .eq 38, 3) := by decide +kernel
theorem ddX12_comesBy_69 : decode cX12_comesBy 69 = .ok (.iload_n 3, 1) := by decide +kernel
theorem ddX12_comesBy_70 : decode cX12_comesBy 70 = .ok (.aload_n 0, 1) := by decide +kernel
theorem ddX12_comesBy_71 : decode cX12_comesBy 71 = .ok (.getfield 128, 3) := by decide +kernel
theorem ddX12_comesBy_74 : decode cX12_comesBy 74 = .ok (.iload 5, 2) := by decide +kernel
theorem ddX12_comesBy_76 : decode cX12_comesBy 76 = .ok (.iaload, 1) := by decide +kernel
theorem ddX12_comesBy_77 : decode cX12_comesBy 77 = .ok (.isub, 1) := by decide +kernel
theorem ddX12_comesBy_78 : decode cX12_comesBy 78 = .ok (.aload_n 0, 1) := by decide +kernel
theorem ddX12_comesBy_79 : decode cX12_comesBy 79 = .ok (.getfield 36, 3) := by decide +kernel
theorem ddX12_comesBy_82 : decode cX12_comesBy 82 = .ok (.iload 6, 2) := by decide +kernel
theorem ddX12_comesBy_84 : decode cX12_comesBy 84 = .ok (.iaload, 1) := by decide +kernel
theorem ddX12_comesBy_85 : decode cX12_comesBy 85 = .ok (.if_icmp .le 19, 3) := by decide +kernel
theorem ddX12_comesBy_88 : decode cX12_comesBy 88 = .ok (.aload_n 0, 1) := by decide +kernel
theorem ddX12_comesBy_89 : decode cX12_comesBy 89 = .ok (.getfield 125, 3) := by decide +kernel
theorem ddX12_comesBy_92 : decode cX12_comesBy 92 = .ok (.iload 5, 2) := by decide +kernel
theorem ddX12_comesBy_94 : decode cX12_comesBy 94 = .ok (.iconst 0, 1) := by decide +kernel
theorem ddX12_comesBy_95 : decode cX12_comesBy 95 = .ok (.iastore, 1) := by decide +kernel
theorem ddX12_comesBy_96 : decode cX12_comesBy 96 = .ok (.aload_n 0, 1) := by decide +kernel
theorem ddX12_comesBy_97 : decode cX12_comesBy 97 = .ok (.getfield 140, 3) := by decide +kernel
theorem ddX12_comesBy_100 : decode cX12_comesBy 100 = .ok (.iload 5, 2) := by decide +kernel
theorem ddX12_comesBy_102 : decode cX12_comesBy 102 = .ok (.iconst 0, 1) := by decide +kernel
theorem ddX12_comesBy_103 : decode cX12_comesBy 103 = .ok (.bastore, 1) := by decide +kernel
theorem ddX12_comesBy_104 : decode cX12_comesBy 104 = .ok (.aload_n 0, 1) := by decide +kernel
theorem ddX12_comesBy_105 : decode cX12_comesBy 105 = .ok (.getfield 128, 3) := by decide +kernel
theorem ddX12_comesBy_108 : decode cX12_comesBy 108 = .ok (.iload 5, 2) := by decide +kernel
theorem ddX12_comesBy_110 : decode cX12_comesBy 110 = .ok (.iload_n 3, 1) := by decide +kernel
theorem ddX12_comesBy_111 : decode cX12_comesBy 111 = .ok (.iastore, 1) := by decide +kernel
theorem ddX12_comesBy_112 : decode cX12_comesBy 112 = .ok (.aload_n 0, 1) := by decide +kernel
theorem ddX12_comesBy_113 : decode cX12_comesBy 113 = .ok (.getfield 140, 3) := by decide +kernel
theorem ddX12_comesBy_116 : decode cX12_comesBy 116 = .ok (.iload 5, 2) := by decide +kernel
theorem ddX12_comesBy_118 : decode cX12_comesBy 118 = .ok (.baload, 1) := by decide +kernel
theorem ddX12_comesBy_119 : decode cX12_comesBy 119 = .ok (.ifCond .eq 23, 3) := by decide +kernel
theorem ddX12_comesBy_122 : decode cX12_comesBy 122 = .ok (.iload_n 3, 1) := by decide +kernel
theorem ddX12_comesBy_123 : decode cX12_comesBy 123 = .ok (.aload_n 0, 1) := by decide +kernel
theorem ddX12_comesBy_124 : decode cX12_comesBy 124 = .ok (.getfield 131, 3) := by decide +kernel
theorem ddX12_comesBy_127 : decode cX12_comesBy 127 = .ok (.iload 5, 2) := by decide +kernel
theorem ddX12_comesBy_129 : decode cX12_comesBy 129 = .ok (.iaload, 1) := by decide +kernel
theorem ddX12_comesBy_130 : decode cX12_comesBy 130 = .ok (.isub, 1) := by decide +kernel
theorem ddX12_comesBy_131 : decode cX12_comesBy 131 = .ok (.aload_n 0, 1) := by decide +kernel
theorem ddX12_comesBy_132 : decode cX12_comesBy 132 = .ok (.getfield 39, 3) := by decide +kernel
theorem ddX12_comesBy_135 : decode cX12_comesBy 135 = .ok (.iload 6, 2) := by decide +kernel
theorem ddX12_comesBy_137 : decode cX12_comesBy 137 = .ok (.iaload, 1) := by decide +kernel
theorem ddX12_comesBy_138 : decode cX12_comesBy 138 = .ok (.if_icmp .gt 4, 3) := by decide +kernel
theorem ddX12_comesBy_141 : decode cX12_comesBy 141 = .ok (.return_, 1) := by decide +kernel
theorem ddX12_comesBy_142 : decode cX12_comesBy 142 = .ok (.aload_n 0, 1) := by decide +kernel
theorem ddX12_comesBy_143 : decode cX12_comesBy 143 = .ok (.getfield 125, 3) := by decide +kernel
theorem ddX12_comesBy_146 : decode cX12_comesBy 146 = .ok (.iload 5, 2) := by decide +kernel
theorem ddX12_comesBy_148 : decode cX12_comesBy 148 = .ok (.iaload, 1) := by decide +kernel
theorem ddX12_comesBy_149 : decode cX12_comesBy 149 = .ok (.aload_n 0, 1) := by decide +kernel
theorem ddX12_comesBy_150 : decode cX12_comesBy 150 = .ok (.getfield 107, 3) := by decide +kernel
theorem ddX12_comesBy_153 : decode cX12_comesBy 153 = .ok (.iload 5, 2) := by decide +kernel
theorem ddX12_comesBy_155 : decode cX12_comesBy 155 = .ok (.iaload, 1) := by decide +kernel
theorem ddX12_comesBy_156 : decode cX12_comesBy 156 = .ok (.if_icmp .ne 6, 3) := by decide +kernel
theorem ddX12_comesBy_159 : decode cX12_comesBy 159 = .ok (.goto 94, 3) := by decide +kernel
theorem ddX12_comesBy_162 : decode cX12_comesBy 162 = .ok (.aload_n 0, 1) := by decide +kernel
theorem ddX12_comesBy_163 : decode cX12_comesBy 163 = .ok (.getfield 125, 3) := by decide +kernel
theorem ddX12_comesBy_166 : decode cX12_comesBy 166 = .ok (.iload 5, 2) := by decide +kernel
theorem ddX12_comesBy_168 : decode cX12_comesBy 168 = .ok (.dup2, 1) := by decide +kernel
theorem ddX12_comesBy_169 : decode cX12_comesBy 169 = .ok (.iaload, 1) := by decide +kernel
theorem ddX12_comesBy_170 : decode cX12_comesBy 170 = .ok (.iconst 1, 1) := by decide +kernel
theorem ddX12_comesBy_171 : decode cX12_comesBy 171 = .ok (.iadd, 1) := by decide +kernel
theorem ddX12_comesBy_172 : decode cX12_comesBy 172 = .ok (.iastore, 1) := by decide +kernel
theorem ddX12_comesBy_173 : decode cX12_comesBy 173 = .ok (.aload_n 0, 1) := by decide +kernel
theorem ddX12_comesBy_174 : decode cX12_comesBy 174 = .ok (.getfield 134, 3) := by decide +kernel
theorem ddX12_comesBy_177 : decode cX12_comesBy 177 = .ok (.iload 5, 2) := by decide +kernel
theorem ddX12_comesBy_179 : decode cX12_comesBy 179 = .ok (.dup2, 1) := by decide +kernel
theorem ddX12_comesBy_180 : decode cX12_comesBy 180 = .ok (.iaload, 1) := by decide +kernel
theorem ddX12_comesBy_181 : decode cX12_comesBy 181 = .ok (.iconst 1, 1) := by decide +kernel
theorem ddX12_comesBy_182 : decode cX12_comesBy 182 = .ok (.iadd, 1) := by decide +kernel
theorem ddX12_comesBy_183 : decode cX12_comesBy 183 = .ok (.iastore, 1) := by decide +kernel
theorem ddX12_comesBy_184 : decode cX12_comesBy 184 = .ok (.aload_n 0, 1) := by decide +kernel
theorem ddX12_comesBy_185 : decode cX12_comesBy 185 = .ok (.getfield 140, 3) := by decide +kernel
theorem ddX12_comesBy_188 : decode cX12_comesBy 188 = .ok (.iload 5, 2) := by decide +kernel
theorem ddX12_comesBy_190 : decode cX12_comesBy 190 = .ok (.iconst 1, 1) := by decide +kernel
theorem ddX12_comesBy_191 : decode cX12_comesBy 191 = .ok (.bastore, 1) := by decide +kernel
theorem ddX12_comesBy_192 : decode cX12_comesBy 192 = .ok (.aload_n 0, 1) := by decide +kernel
theorem ddX12_comesBy_193 : decode cX12_comesBy 193 = .ok (.getfield 131, 3) := by decide +kernel
theorem ddX12_comesBy_196 : decode cX12_comesBy 196 = .ok (.iload 5, 2) := by decide +kernel
theorem ddX12_comesBy_198 : decode cX12_comesBy 198 = .ok (.iload_n 3, 1) := by decide +kernel
theorem ddX12_comesBy_199 : decode cX12_comesBy 199 = .ok (.iastore, 1) := by decide +kernel
theorem ddX12_comesBy_200 : decode cX12_comesBy 200 = .ok (.aload_n 0, 1) := by decide +kernel
theorem ddX12_comesBy_201 : decode cX12_comesBy 201 = .ok (.getfield 122, 3) := by decide +kernel
theorem ddX12_comesBy_204 : decode cX12_comesBy 204 = .ok (.iconst 4, 1) := by decide +kernel
theorem ddX12_comesBy_205 : decode cX12_comesBy 205 = .ok (.iload_n 1, 1) := by decide +kernel
theorem ddX12_comesBy_206 : decode cX12_comesBy 206 = .ok (.imul, 1) := by decide +kernel
theorem ddX12_comesBy_207 : decode cX12_comesBy 207 = .ok (.iload_n 2, 1) := by decide +kernel
theorem ddX12_comesBy_208 : decode cX12_comesBy 208 = .ok (.iadd, 1) := by decide +kernel
theorem ddX12_comesBy_209 : decode cX12_comesBy 209 = .ok (.iload 5, 2) := by decide +kernel
theorem ddX12_comesBy_211 : decode cX12_comesBy 211 = .ok (.iastore, 1) := by decide +kernel
theorem ddX12_comesBy_212 : decode cX12_comesBy 212 = .ok (.aload_n 0, 1) := by decide +kernel
theorem ddX12_comesBy_213 : decode cX12_comesBy 213 = .ok (.getfield 119, 3) := by decide +kernel
theorem ddX12_comesBy_216 : decode cX12_comesBy 216 = .ok (.iconst 4, 1) := by decide +kernel
theorem ddX12_comesBy_217 : decode cX12_comesBy 217 = .ok (.iload_n 1, 1) := by decide +kernel
theorem ddX12_comesBy_218 : decode cX12_comesBy 218 = .ok (.imul, 1) := by decide +kernel
theorem ddX12_comesBy_219 : decode cX12_comesBy 219 = .ok (.iload_n 2, 1) := by decide +kernel
theorem ddX12_comesBy_220 : decode cX12_comesBy 220 = .ok (.iadd, 1) := by decide +kernel
theorem ddX12_comesBy_221 : decode cX12_comesBy 221 = .ok (.aload_n 0, 1) := by decide +kernel
theorem ddX12_comesBy_222 : decode cX12_comesBy 222 = .ok (.aload_n 0, 1) := by decide +kernel
theorem ddX12_comesBy_223 : decode cX12_comesBy 223 = .ok (.getfield 104, 3) := by decide +kernel
theorem ddX12_comesBy_226 : decode cX12_comesBy 226 = .ok (.iload_n 1, 1) := by decide +kernel
theorem ddX12_comesBy_227 : decode cX12_comesBy 227 = .ok (.iaload, 1) := by decide +kernel
theorem ddX12_comesBy_228 : decode cX12_comesBy 228 = .ok (.aload_n 0, 1) := by decide +kernel
theorem ddX12_comesBy_229 : decode cX12_comesBy 229 = .ok (.getfield 48, 3) := by decide +kernel
theorem ddX12_comesBy_232 : decode cX12_comesBy 232 = .ok (.iconst 4, 1) := by decide +kernel
theorem ddX12_comesBy_233 : decode cX12_comesBy 233 = .ok (.aload_n 0, 1) := by decide +kernel
theorem ddX12_comesBy_234 : decode cX12_comesBy 234 = .ok (.getfield 286, 3) := by decide +kernel
theorem ddX12_comesBy_237 : decode cX12_comesBy 237 = .ok (.imul, 1) := by decide +kernel
theorem ddX12_comesBy_238 : decode cX12_comesBy 238 = .ok (.iload_n 2, 1) := by decide +kernel
theorem ddX12_comesBy_239 : decode cX12_comesBy 239 = .ok (.iadd, 1) := by decide +kernel
theorem ddX12_comesBy_240 : decode cX12_comesBy 240 = .ok (.iaload, 1) := by decide +kernel
theorem ddX12_comesBy_241 : decode cX12_comesBy 241 = .ok (.aload_n 0, 1) := by decide +kernel
theorem ddX12_comesBy_242 : decode cX12_comesBy 242 = .ok (.getfield 125, 3) := by decide +kernel
theorem ddX12_comesBy_245 : decode cX12_comesBy 245 = .ok (.iload 5, 2) := by decide +kernel
theorem ddX12_comesBy_247 : decode cX12_comesBy 247 = .ok (.iaload, 1) := by decide +kernel
theorem ddX12_comesBy_248 : decode cX12_comesBy 248 = .ok (.invokevirtual 394, 3) := by decide +kernel
theorem ddX12_comesBy_251 : decode cX12_comesBy 251 = .ok (.iastore, 1) := by decide +kernel
theorem ddX12_comesBy_252 : decode cX12_comesBy 252 = .ok (.return_, 1) := by decide +kernel
theorem ddX12_comesBy_253 : decode cX12_comesBy 253 = .ok (.iinc 4 1, 3) := by decide +kernel
theorem ddX12_comesBy_256 : decode cX12_comesBy 256 = .ok (.goto (-232), 3) := by decide +kernel
theorem ddX12_comesBy_259 : decode cX12_comesBy 259 = .ok (.return_, 1) := by decide +kernel
def wq_k_X12_comesBy : List Cond := Cond.code yX12_comesBy cX12_comesBy 7 none :: (([Cond.fieldLink RX12 101 "CrowTollModel" "dMinute" "[I", Cond.fieldLink RX12 45 "CrowTollModel" "postAt" "[I", Cond.fieldLink RX12 286 "CrowTollModel" "bank" "I", Cond.fieldLink RX12 110 "CrowTollModel" "dSeatMany" "[I", Cond.fieldLink RX12 113 "CrowTollModel" "dSeats" "[I", Cond.fieldLink RX12 140 "CrowTollModel" "hasCounted" "[Z", Cond.fieldLink RX12 128 "CrowTollModel" "looked" "[I", Cond.fieldLink RX12 36 "CrowTollModel" "gap" "[I", Cond.fieldLink RX12 125 "CrowTollModel" "count" "[I", Cond.fieldLink RX12 107 "CrowTollModel" "dFar" "[I", Cond.fieldLink RX12 134 "CrowTollModel" "countedAll" "[I", Cond.fieldLink RX12 131 "CrowTollModel" "lastCounted" "[I", Cond.fieldLink RX12 122 "CrowTollModel" "counted" "[I", Cond.fieldLink RX12 119 "CrowTollModel" "paid" "[I", Cond.fieldLink RX12 104 "CrowTollModel" "dSacks" "[I", Cond.fieldLink RX12 48 "CrowTollModel" "toll" "[I", Cond.methodLink RX12 394 yX12_comes, Cond.instanceMethod yX12_comes, Cond.selects RX12 yX12_comes yX12_comes, Cond.initialized RX12, Cond.code yX12_comes cX12_comes 7 (some .int), Cond.fieldLink RX12 70 "CrowTollModel" "isLaw" "[Z", Cond.fieldLink RX12 63 "CrowTollModel" "ruleTo" "[I", Cond.fieldLink RX12 83 "CrowTollModel" "code" "[I", Cond.methodLink RX12 231 yX12_isLetter, Cond.static yX12_isLetter, Cond.code yX12_isLetter cX12_isLetter 1 (some .boolean), Cond.fieldLink RX12 95 "CrowTollModel" "pile" "[I", Cond.fieldLink RX12 86 "CrowTollModel" "codeNumber" "[I", Cond.methodLink RX12 359 yX12_two, Cond.static yX12_two, Cond.code yX12_two cX12_two 3 (some .int), Cond.fieldLink RX12 39 "CrowTollModel" "takes" "[I"] : List Cond) ++ wsX120)
set_option maxRecDepth 20000 in
theorem gr_k_X12_comesBy_k_X12_comes : GoodIn wq_k_X12_comesBy wq_k_X12_comes := List.forall_mem_cons.mpr ⟨⟨(List.mem_of_getElem? (i := 21) rfl), good_of_word rfl⟩, List.forall_mem_append.mpr ⟨List.forall_mem_cons.mpr ⟨⟨(List.mem_of_getElem? (i := 22) rfl), good_of_word rfl⟩, List.forall_mem_cons.mpr ⟨⟨(List.mem_of_getElem? (i := 3) rfl), good_of_word rfl⟩, List.forall_mem_cons.mpr ⟨⟨(List.mem_of_getElem? (i := 23) rfl), good_of_word rfl⟩, List.forall_mem_cons.mpr ⟨⟨(List.mem_of_getElem? (i := 24) rfl), good_of_word rfl⟩, List.forall_mem_cons.mpr ⟨⟨(List.mem_of_getElem? (i := 25) rfl), good_of_word rfl⟩, List.forall_mem_cons.mpr ⟨⟨(List.mem_of_getElem? (i := 26) rfl), good_of_word rfl⟩, List.forall_mem_cons.mpr ⟨⟨(List.mem_of_getElem? (i := 20) rfl), good_of_word rfl⟩, List.forall_mem_cons.mpr ⟨⟨(List.mem_of_getElem? (i := 27) rfl), good_of_word rfl⟩, List.forall_mem_cons.mpr ⟨⟨(List.mem_of_getElem? (i := 28) rfl), good_of_word rfl⟩, List.forall_mem_cons.mpr ⟨⟨(List.mem_of_getElem? (i := 29) rfl), good_of_word rfl⟩, List.forall_mem_cons.mpr ⟨⟨(List.mem_of_getElem? (i := 30) rfl), good_of_word rfl⟩, List.forall_mem_cons.mpr ⟨⟨(List.mem_of_getElem? (i := 31) rfl), good_of_word rfl⟩, List.forall_mem_cons.mpr ⟨⟨(List.mem_of_getElem? (i := 32) rfl), good_of_word rfl⟩, (fun _ h => absurd h List.not_mem_nil)⟩⟩⟩⟩⟩⟩⟩⟩⟩⟩⟩⟩⟩, fun w h => ⟨(fun w h => List.mem_cons_of_mem _ (List.mem_append_right _ h)) w h, good_of_word (List.all_eq_true.mp gw_X12 w h)⟩⟩⟩
set_option maxRecDepth 20000 in
theorem gq_k_X12_comesBy_k_X12_comes_394 : GoodIn wq_k_X12_comesBy (wsV RX12 394 RX12 yX12_comes wq_k_X12_comes) := goodIn_app (List.forall_mem_cons.mpr ⟨⟨(List.mem_of_getElem? (i := 17) rfl), good_of_word rfl⟩, List.forall_mem_cons.mpr ⟨⟨(List.mem_of_getElem? (i := 18) rfl), good_of_word rfl⟩, List.forall_mem_cons.mpr ⟨⟨(List.mem_of_getElem? (i := 19) rfl), good_of_word rfl⟩, List.forall_mem_cons.mpr ⟨⟨(List.mem_of_getElem? (i := 20) rfl), good_of_word rfl⟩, (fun _ h => absurd h List.not_mem_nil)⟩⟩⟩⟩) gr_k_X12_comesBy_k_X12_comes
set_option maxHeartbeats 8000000 in
set_option maxRecDepth 100000 in
theorem k_X12_comesBy (l : Launch) (D : va_G) (cy : Nat → ClassId) (ad : Nat → Nat) (g : Nat → va_E) {u0_0 : Value} {u0_1 : Value} {u0_2 : Value} {u0_3 : Value} {u0_4 : Value} {u0_5 : Value} {u0_6 : Value} {u0_7 : Value} {u0_8 : Value} {u0_9 : Value} {u0_10 : Value} {u0_11 : Value} {u0_12 : Value} {u0_13 : Value} {u0_14 : Value} {u0_15 : Value} {u0_18 : Value} {u0_21 : Value} {u0_22 : Value} {u0_23 : Value} {u0_24 : Value} {u0_26 : Value} {u0_28 : Value} {u0_29 : Value} {u0_30 : Value} {u0_33 : Value} {u0_34 : Value} {x0_36 : Int32} {u0_37 : Value} {u0_38 : Value} {u0_39 : Value} {u0_40 : Value} {u0_41 : Value} {u0_47 : Value} {u0_54 : Value} {u0_56 : Value} {u0_57 : Value} {u0_58 : Value} {u0_59 : Value} {u0_60 : Value} {u0_61 : Value} {u0_62 : Value} {u0_63 : Value} {u0_64 : Value} {u0_65 : Value} {u0_66 : Value} {u0_67 : Value} {u0_68 : Value} {u0_69 : Value} {u0_70 : Value} {u0_71 : Value} {u0_72 : Value} {u0_73 : Value} {c1 : Nat → Int32} {c2 : Nat → Int32} {c3 : Nat → Int32} {c4 : Nat → Int32} {c5 : Nat → Int32} {c6 : Nat → Int32} {c7 : Nat → Int32} {c8 : Nat → Int32} {c9 : Nat → Int32} {c10 : Nat → Int32} {c11 : Nat → Int32} {c12 : Nat → Int32} {c13 : Nat → Int32} {c14 : Nat → Int32} {c15 : Nat → Int32} {c16 : Nat → Int32} {c17 : Nat → Int32} {c18 : Nat → Int32} {c19 : Nat → Int32} {c20 : Nat → Int32} {c21 : Nat → Int32} {cx : Int32} {px : Int32} (o0 : g 0 = .inr (12, [u0_0, u0_1, u0_2, u0_3, u0_4, u0_5, u0_6, u0_7, u0_8, u0_9, u0_10, u0_11, u0_12, u0_13, u0_14, u0_15, .ref (ad 7), .ref (ad 21), u0_18, .ref (ad 2), .ref (ad 14), u0_21, u0_22, u0_23, u0_24, .ref (ad 15), u0_26, .ref (ad 16), u0_28, u0_29, u0_30, .ref (ad 17), .ref (ad 18), u0_33, u0_34, .ref (ad 19), .int x0_36, u0_37, u0_38, u0_39, u0_40, u0_41, .ref (ad 1), .ref (ad 13), .ref (ad 9), .ref (ad 3), .ref (ad 4), u0_47, .ref (ad 20), .ref (ad 12), .ref (ad 8), .ref (ad 6), .ref (ad 11), .ref (ad 10), u0_54, .ref (ad 5), u0_56, u0_57, u0_58, u0_59, u0_60, u0_61, u0_62, u0_63, u0_64, u0_65, u0_66, u0_67, u0_68, u0_69, u0_70, u0_71, u0_72, u0_73])) (a1 : g 1 = .inl (cy 0, 30, .inl c1)) (a2 : g 2 = .inl (cy 0, 8, .inl c2)) (a3 : g 3 = .inl (cy 0, 4, .inl c3)) (a4 : g 4 = .inl (cy 0, 20, .inl c4)) (a5 : g 5 = .inl (cy 2, 5, .inl c5)) (a6 : g 6 = .inl (cy 0, 5, .inl c6)) (a7 : g 7 = .inl (cy 0, 10, .inl c7)) (a8 : g 8 = .inl (cy 0, 5, .inl c8)) (a9 : g 9 = .inl (cy 0, 5, .inl c9)) (a10 : g 10 = .inl (cy 0, 5, .inl c10)) (a11 : g 11 = .inl (cy 0, 5, .inl c11)) (a12 : g 12 = .inl (cy 0, 120, .inl c12)) (a13 : g 13 = .inl (cy 0, 30, .inl c13)) (a14 : g 14 = .inl (cy 0, 8, .inl c14)) (a15 : g 15 = .inl (cy 0, 2, .inl c15)) (a16 : g 16 = .inl (cy 2, 2, .inl c16)) (a17 : g 17 = .inl (cy 0, 980, .inl c17)) (a18 : g 18 = .inl (cy 0, 980, .inl c18)) (a19 : g 19 = .inl (cy 0, 60, .inl c19)) (a20 : g 20 = .inl (cy 0, 120, .inl c20)) (a21 : g 21 = .inl (cy 0, 10, .inl c21)) (b0_36 : zi 0 1 x0_36) (ha3 : za 0 5 c3) (ha4 : za 0 4 c4) (ha5 : za 0 1 c5) (ha15 : za 0 980 c15) (ha16 : za 0 1 c16) (p_cx : zi 0 29 cx) (p_px : zi 0 3 px) (hF : zf c16 c17 c15 x0_36) : cMv l yX12_comesBy wq_k_X12_comesBy { frames := 2, cells := 0, slots := 0, locals := 48 } 22 0 0 0 D cy ad g [.ref (ad 0), .int cx, .int px] (fun nw lu => ∃ (d5 : Nat → Int32) (d6 : Nat → Int32) (d8 : Nat → Int32) (d10 : Nat → Int32) (d11 : Nat → Int32) (d12 : Nat → Int32) (d19 : Nat → Int32) (d20 : Nat → Int32), (za 0 1 d5) ∧ (lu = [(5, .inl (cy 2, 5, .inl d5)), (6, .inl (cy 0, 5, .inl d6)), (8, .inl (cy 0, 5, .inl d8)), (10, .inl (cy 0, 5, .inl d10)), (11, .inl (cy 0, 5, .inl d11)), (12, .inl (cy 0, 120, .inl d12)), (19, .inl (cy 0, 60, .inl d19)), (20, .inl (cy 0, 120, .inl d20))])) := by
  refine cM_of (Qc := fun A => cQv (fun nw lu => ∃ (d5 : Nat → Int32) (d6 : Nat → Int32) (d8 : Nat → Int32) (d10 : Nat → Int32) (d11 : Nat → Int32) (d12 : Nat → Int32) (d19 : Nat → Int32) (d20 : Nat → Int32), (za 0 1 d5) ∧ (lu = [(5, .inl (cy 2, 5, .inl d5)), (6, .inl (cy 0, 5, .inl d6)), (8, .inl (cy 0, 5, .inl d8)), (10, .inl (cy 0, 5, .inl d10)), (11, .inl (cy 0, 5, .inl d11)), (12, .inl (cy 0, 120, .inl d12)), (19, .inl (cy 0, 60, .inl d19)), (20, .inl (cy 0, 120, .inl d20))])) D 22 0 ad g A) (cc := cX12_comesBy) (maxL := 7) (ret := none) (by decide) rfl (Nat.le_of_ble_eq_true rfl) ?_
  intro p e s m below meth c A hC hr hlk hnm hO ls hl
  have hC : CallFix p m c cX12_comesBy 7 s [.ref (ad 0), .int cx, .int px].toArray wq_k_X12_comesBy RX12 := hC
  obtain ⟨hx, hb, hml, hown, hts⟩ := id hC
  have hl : lv_has ls 7 [(0, .ref (ad 0)), (1, .int cx), (2, .int px)] := hl
  have i_X12 : ∀ w ∈ wsX120, w ∈ wq_k_X12_comesBy := fun w h => List.mem_cons_of_mem _ (List.mem_append_right _ h)
  have hO := hO.notes [(5, .inl (cy 2, 5, .inl c5)), (6, .inl (cy 0, 5, .inl c6)), (8, .inl (cy 0, 5, .inl c8)), (10, .inl (cy 0, 5, .inl c10)), (11, .inl (cy 0, 5, .inl c11)), (12, .inl (cy 0, 120, .inl c12)), (19, .inl (cy 0, 60, .inl c19)), (20, .inl (cy 0, 120, .inl c20))] (List.forall_mem_cons.mpr ⟨a5, List.forall_mem_cons.mpr ⟨a6, List.forall_mem_cons.mpr ⟨a8, List.forall_mem_cons.mpr ⟨a10, List.forall_mem_cons.mpr ⟨a11, List.forall_mem_cons.mpr ⟨a12, List.forall_mem_cons.mpr ⟨a19, List.forall_mem_cons.mpr ⟨a20, (fun _ h => absurd h List.not_mem_nil)⟩⟩⟩⟩⟩⟩⟩⟩)
  refine lv_aload_n hx hb ddX12_comesBy_0 rfl (lv_at hl 0 rfl) ?_
  refine cg_get hC hO 0 (by decide) o0 rfl i_X12 42 (by decide) (List.mem_of_getElem? (i := 1) rfl) rfl ddX12_comesBy_1 ?_
  refine lv_iload_n hx hb ddX12_comesBy_4 rfl (lv_at hl 1 rfl) ?_
  refine zg_iald hC hO 1 (by decide) a1 (za_all _) (zi_in p_cx (by decide)) ddX12_comesBy_5 (fun v_5_2769 z_5_2770 => ?_)
  refine lv_aload_n hx hb ddX12_comesBy_6 rfl (lv_at hl 0 rfl) ?_
  refine cg_get hC hO 0 (by decide) o0 rfl i_X12 19 (by decide) (List.mem_of_getElem? (i := 2) rfl) rfl ddX12_comesBy_7 ?_
  refine lv_iconst (v := 4) hx hb ddX12_comesBy_10 (by decide) ?_
  refine lv_aload_n hx hb ddX12_comesBy_11 rfl (lv_at hl 0 rfl) ?_
  refine cg_get hC hO 0 (by decide) o0 rfl i_X12 36 (by decide) (List.mem_of_getElem? (i := 3) rfl) rfl ddX12_comesBy_12 ?_
  refine lv_imul hx hb ddX12_comesBy_15 ?_
  refine zg_top2 (P := fun v => zi 0 4 v) (E := fun v => v.toInt = 4 * (x0_36 : Int32).toInt) (zi_mulk (zi_k (a := 4) (b := 4) (x := 4) rfl) b0_36 (n := 4) (by decide) (by decide)) (fun v_15_2771 z_15_2772 q_15_2773 => ?_)
  refine lv_iload_n hx hb ddX12_comesBy_16 rfl (lv_at hl 2 rfl) ?_
  refine lv_iadd hx hb ddX12_comesBy_17 ?_
  refine zg_top2 (P := fun v => zi 0 7 v) (E := fun v => v.toInt = (v_15_2771 : Int32).toInt + (px : Int32).toInt) (zi_add z_15_2772 p_px (by decide)) (fun v_17_2774 z_17_2775 q_17_2776 => ?_)
  refine zg_iald hC hO 2 (by decide) a2 (za_all _) (zi_in z_17_2775 (by decide)) ddX12_comesBy_18 (fun v_18_2777 z_18_2778 => ?_)
  refine lv_iadd hx hb ddX12_comesBy_19 ?_
  refine lv_topi (fun v_19_2779 _ => ?_)
  refine lv_istore_n (lv' := [(3, .int v_19_2779), (0, .ref (ad 0)), (1, .int cx), (2, .int px)]) hx hb ddX12_comesBy_20 rfl hl (by decide) rfl (fun ls hl => ?_)
  refine lv_iconst (v := 0) hx hb ddX12_comesBy_21 (by decide) ?_
  refine lv_istore (lv' := [(4, .int 0), (3, .int v_19_2779), (0, .ref (ad 0)), (1, .int cx), (2, .int px)]) hx hb ddX12_comesBy_22 hl (by decide) rfl (fun ls hl => ?_)
  have loop_24_4185 : ∀ (d_24_4186 : Nat) (v_24_3982 : Int32) (c_24_3984 : Nat → Int32) (c_24_3986 : Nat → Int32) (c_24_3988 : Nat → Int32), zi 0 5 v_24_3982 → za 0 1 c_24_3984 → za (-2147483648) 2147483647 c_24_3986 → za (-2147483648) 2147483647 c_24_3988 → (5 + 1 - v_24_3982.toInt).toNat < d_24_4186 → ∀ (H : Heap) (locs : List Loc), cO D cy A s.heap s 22 ad (cup [(5, .inl (cy 2, 5, .inl c_24_3984)), (6, .inl (cy 0, 5, .inl c_24_3986)), (8, .inl (cy 0, 5, .inl c_24_3988)), (10, .inl (cy 0, 5, .inl c10)), (11, .inl (cy 0, 5, .inl c11)), (12, .inl (cy 0, 120, .inl c12)), (19, .inl (cy 0, 60, .inl c19)), (20, .inl (cy 0, 120, .inl c20))] g) H locs → ∀ ls : Array Slot, lv_has ls 7 [(4, .int v_24_3982), (3, .int v_19_2779), (0, .ref (ad 0)), (1, .int cx), (2, .int px)] → W p l e { frames := 2, cells := 0, slots := 0, locals := 48 } s m [.ref (ad 0), .int cx, .int px].toArray below meth c H locs 0 0 (MQ below (cQv (fun nw lu => ∃ (d5 : Nat → Int32) (d6 : Nat → Int32) (d8 : Nat → Int32) (d10 : Nat → Int32) (d11 : Nat → Int32) (d12 : Nat → Int32) (d19 : Nat → Int32) (d20 : Nat → Int32), (za 0 1 d5) ∧ (lu = [(5, .inl (cy 2, 5, .inl d5)), (6, .inl (cy 0, 5, .inl d6)), (8, .inl (cy 0, 5, .inl d8)), (10, .inl (cy 0, 5, .inl d10)), (11, .inl (cy 0, 5, .inl d11)), (12, .inl (cy 0, 120, .inl d12)), (19, .inl (cy 0, 60, .inl d19)), (20, .inl (cy 0, 120, .inl d20))])) D 22 0 ad g A) [.ref (ad 0), .int cx, .int px].toArray s 0 0 A) (F0 m 24 ls [])  := by
    intro d_24_4186
    induction d_24_4186 with
    | zero => intro v_24_3982 c_24_3984 c_24_3986 c_24_3988 z_24_3983 zc_24_3985 zc_24_3987 zc_24_3989 mu_24_4187; exact absurd mu_24_4187 (Nat.not_lt_zero _)
    | succ d_24_4186 ih_24_4188 =>
      intro v_24_3982 c_24_3984 c_24_3986 c_24_3988 z_24_3983 zc_24_3985 zc_24_3987 zc_24_3989 mu_24_4187 H locs hO ls hl
      refine lv_iload hx hb ddX12_comesBy_24 (lv_at hl 0 rfl) ?_
      refine lv_aload_n hx hb ddX12_comesBy_26 rfl (lv_at hl 2 rfl) ?_
      refine cg_get hC hO 0 (by decide) o0 rfl i_X12 45 (by decide) (List.mem_of_getElem? (i := 4) rfl) rfl ddX12_comesBy_27 ?_
      refine lv_iload_n hx hb ddX12_comesBy_30 rfl (lv_at hl 4 rfl) ?_
      refine zg_iald hC hO 3 (by decide) a3 ha3 (zi_in p_px (by decide)) ddX12_comesBy_31 (fun v_31_4189 z_31_4190 => ?_)
      refine lv_icmp_ge (tgt := 259) hx hb ddX12_comesBy_32 (by decide) (fun h_32_4191 => ?_) (fun h_32_4191 => ?_)
      · have q_32_4192 := zr_le h_32_4191
        exact cg_vret (nw := fun _ => 0) hC hr hlk hO.same (Nat.le_of_ble_eq_true rfl) (Nat.le_of_ble_eq_true rfl) (⟨c_24_3984, c_24_3986, c_24_3988, c10, c11, c12, c19, c20, zc_24_3985, rfl⟩) ddX12_comesBy_259
      · have q_32_4193 := zr_nle h_32_4191
        have z_32_4194 : zi 0 4 v_24_3982 := zu_lt q_32_4193 z_24_3983 z_31_4190 (by decide)
        have z_32_4195 : zi 1 5 v_31_4189 := zd_lt q_32_4193 z_24_3983 z_31_4190 (by decide)
        refine lv_aload_n hx hb ddX12_comesBy_35 rfl (lv_at hl 2 rfl) ?_
        refine cg_get hC hO 0 (by decide) o0 rfl i_X12 46 (by decide) (List.mem_of_getElem? (i := 5) rfl) rfl ddX12_comesBy_36 ?_
        refine lv_iconst (v := 5) hx hb ddX12_comesBy_39 (by decide) ?_
        refine lv_iload_n hx hb ddX12_comesBy_40 rfl (lv_at hl 4 rfl) ?_
        refine lv_imul hx hb ddX12_comesBy_41 ?_
        refine zg_top2 (P := fun v => zi 0 15 v) (E := fun v => v.toInt = 5 * (px : Int32).toInt) (zi_mulk (zi_k (a := 5) (b := 5) (x := 5) rfl) p_px (n := 5) (by decide) (by decide)) (fun v_41_4196 z_41_4197 q_41_4198 => ?_)
        refine lv_iload hx hb ddX12_comesBy_42 (lv_at hl 0 rfl) ?_
        refine lv_iadd hx hb ddX12_comesBy_44 ?_
        refine zg_top2 (P := fun v => zi 0 19 v) (E := fun v => v.toInt = (v_41_4196 : Int32).toInt + (v_24_3982 : Int32).toInt) (zi_add z_41_4197 z_32_4194 (by decide)) (fun v_44_4199 z_44_4200 q_44_4201 => ?_)
        refine zg_iald hC hO 4 (by decide) a4 ha4 (zi_in z_44_4200 (by decide)) ddX12_comesBy_45 (fun v_45_4202 z_45_4203 => ?_)
        refine lv_istore (lv' := [(5, .int v_45_4202), (4, .int v_24_3982), (3, .int v_19_2779), (0, .ref (ad 0)), (1, .int cx), (2, .int px)]) hx hb ddX12_comesBy_46 hl (by decide) rfl (fun ls hl => ?_)
        refine lv_iconst (v := 5) hx hb ddX12_comesBy_48 (by decide) ?_
        refine lv_aload_n hx hb ddX12_comesBy_49 rfl (lv_at hl 3 rfl) ?_
        refine cg_get hC hO 0 (by decide) o0 rfl i_X12 36 (by decide) (List.mem_of_getElem? (i := 3) rfl) rfl ddX12_comesBy_50 ?_
        refine lv_imul hx hb ddX12_comesBy_53 ?_
        refine zg_top2 (P := fun v => zi 0 5 v) (E := fun v => v.toInt = 5 * (x0_36 : Int32).toInt) (zi_mulk (zi_k (a := 5) (b := 5) (x := 5) rfl) b0_36 (n := 5) (by decide) (by decide)) (fun v_53_4204 z_53_4205 q_53_4206 => ?_)
        refine lv_iload hx hb ddX12_comesBy_54 (lv_at hl 0 rfl) ?_
        refine lv_iadd hx hb ddX12_comesBy_56 ?_
        refine zg_top2 (P := fun v => zi 0 9 v) (E := fun v => v.toInt = (v_53_4204 : Int32).toInt + (v_45_4202 : Int32).toInt) (zi_add z_53_4205 z_45_4203 (by decide)) (fun v_56_4207 z_56_4208 q_56_4209 => ?_)
        refine lv_istore (lv' := [(6, .int v_56_4207), (5, .int v_45_4202), (4, .int v_24_3982), (3, .int v_19_2779), (0, .ref (ad 0)), (1, .int cx), (2, .int px)]) hx hb ddX12_comesBy_57 hl (by decide) rfl (fun ls hl => ?_)
        refine lv_aload_n hx hb ddX12_comesBy_59 rfl (lv_at hl 4 rfl) ?_
        refine cg_get hC hO 0 (by decide) o0 rfl i_X12 55 (by decide) (List.mem_of_getElem? (i := 6) rfl) rfl ddX12_comesBy_60 ?_
        refine lv_iload hx hb ddX12_comesBy_63 (lv_at hl 1 rfl) ?_
        refine zg_zald hC hO 5 (by decide) rfl zc_24_3985 (zi_in z_45_4203 (by decide)) ddX12_comesBy_65 (fun v_65_4210 z_65_4211 => ?_)
        have J_104_4235 : ∀ (c_104_4231 : Nat → Int32) (c_104_4233 : Nat → Int32), za 0 1 c_104_4231 → za (-2147483648) 2147483647 c_104_4233 → ∀ (H : Heap) (locs : List Loc), cO D cy A s.heap s 22 ad (cup [(5, .inl (cy 2, 5, .inl c_104_4231)), (6, .inl (cy 0, 5, .inl c_24_3986)), (8, .inl (cy 0, 5, .inl c_104_4233)), (10, .inl (cy 0, 5, .inl c10)), (11, .inl (cy 0, 5, .inl c11)), (12, .inl (cy 0, 120, .inl c12)), (19, .inl (cy 0, 60, .inl c19)), (20, .inl (cy 0, 120, .inl c20))] g) H locs → ∀ ls : Array Slot, lv_has ls 7 [(6, .int v_56_4207), (5, .int v_45_4202), (4, .int v_24_3982), (3, .int v_19_2779), (0, .ref (ad 0)), (1, .int cx), (2, .int px)] → W p l e { frames := 2, cells := 0, slots := 0, locals := 48 } s m [.ref (ad 0), .int cx, .int px].toArray below meth c H locs 0 0 (MQ below (cQv (fun nw lu => ∃ (d5 : Nat → Int32) (d6 : Nat → Int32) (d8 : Nat → Int32) (d10 : Nat → Int32) (d11 : Nat → Int32) (d12 : Nat → Int32) (d19 : Nat → Int32) (d20 : Nat → Int32), (za 0 1 d5) ∧ (lu = [(5, .inl (cy 2, 5, .inl d5)), (6, .inl (cy 0, 5, .inl d6)), (8, .inl (cy 0, 5, .inl d8)), (10, .inl (cy 0, 5, .inl d10)), (11, .inl (cy 0, 5, .inl d11)), (12, .inl (cy 0, 120, .inl d12)), (19, .inl (cy 0, 60, .inl d19)), (20, .inl (cy 0, 120, .inl d20))])) D 22 0 ad g A) [.ref (ad 0), .int cx, .int px].toArray s 0 0 A) (F0 m 104 ls []) := by
          intro c_104_4231 c_104_4233 zc_104_4232 zc_104_4234 H locs hO ls hl
          refine lv_aload_n hx hb ddX12_comesBy_104 rfl (lv_at hl 4 rfl) ?_
          refine cg_get hC hO 0 (by decide) o0 rfl i_X12 51 (by decide) (List.mem_of_getElem? (i := 7) rfl) rfl ddX12_comesBy_105 ?_
          refine lv_iload hx hb ddX12_comesBy_108 (lv_at hl 1 rfl) ?_
          refine lv_iload_n hx hb ddX12_comesBy_110 rfl (lv_at hl 3 rfl) ?_
          refine zg_iast hC hO 6 (by decide) rfl zc_24_3987 (zi_all v_19_2779) (zi_in z_45_4203 (by decide)) ddX12_comesBy_111 (fun H locs c_111_4236 zc_111_4237 hO => ?_)
          have hO : cO D cy A s.heap s 22 ad (cup [(5, .inl (cy 2, 5, .inl c_104_4231)), (6, .inl (cy 0, 5, .inl c_111_4236)), (8, .inl (cy 0, 5, .inl c_104_4233)), (10, .inl (cy 0, 5, .inl c10)), (11, .inl (cy 0, 5, .inl c11)), (12, .inl (cy 0, 120, .inl c12)), (19, .inl (cy 0, 60, .inl c19)), (20, .inl (cy 0, 120, .inl c20))] g) _ _ := hO
          refine lv_aload_n hx hb ddX12_comesBy_112 rfl (lv_at hl 4 rfl) ?_
          refine cg_get hC hO 0 (by decide) o0 rfl i_X12 55 (by decide) (List.mem_of_getElem? (i := 6) rfl) rfl ddX12_comesBy_113 ?_
          refine lv_iload hx hb ddX12_comesBy_116 (lv_at hl 1 rfl) ?_
          refine zg_zald hC hO 5 (by decide) rfl zc_104_4232 (zi_in z_45_4203 (by decide)) ddX12_comesBy_118 (fun v_118_4238 z_118_4239 => ?_)
          refine lv_if_eq (tgt := 142) hx hb ddX12_comesBy_119 (by decide) (fun h_119_4240 => ?_) (fun h_119_4240 => ?_)
          · have q_119_4241 := zr_eq h_119_4240
            have z_119_4242 : zi 0 0 v_118_4238 := ze_eq q_119_4241 z_118_4239 (zi_k (a := 0) (b := 0) (x := 0) rfl)
            refine lv_aload_n hx hb ddX12_comesBy_142 rfl (lv_at hl 4 rfl) ?_
            refine cg_get hC hO 0 (by decide) o0 rfl i_X12 50 (by decide) (List.mem_of_getElem? (i := 9) rfl) rfl ddX12_comesBy_143 ?_
            refine lv_iload hx hb ddX12_comesBy_146 (lv_at hl 1 rfl) ?_
            refine zg_iald hC hO 8 (by decide) rfl zc_104_4234 (zi_in z_45_4203 (by decide)) ddX12_comesBy_148 (fun v_148_4243 z_148_4244 => ?_)
            refine lv_aload_n hx hb ddX12_comesBy_149 rfl (lv_at hl 4 rfl) ?_
            refine cg_get hC hO 0 (by decide) o0 rfl i_X12 44 (by decide) (List.mem_of_getElem? (i := 10) rfl) rfl ddX12_comesBy_150 ?_
            refine lv_iload hx hb ddX12_comesBy_153 (lv_at hl 1 rfl) ?_
            refine zg_iald hC hO 9 (by decide) a9 (za_all _) (zi_in z_45_4203 (by decide)) ddX12_comesBy_155 (fun v_155_4245 z_155_4246 => ?_)
            refine lv_icmp_ne (tgt := 162) hx hb ddX12_comesBy_156 (by decide) (fun h_156_4247 => ?_) (fun h_156_4247 => ?_)
            · refine lv_aload_n hx hb ddX12_comesBy_162 rfl (lv_at hl 4 rfl) ?_
              refine cg_get hC hO 0 (by decide) o0 rfl i_X12 50 (by decide) (List.mem_of_getElem? (i := 9) rfl) rfl ddX12_comesBy_163 ?_
              refine lv_iload hx hb ddX12_comesBy_166 (lv_at hl 1 rfl) ?_
              refine lv_dup2_11 hx hb ddX12_comesBy_168 rfl rfl ?_
              refine zg_iald hC hO 8 (by decide) rfl zc_104_4234 (zi_in z_45_4203 (by decide)) ddX12_comesBy_169 (fun v_169_4248 z_169_4249 => ?_)
              refine lv_iconst (v := 1) hx hb ddX12_comesBy_170 (by decide) ?_
              refine lv_iadd hx hb ddX12_comesBy_171 ?_
              refine lv_topi (fun v_171_4250 _ => ?_)
              refine zg_iast hC hO 8 (by decide) rfl zc_104_4234 (zi_all v_171_4250) (zi_in z_45_4203 (by decide)) ddX12_comesBy_172 (fun H locs c_172_4251 zc_172_4252 hO => ?_)
              have hO : cO D cy A s.heap s 22 ad (cup [(5, .inl (cy 2, 5, .inl c_104_4231)), (6, .inl (cy 0, 5, .inl c_111_4236)), (8, .inl (cy 0, 5, .inl c_172_4251)), (10, .inl (cy 0, 5, .inl c10)), (11, .inl (cy 0, 5, .inl c11)), (12, .inl (cy 0, 120, .inl c12)), (19, .inl (cy 0, 60, .inl c19)), (20, .inl (cy 0, 120, .inl c20))] g) _ _ := hO
              refine lv_aload_n hx hb ddX12_comesBy_173 rfl (lv_at hl 4 rfl) ?_
              refine cg_get hC hO 0 (by decide) o0 rfl i_X12 53 (by decide) (List.mem_of_getElem? (i := 11) rfl) rfl ddX12_comesBy_174 ?_
              refine lv_iload hx hb ddX12_comesBy_177 (lv_at hl 1 rfl) ?_
              refine lv_dup2_11 hx hb ddX12_comesBy_179 rfl rfl ?_
              refine zg_iald hC hO 10 (by decide) rfl (za_all _) (zi_in z_45_4203 (by decide)) ddX12_comesBy_180 (fun v_180_4253 z_180_4254 => ?_)
              refine lv_iconst (v := 1) hx hb ddX12_comesBy_181 (by decide) ?_
              refine lv_iadd hx hb ddX12_comesBy_182 ?_
              refine lv_topi (fun v_182_4255 _ => ?_)
              refine zg_iast hC hO 10 (by decide) rfl (za_all _) (zi_all v_182_4255) (zi_in z_45_4203 (by decide)) ddX12_comesBy_183 (fun H locs c_183_4256 zc_183_4257 hO => ?_)
              have hO : cO D cy A s.heap s 22 ad (cup [(5, .inl (cy 2, 5, .inl c_104_4231)), (6, .inl (cy 0, 5, .inl c_111_4236)), (8, .inl (cy 0, 5, .inl c_172_4251)), (10, .inl (cy 0, 5, .inl c_183_4256)), (11, .inl (cy 0, 5, .inl c11)), (12, .inl (cy 0, 120, .inl c12)), (19, .inl (cy 0, 60, .inl c19)), (20, .inl (cy 0, 120, .inl c20))] g) _ _ := hO
              refine lv_aload_n hx hb ddX12_comesBy_184 rfl (lv_at hl 4 rfl) ?_
              refine cg_get hC hO 0 (by decide) o0 rfl i_X12 55 (by decide) (List.mem_of_getElem? (i := 6) rfl) rfl ddX12_comesBy_185 ?_
              refine lv_iload hx hb ddX12_comesBy_188 (lv_at hl 1 rfl) ?_
              refine lv_iconst (v := 1) hx hb ddX12_comesBy_190 (by decide) ?_
              refine zg_zast hC hO 5 (by decide) rfl zc_104_4232 (zi_k (a := 0) (b := 1) (x := 1) rfl) (zi_in z_45_4203 (by decide)) ddX12_comesBy_191 (fun H locs c_191_4258 zc_191_4259 hO => ?_)
              have hO : cO D cy A s.heap s 22 ad (cup [(5, .inl (cy 2, 5, .inl c_191_4258)), (6, .inl (cy 0, 5, .inl c_111_4236)), (8, .inl (cy 0, 5, .inl c_172_4251)), (10, .inl (cy 0, 5, .inl c_183_4256)), (11, .inl (cy 0, 5, .inl c11)), (12, .inl (cy 0, 120, .inl c12)), (19, .inl (cy 0, 60, .inl c19)), (20, .inl (cy 0, 120, .inl c20))] g) _ _ := hO
              refine lv_aload_n hx hb ddX12_comesBy_192 rfl (lv_at hl 4 rfl) ?_
              refine cg_get hC hO 0 (by decide) o0 rfl i_X12 52 (by decide) (List.mem_of_getElem? (i := 12) rfl) rfl ddX12_comesBy_193 ?_
              refine lv_iload hx hb ddX12_comesBy_196 (lv_at hl 1 rfl) ?_
              refine lv_iload_n hx hb ddX12_comesBy_198 rfl (lv_at hl 3 rfl) ?_
              refine zg_iast hC hO 11 (by decide) rfl (za_all _) (zi_all v_19_2779) (zi_in z_45_4203 (by decide)) ddX12_comesBy_199 (fun H locs c_199_4260 zc_199_4261 hO => ?_)
              have hO : cO D cy A s.heap s 22 ad (cup [(5, .inl (cy 2, 5, .inl c_191_4258)), (6, .inl (cy 0, 5, .inl c_111_4236)), (8, .inl (cy 0, 5, .inl c_172_4251)), (10, .inl (cy 0, 5, .inl c_183_4256)), (11, .inl (cy 0, 5, .inl c_199_4260)), (12, .inl (cy 0, 120, .inl c12)), (19, .inl (cy 0, 60, .inl c19)), (20, .inl (cy 0, 120, .inl c20))] g) _ _ := hO
              refine lv_aload_n hx hb ddX12_comesBy_200 rfl (lv_at hl 4 rfl) ?_
              refine cg_get hC hO 0 (by decide) o0 rfl i_X12 49 (by decide) (List.mem_of_getElem? (i := 13) rfl) rfl ddX12_comesBy_201 ?_
              refine lv_iconst (v := 4) hx hb ddX12_comesBy_204 (by decide) ?_
              refine lv_iload_n hx hb ddX12_comesBy_205 rfl (lv_at hl 5 rfl) ?_
              refine lv_imul hx hb ddX12_comesBy_206 ?_
              refine zg_top2 (P := fun v => zi 0 116 v) (E := fun v => v.toInt = 4 * (cx : Int32).toInt) (zi_mulk (zi_k (a := 4) (b := 4) (x := 4) rfl) p_cx (n := 4) (by decide) (by decide)) (fun v_206_4262 z_206_4263 q_206_4264 => ?_)
              refine lv_iload_n hx hb ddX12_comesBy_207 rfl (lv_at hl 6 rfl) ?_
              refine lv_iadd hx hb ddX12_comesBy_208 ?_
              refine zg_top2 (P := fun v => zi 0 119 v) (E := fun v => v.toInt = (v_206_4262 : Int32).toInt + (px : Int32).toInt) (zi_add z_206_4263 p_px (by decide)) (fun v_208_4265 z_208_4266 q_208_4267 => ?_)
              refine lv_iload hx hb ddX12_comesBy_209 (lv_at hl 1 rfl) ?_
              refine zg_iast hC hO 12 (by decide) rfl (za_all _) (zi_w (c := (-2147483648)) (d := 2147483647) z_45_4203 (by decide)) (zi_in z_208_4266 (by decide)) ddX12_comesBy_211 (fun H locs c_211_4268 zc_211_4269 hO => ?_)
              have hO : cO D cy A s.heap s 22 ad (cup [(5, .inl (cy 2, 5, .inl c_191_4258)), (6, .inl (cy 0, 5, .inl c_111_4236)), (8, .inl (cy 0, 5, .inl c_172_4251)), (10, .inl (cy 0, 5, .inl c_183_4256)), (11, .inl (cy 0, 5, .inl c_199_4260)), (12, .inl (cy 0, 120, .inl c_211_4268)), (19, .inl (cy 0, 60, .inl c19)), (20, .inl (cy 0, 120, .inl c20))] g) _ _ := hO
              refine lv_aload_n hx hb ddX12_comesBy_212 rfl (lv_at hl 4 rfl) ?_
              refine cg_get hC hO 0 (by decide) o0 rfl i_X12 48 (by decide) (List.mem_of_getElem? (i := 14) rfl) rfl ddX12_comesBy_213 ?_
              refine lv_iconst (v := 4) hx hb ddX12_comesBy_216 (by decide) ?_
              refine lv_iload_n hx hb ddX12_comesBy_217 rfl (lv_at hl 5 rfl) ?_
              refine lv_imul hx hb ddX12_comesBy_218 ?_
              refine zg_top2 (P := fun v => zi 0 116 v) (E := fun v => v.toInt = 4 * (cx : Int32).toInt) (zi_mulk (zi_k (a := 4) (b := 4) (x := 4) rfl) p_cx (n := 4) (by decide) (by decide)) (fun v_218_4270 z_218_4271 q_218_4272 => ?_)
              refine lv_iload_n hx hb ddX12_comesBy_219 rfl (lv_at hl 6 rfl) ?_
              refine lv_iadd hx hb ddX12_comesBy_220 ?_
              refine zg_top2 (P := fun v => zi 0 119 v) (E := fun v => v.toInt = (v_218_4270 : Int32).toInt + (px : Int32).toInt) (zi_add z_218_4271 p_px (by decide)) (fun v_220_4273 z_220_4274 q_220_4275 => ?_)
              refine lv_aload_n hx hb ddX12_comesBy_221 rfl (lv_at hl 4 rfl) ?_
              refine lv_aload_n hx hb ddX12_comesBy_222 rfl (lv_at hl 4 rfl) ?_
              refine cg_get hC hO 0 (by decide) o0 rfl i_X12 43 (by decide) (List.mem_of_getElem? (i := 15) rfl) rfl ddX12_comesBy_223 ?_
              refine lv_iload_n hx hb ddX12_comesBy_226 rfl (lv_at hl 5 rfl) ?_
              refine zg_iald hC hO 13 (by decide) a13 (za_all _) (zi_in p_cx (by decide)) ddX12_comesBy_227 (fun v_227_4276 z_227_4277 => ?_)
              refine lv_aload_n hx hb ddX12_comesBy_228 rfl (lv_at hl 4 rfl) ?_
              refine cg_get hC hO 0 (by decide) o0 rfl i_X12 20 (by decide) (List.mem_of_getElem? (i := 16) rfl) rfl ddX12_comesBy_229 ?_
              refine lv_iconst (v := 4) hx hb ddX12_comesBy_232 (by decide) ?_
              refine lv_aload_n hx hb ddX12_comesBy_233 rfl (lv_at hl 4 rfl) ?_
              refine cg_get hC hO 0 (by decide) o0 rfl i_X12 36 (by decide) (List.mem_of_getElem? (i := 3) rfl) rfl ddX12_comesBy_234 ?_
              refine lv_imul hx hb ddX12_comesBy_237 ?_
              refine zg_top2 (P := fun v => zi 0 4 v) (E := fun v => v.toInt = 4 * (x0_36 : Int32).toInt) (zi_mulk (zi_k (a := 4) (b := 4) (x := 4) rfl) b0_36 (n := 4) (by decide) (by decide)) (fun v_237_4278 z_237_4279 q_237_4280 => ?_)
              refine lv_iload_n hx hb ddX12_comesBy_238 rfl (lv_at hl 6 rfl) ?_
              refine lv_iadd hx hb ddX12_comesBy_239 ?_
              refine zg_top2 (P := fun v => zi 0 7 v) (E := fun v => v.toInt = (v_237_4278 : Int32).toInt + (px : Int32).toInt) (zi_add z_237_4279 p_px (by decide)) (fun v_239_4281 z_239_4282 q_239_4283 => ?_)
              refine zg_iald hC hO 14 (by decide) a14 (za_all _) (zi_in z_239_4282 (by decide)) ddX12_comesBy_240 (fun v_240_4284 z_240_4285 => ?_)
              refine lv_aload_n hx hb ddX12_comesBy_241 rfl (lv_at hl 4 rfl) ?_
              refine cg_get hC hO 0 (by decide) o0 rfl i_X12 50 (by decide) (List.mem_of_getElem? (i := 9) rfl) rfl ddX12_comesBy_242 ?_
              refine lv_iload hx hb ddX12_comesBy_245 (lv_at hl 1 rfl) ?_
              refine zg_iald hC hO 8 (by decide) rfl zc_172_4252 (zi_in z_45_4203 (by decide)) ddX12_comesBy_247 (fun v_247_4286 z_247_4287 => ?_)
              refine cg_Vi (As := [.int v_227_4276, .int v_240_4284, .int v_247_4286]) (rest := [.int v_220_4273, .ref (ad 20)]) (mc := 0) (ms := 0) (rm := { frames := 1, cells := 0, slots := 0, locals := 22 }) hC hl.1 hO [0, 16, 15, 17, 18, 19] (by decide +kernel) (k_X12_comes l D cy _ _ (u0_0 := u0_0) (u0_1 := u0_1) (u0_2 := u0_2) (u0_3 := u0_3) (u0_4 := u0_4) (u0_5 := u0_5) (u0_6 := u0_6) (u0_7 := u0_7) (u0_8 := u0_8) (u0_9 := u0_9) (u0_10 := u0_10) (u0_11 := u0_11) (u0_12 := u0_12) (u0_13 := u0_13) (u0_14 := u0_14) (u0_15 := u0_15) (u0_16 := .ref (ad 7)) (u0_17 := .ref (ad 21)) (u0_18 := u0_18) (u0_19 := .ref (ad 2)) (u0_20 := .ref (ad 14)) (u0_21 := u0_21) (u0_22 := u0_22) (u0_23 := u0_23) (u0_24 := u0_24) (c2 := c15) (u0_26 := u0_26) (c1 := c16) (u0_28 := u0_28) (u0_29 := u0_29) (u0_30 := u0_30) (c3 := c17) (c4 := c18) (u0_33 := u0_33) (u0_34 := u0_34) (c5 := c19) (x0_36 := x0_36) (u0_37 := u0_37) (u0_38 := u0_38) (u0_39 := u0_39) (u0_40 := u0_40) (u0_41 := u0_41) (u0_42 := .ref (ad 1)) (u0_43 := .ref (ad 13)) (u0_44 := .ref (ad 9)) (u0_45 := .ref (ad 3)) (u0_46 := .ref (ad 4)) (u0_47 := u0_47) (u0_48 := .ref (ad 20)) (u0_49 := .ref (ad 12)) (u0_50 := .ref (ad 8)) (u0_51 := .ref (ad 6)) (u0_52 := .ref (ad 11)) (u0_53 := .ref (ad 10)) (u0_54 := u0_54) (u0_55 := .ref (ad 5)) (u0_56 := u0_56) (u0_57 := u0_57) (u0_58 := u0_58) (u0_59 := u0_59) (u0_60 := u0_60) (u0_61 := u0_61) (u0_62 := u0_62) (u0_63 := u0_63) (u0_64 := u0_64) (u0_65 := u0_65) (u0_66 := u0_66) (u0_67 := u0_67) (u0_68 := u0_68) (u0_69 := u0_69) (u0_70 := u0_70) (u0_71 := u0_71) (u0_72 := u0_72) (u0_73 := u0_73) (sacks := v_227_4276) (its := v_240_4284) (nth := v_247_4286) o0 a16 a15 a17 a18 rfl b0_36 ha16 ha15 hF) gq_k_X12_comesBy_k_X12_comes_394 rfl rfl rfl 3 (by decide +kernel) ⟨Nat.le_of_ble_eq_true rfl, Nat.le_of_ble_eq_true rfl⟩ rfl (by decide) o0 rfl rfl (Nat.le_of_ble_eq_true rfl) ddX12_comesBy_248 ⟨Nat.le_of_ble_eq_true rfl, Nat.le_of_ble_eq_true rfl⟩ (fun r_248_4290 nw_248_4288 l_248_4289 H locs hw hO => ?_)
              obtain ⟨d5_248_4291, rfl⟩ := hw
              have hO := hO.mrg (lk := [(19, .inl (cy 0, 60, .inl d5_248_4291))]) (lm := [(5, .inl (cy 2, 5, .inl c_191_4258)), (6, .inl (cy 0, 5, .inl c_111_4236)), (8, .inl (cy 0, 5, .inl c_172_4251)), (10, .inl (cy 0, 5, .inl c_183_4256)), (11, .inl (cy 0, 5, .inl c_199_4260)), (12, .inl (cy 0, 120, .inl c_211_4268)), (19, .inl (cy 0, 60, .inl d5_248_4291)), (20, .inl (cy 0, 120, .inl c20))]) rfl rfl rfl
              refine zg_iast hC hO 20 (by decide) rfl (za_all _) (zi_all r_248_4290) (zi_in z_220_4274 (by decide)) ddX12_comesBy_251 (fun H locs c_251_4292 zc_251_4293 hO => ?_)
              have hO : cO D cy A s.heap s 22 ad (cup [(5, .inl (cy 2, 5, .inl c_191_4258)), (6, .inl (cy 0, 5, .inl c_111_4236)), (8, .inl (cy 0, 5, .inl c_172_4251)), (10, .inl (cy 0, 5, .inl c_183_4256)), (11, .inl (cy 0, 5, .inl c_199_4260)), (12, .inl (cy 0, 120, .inl c_211_4268)), (19, .inl (cy 0, 60, .inl d5_248_4291)), (20, .inl (cy 0, 120, .inl c_251_4292))] g) _ _ := hO
              exact cg_vret (nw := fun _ => 0) hC hr hlk hO.same (Nat.le_of_ble_eq_true rfl) (Nat.le_of_ble_eq_true rfl) (⟨c_191_4258, c_111_4236, c_172_4251, c_183_4256, c_199_4260, c_211_4268, d5_248_4291, c_251_4292, zc_191_4259, rfl⟩) ddX12_comesBy_252
            · have q_156_4294 := zr_eq h_156_4247
              refine lv_goto (tgt := 253) hx hb ddX12_comesBy_159 (by decide) ?_
              obtain ⟨v_253_4295, e_253_4296, z_253_4297, q_253_4298⟩ := zi_inc (e := 1) (f := 5) 1 z_32_4194 (by decide)
              refine lv_iinc (v := v_253_4295) (lv' := [(4, .int v_253_4295), (6, .int v_56_4207), (5, .int v_45_4202), (3, .int v_19_2779), (0, .ref (ad 0)), (1, .int cx), (2, .int px)]) hx hb ddX12_comesBy_253 hl (k := 2) rfl e_253_4296 (by decide) rfl (fun ls hl => ?_)
              refine lv_goto (tgt := 24) hx hb ddX12_comesBy_256 (by decide) ?_
              exact ih_24_4188 v_253_4295 c_104_4231 c_111_4236 c_104_4233 (zi_w (c := 0) (d := 5) z_253_4297 (by decide)) zc_104_4232 zc_111_4237 zc_104_4234 (zm_up q_253_4298 ((zi_w (c := 0) (d := 5) z_253_4297 (by decide))).2 (by decide) mu_24_4187) _ _ hO ls (lv_sub hl [0, 3, 4, 5, 6] rfl)
          · have q_119_4299 := zr_ne h_119_4240
            have z_119_4300 : zi 1 1 v_118_4238 := zn_lo q_119_4299 z_118_4239 (zi_k (a := 0) (b := 0) (x := 0) rfl) (by decide)
            refine lv_iload_n hx hb ddX12_comesBy_122 rfl (lv_at hl 3 rfl) ?_
            refine lv_aload_n hx hb ddX12_comesBy_123 rfl (lv_at hl 4 rfl) ?_
            refine cg_get hC hO 0 (by decide) o0 rfl i_X12 52 (by decide) (List.mem_of_getElem? (i := 12) rfl) rfl ddX12_comesBy_124 ?_
            refine lv_iload hx hb ddX12_comesBy_127 (lv_at hl 1 rfl) ?_
            refine zg_iald hC hO 11 (by decide) rfl (za_all _) (zi_in z_45_4203 (by decide)) ddX12_comesBy_129 (fun v_129_4301 z_129_4302 => ?_)
            refine lv_isub hx hb ddX12_comesBy_130 ?_
            refine lv_topi (fun v_130_4303 _ => ?_)
            refine lv_aload_n hx hb ddX12_comesBy_131 rfl (lv_at hl 4 rfl) ?_
            refine cg_get hC hO 0 (by decide) o0 rfl i_X12 17 (by decide) (List.mem_of_getElem? (i := 33) rfl) rfl ddX12_comesBy_132 ?_
            refine lv_iload hx hb ddX12_comesBy_135 (lv_at hl 0 rfl) ?_
            refine zg_iald hC hO 21 (by decide) a21 (za_all _) (zi_in z_56_4208 (by decide)) ddX12_comesBy_137 (fun v_137_4304 z_137_4305 => ?_)
            refine lv_icmp_gt (tgt := 142) hx hb ddX12_comesBy_138 (by decide) (fun h_138_4306 => ?_) (fun h_138_4306 => ?_)
            · have q_138_4307 := zr_lt h_138_4306
              have z_138_4308 : zi (-2147483648) 2147483646 v_137_4304 := zu_lt q_138_4307 z_137_4305 (zi_all v_130_4303) (by decide)
              have z_138_4309 : zi (-2147483647) 2147483647 v_130_4303 := zd_lt q_138_4307 z_137_4305 (zi_all v_130_4303) (by decide)
              refine lv_aload_n hx hb ddX12_comesBy_142 rfl (lv_at hl 4 rfl) ?_
              refine cg_get hC hO 0 (by decide) o0 rfl i_X12 50 (by decide) (List.mem_of_getElem? (i := 9) rfl) rfl ddX12_comesBy_143 ?_
              refine lv_iload hx hb ddX12_comesBy_146 (lv_at hl 1 rfl) ?_
              refine zg_iald hC hO 8 (by decide) rfl zc_104_4234 (zi_in z_45_4203 (by decide)) ddX12_comesBy_148 (fun v_148_4310 z_148_4311 => ?_)
              refine lv_aload_n hx hb ddX12_comesBy_149 rfl (lv_at hl 4 rfl) ?_
              refine cg_get hC hO 0 (by decide) o0 rfl i_X12 44 (by decide) (List.mem_of_getElem? (i := 10) rfl) rfl ddX12_comesBy_150 ?_
              refine lv_iload hx hb ddX12_comesBy_153 (lv_at hl 1 rfl) ?_
              refine zg_iald hC hO 9 (by decide) a9 (za_all _) (zi_in z_45_4203 (by decide)) ddX12_comesBy_155 (fun v_155_4312 z_155_4313 => ?_)
              refine lv_icmp_ne (tgt := 162) hx hb ddX12_comesBy_156 (by decide) (fun h_156_4314 => ?_) (fun h_156_4314 => ?_)
              · refine lv_aload_n hx hb ddX12_comesBy_162 rfl (lv_at hl 4 rfl) ?_
                refine cg_get hC hO 0 (by decide) o0 rfl i_X12 50 (by decide) (List.mem_of_getElem? (i := 9) rfl) rfl ddX12_comesBy_163 ?_
                refine lv_iload hx hb ddX12_comesBy_166 (lv_at hl 1 rfl) ?_
                refine lv_dup2_11 hx hb ddX12_comesBy_168 rfl rfl ?_
                refine zg_iald hC hO 8 (by decide) rfl zc_104_4234 (zi_in z_45_4203 (by decide)) ddX12_comesBy_169 (fun v_169_4315 z_169_4316 => ?_)
                refine lv_iconst (v := 1) hx hb ddX12_comesBy_170 (by decide) ?_
                refine lv_iadd hx hb ddX12_comesBy_171 ?_
                refine lv_topi (fun v_171_4317 _ => ?_)
                refine zg_iast hC hO 8 (by decide) rfl zc_104_4234 (zi_all v_171_4317) (zi_in z_45_4203 (by decide)) ddX12_comesBy_172 (fun H locs c_172_4318 zc_172_4319 hO => ?_)
                have hO : cO D cy A s.heap s 22 ad (cup [(5, .inl (cy 2, 5, .inl c_104_4231)), (6, .inl (cy 0, 5, .inl c_111_4236)), (8, .inl (cy 0, 5, .inl c_172_4318)), (10, .inl (cy 0, 5, .inl c10)), (11, .inl (cy 0, 5, .inl c11)), (12, .inl (cy 0, 120, .inl c12)), (19, .inl (cy 0, 60, .inl c19)), (20, .inl (cy 0, 120, .inl c20))] g) _ _ := hO
                refine lv_aload_n hx hb ddX12_comesBy_173 rfl (lv_at hl 4 rfl) ?_
                refine cg_get hC hO 0 (by decide) o0 rfl i_X12 53 (by decide) (List.mem_of_getElem? (i := 11) rfl) rfl ddX12_comesBy_174 ?_
                refine lv_iload hx hb ddX12_comesBy_177 (lv_at hl 1 rfl) ?_
                refine lv_dup2_11 hx hb ddX12_comesBy_179 rfl rfl ?_
                refine zg_iald hC hO 10 (by decide) rfl (za_all _) (zi_in z_45_4203 (by decide)) ddX12_comesBy_180 (fun v_180_4320 z_180_4321 => ?_)
                refine lv_iconst (v := 1) hx hb ddX12_comesBy_181 (by decide) ?_
                refine lv_iadd hx hb ddX12_comesBy_182 ?_
                refine lv_topi (fun v_182_4322 _ => ?_)
                refine zg_iast hC hO 10 (by decide) rfl (za_all _) (zi_all v_182_4322) (zi_in z_45_4203 (by decide)) ddX12_comesBy_183 (fun H locs c_183_4323 zc_183_4324 hO => ?_)
                have hO : cO D cy A s.heap s 22 ad (cup [(5, .inl (cy 2, 5, .inl c_104_4231)), (6, .inl (cy 0, 5, .inl c_111_4236)), (8, .inl (cy 0, 5, .inl c_172_4318)), (10, .inl (cy 0, 5, .inl c_183_4323)), (11, .inl (cy 0, 5, .inl c11)), (12, .inl (cy 0, 120, .inl c12)), (19, .inl (cy 0, 60, .inl c19)), (20, .inl (cy 0, 120, .inl c20))] g) _ _ := hO
                refine lv_aload_n hx hb ddX12_comesBy_184 rfl (lv_at hl 4 rfl) ?_
                refine cg_get hC hO 0 (by decide) o0 rfl i_X12 55 (by decide) (List.mem_of_getElem? (i := 6) rfl) rfl ddX12_comesBy_185 ?_
                refine lv_iload hx hb ddX12_comesBy_188 (lv_at hl 1 rfl) ?_
                refine lv_iconst (v := 1) hx hb ddX12_comesBy_190 (by decide) ?_
                refine zg_zast hC hO 5 (by decide) rfl zc_104_4232 (zi_k (a := 0) (b := 1) (x := 1) rfl) (zi_in z_45_4203 (by decide)) ddX12_comesBy_191 (fun H locs c_191_4325 zc_191_4326 hO => ?_)
                have hO : cO D cy A s.heap s 22 ad (cup [(5, .inl (cy 2, 5, .inl c_191_4325)), (6, .inl (cy 0, 5, .inl c_111_4236)), (8, .inl (cy 0, 5, .inl c_172_4318)), (10, .inl (cy 0, 5, .inl c_183_4323)), (11, .inl (cy 0, 5, .inl c11)), (12, .inl (cy 0, 120, .inl c12)), (19, .inl (cy 0, 60, .inl c19)), (20, .inl (cy 0, 120, .inl c20))] g) _ _ := hO
                refine lv_aload_n hx hb ddX12_comesBy_192 rfl (lv_at hl 4 rfl) ?_
                refine cg_get hC hO 0 (by decide) o0 rfl i_X12 52 (by decide) (List.mem_of_getElem? (i := 12) rfl) rfl ddX12_comesBy_193 ?_
                refine lv_iload hx hb ddX12_comesBy_196 (lv_at hl 1 rfl) ?_
                refine lv_iload_n hx hb ddX12_comesBy_198 rfl (lv_at hl 3 rfl) ?_
                refine zg_iast hC hO 11 (by decide) rfl (za_all _) (zi_all v_19_2779) (zi_in z_45_4203 (by decide)) ddX12_comesBy_199 (fun H locs c_199_4327 zc_199_4328 hO => ?_)
                have hO : cO D cy A s.heap s 22 ad (cup [(5, .inl (cy 2, 5, .inl c_191_4325)), (6, .inl (cy 0, 5, .inl c_111_4236)), (8, .inl (cy 0, 5, .inl c_172_4318)), (10, .inl (cy 0, 5, .inl c_183_4323)), (11, .inl (cy 0, 5, .inl c_199_4327)), (12, .inl (cy 0, 120, .inl c12)), (19, .inl (cy 0, 60, .inl c19)), (20, .inl (cy 0, 120, .inl c20))] g) _ _ := hO
                refine lv_aload_n hx hb ddX12_comesBy_200 rfl (lv_at hl 4 rfl) ?_
                refine cg_get hC hO 0 (by decide) o0 rfl i_X12 49 (by decide) (List.mem_of_getElem? (i := 13) rfl) rfl ddX12_comesBy_201 ?_
                refine lv_iconst (v := 4) hx hb ddX12_comesBy_204 (by decide) ?_
                refine lv_iload_n hx hb ddX12_comesBy_205 rfl (lv_at hl 5 rfl) ?_
                refine lv_imul hx hb ddX12_comesBy_206 ?_
                refine zg_top2 (P := fun v => zi 0 116 v) (E := fun v => v.toInt = 4 * (cx : Int32).toInt) (zi_mulk (zi_k (a := 4) (b := 4) (x := 4) rfl) p_cx (n := 4) (by decide) (by decide)) (fun v_206_4329 z_206_4330 q_206_4331 => ?_)
                refine lv_iload_n hx hb ddX12_comesBy_207 rfl (lv_at hl 6 rfl) ?_
                refine lv_iadd hx hb ddX12_comesBy_208 ?_
                refine zg_top2 (P := fun v => zi 0 119 v) (E := fun v => v.toInt = (v_206_4329 : Int32).toInt + (px : Int32).toInt) (zi_add z_206_4330 p_px (by decide)) (fun v_208_4332 z_208_4333 q_208_4334 => ?_)
                refine lv_iload hx hb ddX12_comesBy_209 (lv_at hl 1 rfl) ?_
                refine zg_iast hC hO 12 (by decide) rfl (za_all _) (zi_w (c := (-2147483648)) (d := 2147483647) z_45_4203 (by decide)) (zi_in z_208_4333 (by decide)) ddX12_comesBy_211 (fun H locs c_211_4335 zc_211_4336 hO => ?_)
                have hO : cO D cy A s.heap s 22 ad (cup [(5, .inl (cy 2, 5, .inl c_191_4325)), (6, .inl (cy 0, 5, .inl c_111_4236)), (8, .inl (cy 0, 5, .inl c_172_4318)), (10, .inl (cy 0, 5, .inl c_183_4323)), (11, .inl (cy 0, 5, .inl c_199_4327)), (12, .inl (cy 0, 120, .inl c_211_4335)), (19, .inl (cy 0, 60, .inl c19)), (20, .inl (cy 0, 120, .inl c20))] g) _ _ := hO
                refine lv_aload_n hx hb ddX12_comesBy_212 rfl (lv_at hl 4 rfl) ?_
                refine cg_get hC hO 0 (by decide) o0 rfl i_X12 48 (by decide) (List.mem_of_getElem? (i := 14) rfl) rfl ddX12_comesBy_213 ?_
                refine lv_iconst (v := 4) hx hb ddX12_comesBy_216 (by decide) ?_
                refine lv_iload_n hx hb ddX12_comesBy_217 rfl (lv_at hl 5 rfl) ?_
                refine lv_imul hx hb ddX12_comesBy_218 ?_
                refine zg_top2 (P := fun v => zi 0 116 v) (E := fun v => v.toInt = 4 * (cx : Int32).toInt) (zi_mulk (zi_k (a := 4) (b := 4) (x := 4) rfl) p_cx (n := 4) (by decide) (by decide)) (fun v_218_4337 z_218_4338 q_218_4339 => ?_)
                refine lv_iload_n hx hb ddX12_comesBy_219 rfl (lv_at hl 6 rfl) ?_
                refine lv_iadd hx hb ddX12_comesBy_220 ?_
                refine zg_top2 (P := fun v => zi 0 119 v) (E := fun v => v.toInt = (v_218_4337 : Int32).toInt + (px : Int32).toInt) (zi_add z_218_4338 p_px (by decide)) (fun v_220_4340 z_220_4341 q_220_4342 => ?_)
                refine lv_aload_n hx hb ddX12_comesBy_221 rfl (lv_at hl 4 rfl) ?_
                refine lv_aload_n hx hb ddX12_comesBy_222 rfl (lv_at hl 4 rfl) ?_
                refine cg_get hC hO 0 (by decide) o0 rfl i_X12 43 (by decide) (List.mem_of_getElem? (i := 15) rfl) rfl ddX12_comesBy_223 ?_
                refine lv_iload_n hx hb ddX12_comesBy_226 rfl (lv_at hl 5 rfl) ?_
                refine zg_iald hC hO 13 (by decide) a13 (za_all _) (zi_in p_cx (by decide)) ddX12_comesBy_227 (fun v_227_4343 z_227_4344 => ?_)
                refine lv_aload_n hx hb ddX12_comesBy_228 rfl (lv_at hl 4 rfl) ?_
                refine cg_get hC hO 0 (by decide) o0 rfl i_X12 20 (by decide) (List.mem_of_getElem? (i := 16) rfl) rfl ddX12_comesBy_229 ?_
                refine lv_iconst (v := 4) hx hb ddX12_comesBy_232 (by decide) ?_
                refine lv_aload_n hx hb ddX12_comesBy_233 rfl (lv_at hl 4 rfl) ?_
                refine cg_get hC hO 0 (by decide) o0 rfl i_X12 36 (by decide) (List.mem_of_getElem? (i := 3) rfl) rfl ddX12_comesBy_234 ?_
                refine lv_imul hx hb ddX12_comesBy_237 ?_
                refine zg_top2 (P := fun v => zi 0 4 v) (E := fun v => v.toInt = 4 * (x0_36 : Int32).toInt) (zi_mulk (zi_k (a := 4) (b := 4) (x := 4) rfl) b0_36 (n := 4) (by decide) (by decide)) (fun v_237_4345 z_237_4346 q_237_4347 => ?_)
                refine lv_iload_n hx hb ddX12_comesBy_238 rfl (lv_at hl 6 rfl) ?_
                refine lv_iadd hx hb ddX12_comesBy_239 ?_
                refine zg_top2 (P := fun v => zi 0 7 v) (E := fun v => v.toInt = (v_237_4345 : Int32).toInt + (px : Int32).toInt) (zi_add z_237_4346 p_px (by decide)) (fun v_239_4348 z_239_4349 q_239_4350 => ?_)
                refine zg_iald hC hO 14 (by decide) a14 (za_all _) (zi_in z_239_4349 (by decide)) ddX12_comesBy_240 (fun v_240_4351 z_240_4352 => ?_)
                refine lv_aload_n hx hb ddX12_comesBy_241 rfl (lv_at hl 4 rfl) ?_
                refine cg_get hC hO 0 (by decide) o0 rfl i_X12 50 (by decide) (List.mem_of_getElem? (i := 9) rfl) rfl ddX12_comesBy_242 ?_
                refine lv_iload hx hb ddX12_comesBy_245 (lv_at hl 1 rfl) ?_
                refine zg_iald hC hO 8 (by decide) rfl zc_172_4319 (zi_in z_45_4203 (by decide)) ddX12_comesBy_247 (fun v_247_4353 z_247_4354 => ?_)
                refine cg_Vi (As := [.int v_227_4343, .int v_240_4351, .int v_247_4353]) (rest := [.int v_220_4340, .ref (ad 20)]) (mc := 0) (ms := 0) (rm := { frames := 1, cells := 0, slots := 0, locals := 22 }) hC hl.1 hO [0, 16, 15, 17, 18, 19] (by decide +kernel) (k_X12_comes l D cy _ _ (u0_0 := u0_0) (u0_1 := u0_1) (u0_2 := u0_2) (u0_3 := u0_3) (u0_4 := u0_4) (u0_5 := u0_5) (u0_6 := u0_6) (u0_7 := u0_7) (u0_8 := u0_8) (u0_9 := u0_9) (u0_10 := u0_10) (u0_11 := u0_11) (u0_12 := u0_12) (u0_13 := u0_13) (u0_14 := u0_14) (u0_15 := u0_15) (u0_16 := .ref (ad 7)) (u0_17 := .ref (ad 21)) (u0_18 := u0_18) (u0_19 := .ref (ad 2)) (u0_20 := .ref (ad 14)) (u0_21 := u0_21) (u0_22 := u0_22) (u0_23 := u0_23) (u0_24 := u0_24) (c2 := c15) (u0_26 := u0_26) (c1 := c16) (u0_28 := u0_28) (u0_29 := u0_29) (u0_30 := u0_30) (c3 := c17) (c4 := c18) (u0_33 := u0_33) (u0_34 := u0_34) (c5 := c19) (x0_36 := x0_36) (u0_37 := u0_37) (u0_38 := u0_38) (u0_39 := u0_39) (u0_40 := u0_40) (u0_41 := u0_41) (u0_42 := .ref (ad 1)) (u0_43 := .ref (ad 13)) (u0_44 := .ref (ad 9)) (u0_45 := .ref (ad 3)) (u0_46 := .ref (ad 4)) (u0_47 := u0_47) (u0_48 := .ref (ad 20)) (u0_49 := .ref (ad 12)) (u0_50 := .ref (ad 8)) (u0_51 := .ref (ad 6)) (u0_52 := .ref (ad 11)) (u0_53 := .ref (ad 10)) (u0_54 := u0_54) (u0_55 := .ref (ad 5)) (u0_56 := u0_56) (u0_57 := u0_57) (u0_58 := u0_58) (u0_59 := u0_59) (u0_60 := u0_60) (u0_61 := u0_61) (u0_62 := u0_62) (u0_63 := u0_63) (u0_64 := u0_64) (u0_65 := u0_65) (u0_66 := u0_66) (u0_67 := u0_67) (u0_68 := u0_68) (u0_69 := u0_69) (u0_70 := u0_70) (u0_71 := u0_71) (u0_72 := u0_72) (u0_73 := u0_73) (sacks := v_227_4343) (its := v_240_4351) (nth := v_247_4353) o0 a16 a15 a17 a18 rfl b0_36 ha16 ha15 hF) gq_k_X12_comesBy_k_X12_comes_394 rfl rfl rfl 3 (by decide +kernel) ⟨Nat.le_of_ble_eq_true rfl, Nat.le_of_ble_eq_true rfl⟩ rfl (by decide) o0 rfl rfl (Nat.le_of_ble_eq_true rfl) ddX12_comesBy_248 ⟨Nat.le_of_ble_eq_true rfl, Nat.le_of_ble_eq_true rfl⟩ (fun r_248_4357 nw_248_4355 l_248_4356 H locs hw hO => ?_)
                obtain ⟨d5_248_4358, rfl⟩ := hw
                have hO := hO.mrg (lk := [(19, .inl (cy 0, 60, .inl d5_248_4358))]) (lm := [(5, .inl (cy 2, 5, .inl c_191_4325)), (6, .inl (cy 0, 5, .inl c_111_4236)), (8, .inl (cy 0, 5, .inl c_172_4318)), (10, .inl (cy 0, 5, .inl c_183_4323)), (11, .inl (cy 0, 5, .inl c_199_4327)), (12, .inl (cy 0, 120, .inl c_211_4335)), (19, .inl (cy 0, 60, .inl d5_248_4358)), (20, .inl (cy 0, 120, .inl c20))]) rfl rfl rfl
                refine zg_iast hC hO 20 (by decide) rfl (za_all _) (zi_all r_248_4357) (zi_in z_220_4341 (by decide)) ddX12_comesBy_251 (fun H locs c_251_4359 zc_251_4360 hO => ?_)
                have hO : cO D cy A s.heap s 22 ad (cup [(5, .inl (cy 2, 5, .inl c_191_4325)), (6, .inl (cy 0, 5, .inl c_111_4236)), (8, .inl (cy 0, 5, .inl c_172_4318)), (10, .inl (cy 0, 5, .inl c_183_4323)), (11, .inl (cy 0, 5, .inl c_199_4327)), (12, .inl (cy 0, 120, .inl c_211_4335)), (19, .inl (cy 0, 60, .inl d5_248_4358)), (20, .inl (cy 0, 120, .inl c_251_4359))] g) _ _ := hO
                exact cg_vret (nw := fun _ => 0) hC hr hlk hO.same (Nat.le_of_ble_eq_true rfl) (Nat.le_of_ble_eq_true rfl) (⟨c_191_4325, c_111_4236, c_172_4318, c_183_4323, c_199_4327, c_211_4335, d5_248_4358, c_251_4359, zc_191_4326, rfl⟩) ddX12_comesBy_252
              · have q_156_4361 := zr_eq h_156_4314
                refine lv_goto (tgt := 253) hx hb ddX12_comesBy_159 (by decide) ?_
                obtain ⟨v_253_4362, e_253_4363, z_253_4364, q_253_4365⟩ := zi_inc (e := 1) (f := 5) 1 z_32_4194 (by decide)
                refine lv_iinc (v := v_253_4362) (lv' := [(4, .int v_253_4362), (6, .int v_56_4207), (5, .int v_45_4202), (3, .int v_19_2779), (0, .ref (ad 0)), (1, .int cx), (2, .int px)]) hx hb ddX12_comesBy_253 hl (k := 2) rfl e_253_4363 (by decide) rfl (fun ls hl => ?_)
                refine lv_goto (tgt := 24) hx hb ddX12_comesBy_256 (by decide) ?_
                exact ih_24_4188 v_253_4362 c_104_4231 c_111_4236 c_104_4233 (zi_w (c := 0) (d := 5) z_253_4364 (by decide)) zc_104_4232 zc_111_4237 zc_104_4234 (zm_up q_253_4365 ((zi_w (c := 0) (d := 5) z_253_4364 (by decide))).2 (by decide) mu_24_4187) _ _ hO ls (lv_sub hl [0, 3, 4, 5, 6] rfl)
            · have q_138_4366 := zr_nlt h_138_4306
              exact cg_vret (nw := fun _ => 0) hC hr hlk hO.same (Nat.le_of_ble_eq_true rfl) (Nat.le_of_ble_eq_true rfl) (⟨c_104_4231, c_111_4236, c_104_4233, c10, c11, c12, c19, c20, zc_104_4232, rfl⟩) ddX12_comesBy_141
        refine lv_if_eq (tgt := 104) hx hb ddX12_comesBy_66 (by decide) (fun h_66_4212 => ?_) (fun h_66_4212 => ?_)
        · have q_66_4367 := zr_eq h_66_4212
          have z_66_4368 : zi 0 0 v_65_4210 := ze_eq q_66_4367 z_65_4211 (zi_k (a := 0) (b := 0) (x := 0) rfl)
          exact J_104_4235 c_24_3984 c_24_3988 zc_24_3985 zc_24_3989 _ _ hO ls (lv_sub hl [0, 1, 2, 3, 4, 5, 6] rfl)
        · have q_66_4369 := zr_ne h_66_4212
          have z_66_4370 : zi 1 1 v_65_4210 := zn_lo q_66_4369 z_65_4211 (zi_k (a := 0) (b := 0) (x := 0) rfl) (by decide)
          refine lv_iload_n hx hb ddX12_comesBy_69 rfl (lv_at hl 3 rfl) ?_
          refine lv_aload_n hx hb ddX12_comesBy_70 rfl (lv_at hl 4 rfl) ?_
          refine cg_get hC hO 0 (by decide) o0 rfl i_X12 51 (by decide) (List.mem_of_getElem? (i := 7) rfl) rfl ddX12_comesBy_71 ?_
          refine lv_iload hx hb ddX12_comesBy_74 (lv_at hl 1 rfl) ?_
          refine zg_iald hC hO 6 (by decide) rfl zc_24_3987 (zi_in z_45_4203 (by decide)) ddX12_comesBy_76 (fun v_76_4371 z_76_4372 => ?_)
          refine lv_isub hx hb ddX12_comesBy_77 ?_
          refine lv_topi (fun v_77_4373 _ => ?_)
          refine lv_aload_n hx hb ddX12_comesBy_78 rfl (lv_at hl 4 rfl) ?_
          refine cg_get hC hO 0 (by decide) o0 rfl i_X12 16 (by decide) (List.mem_of_getElem? (i := 8) rfl) rfl ddX12_comesBy_79 ?_
          refine lv_iload hx hb ddX12_comesBy_82 (lv_at hl 0 rfl) ?_
          refine zg_iald hC hO 7 (by decide) a7 (za_all _) (zi_in z_56_4208 (by decide)) ddX12_comesBy_84 (fun v_84_4374 z_84_4375 => ?_)
          refine lv_icmp_le (tgt := 104) hx hb ddX12_comesBy_85 (by decide) (fun h_85_4376 => ?_) (fun h_85_4376 => ?_)
          · have q_85_4377 := zr_le h_85_4376
            exact J_104_4235 c_24_3984 c_24_3988 zc_24_3985 zc_24_3989 _ _ hO ls (lv_sub hl [0, 1, 2, 3, 4, 5, 6] rfl)
          · have q_85_4378 := zr_nle h_85_4376
            have z_85_4379 : zi (-2147483648) 2147483646 v_84_4374 := zu_lt q_85_4378 z_84_4375 (zi_all v_77_4373) (by decide)
            have z_85_4380 : zi (-2147483647) 2147483647 v_77_4373 := zd_lt q_85_4378 z_84_4375 (zi_all v_77_4373) (by decide)
            refine lv_aload_n hx hb ddX12_comesBy_88 rfl (lv_at hl 4 rfl) ?_
            refine cg_get hC hO 0 (by decide) o0 rfl i_X12 50 (by decide) (List.mem_of_getElem? (i := 9) rfl) rfl ddX12_comesBy_89 ?_
            refine lv_iload hx hb ddX12_comesBy_92 (lv_at hl 1 rfl) ?_
            refine lv_iconst (v := 0) hx hb ddX12_comesBy_94 (by decide) ?_
            refine zg_iast hC hO 8 (by decide) rfl zc_24_3989 (zi_k (a := (-2147483648)) (b := 2147483647) (x := 0) rfl) (zi_in z_45_4203 (by decide)) ddX12_comesBy_95 (fun H locs c_95_4381 zc_95_4382 hO => ?_)
            have hO : cO D cy A s.heap s 22 ad (cup [(5, .inl (cy 2, 5, .inl c_24_3984)), (6, .inl (cy 0, 5, .inl c_24_3986)), (8, .inl (cy 0, 5, .inl c_95_4381)), (10, .inl (cy 0, 5, .inl c10)), (11, .inl (cy 0, 5, .inl c11)), (12, .inl (cy 0, 120, .inl c12)), (19, .inl (cy 0, 60, .inl c19)), (20, .inl (cy 0, 120, .inl c20))] g) _ _ := hO
            refine lv_aload_n hx hb ddX12_comesBy_96 rfl (lv_at hl 4 rfl) ?_
            refine cg_get hC hO 0 (by decide) o0 rfl i_X12 55 (by decide) (List.mem_of_getElem? (i := 6) rfl) rfl ddX12_comesBy_97 ?_
            refine lv_iload hx hb ddX12_comesBy_100 (lv_at hl 1 rfl) ?_
            refine lv_iconst (v := 0) hx hb ddX12_comesBy_102 (by decide) ?_
            refine zg_zast hC hO 5 (by decide) rfl zc_24_3985 (zi_k (a := 0) (b := 1) (x := 0) rfl) (zi_in z_45_4203 (by decide)) ddX12_comesBy_103 (fun H locs c_103_4383 zc_103_4384 hO => ?_)
            have hO : cO D cy A s.heap s 22 ad (cup [(5, .inl (cy 2, 5, .inl c_103_4383)), (6, .inl (cy 0, 5, .inl c_24_3986)), (8, .inl (cy 0, 5, .inl c_95_4381)), (10, .inl (cy 0, 5, .inl c10)), (11, .inl (cy 0, 5, .inl c11)), (12, .inl (cy 0, 120, .inl c12)), (19, .inl (cy 0, 60, .inl c19)), (20, .inl (cy 0, 120, .inl c20))] g) _ _ := hO
            exact J_104_4235 c_103_4383 c_95_4381 zc_103_4384 zc_95_4382 _ _ hO ls (lv_sub hl [0, 1, 2, 3, 4, 5, 6] rfl)
  exact loop_24_4185 ((5 + 1 - (0 : Int32).toInt).toNat + 1) 0 c5 c6 c8 (zi_k (a := 0) (b := 5) (x := 0) rfl) ha5 (za_all _) (za_all _) (Nat.lt_succ_self _) _ _ hO ls (lv_sub hl [0, 1, 2, 3, 4] rfl)

theorem ddX12_goesBy_0 : decode cX12_goesBy 0 = .ok (.aload_n 0, 1) := by decide +kernel
theorem ddX12_goesBy_1 : decode cX12_goesBy 1 = .ok (.invokevirtual 388, 3) := by decide +kernel
theorem ddX12_goesBy_4 : decode cX12_goesBy 4 = .ok (.istore_n 1, 1) := by decide +kernel
theorem ddX12_goesBy_5 : decode cX12_goesBy 5 = .ok (.iconst 0, 1) := by decide +kernel
theorem ddX12_goesBy_6 : decode cX12_goesBy 6 = .ok (.istore_n 2, 1) := by decide +kernel
theorem ddX12_goesBy_7 : decode cX12_goesBy 7 = .ok (.iload_n 2, 1) := by decide +kernel
theorem ddX12_goesBy_8 : decode cX12_goesBy 8 = .ok (.iconst 5, 1) := by decide +kernel
theorem ddX12_goesBy_9 : decode cX12_goesBy 9 = .ok (.if_icmp .ge 30, 3) := by decide +kernel
theorem ddX12_goesBy_12 : decode cX12_goesBy 12 = .ok (.aload_n 0, 1) := by decide +kernel
theorem ddX12_goesBy_13 : decode cX12_goesBy 13 = .ok (.getfield 125, 3) := by decide +kernel
theorem ddX12_goesBy_16 : decode cX12_goesBy 16 = .ok (.iload_n 2, 1) := by decide +kernel
theorem ddX12_goesBy_17 : decode cX12_goesBy 17 = .ok (.iconst 0, 1) := by decide +kernel
theorem ddX12_goesBy_18 : decode cX12_goesBy 18 = .ok (.iastore, 1) := by decide +kernel
theorem ddX12_goesBy_19 : decode cX12_goesBy 19 = .ok (.aload_n 0, 1) := by decide +kernel
theorem ddX12_goesBy_20 : decode cX12_goesBy 20 = .ok (.getfield 134, 3) := by decide +kernel
theorem ddX12_goesBy_23 : decode cX12_goesBy 23 = .ok (.iload_n 2, 1) := by decide +kernel
theorem ddX12_goesBy_24 : decode cX12_goesBy 24 = .ok (.iconst 0, 1) := by decide +kernel
theorem ddX12_goesBy_25 : decode cX12_goesBy 25 = .ok (.iastore, 1) := by decide +kernel
theorem ddX12_goesBy_26 : decode cX12_goesBy 26 = .ok (.aload_n 0, 1) := by decide +kernel
theorem ddX12_goesBy_27 : decode cX12_goesBy 27 = .ok (.getfield 140, 3) := by decide +kernel
theorem ddX12_goesBy_30 : decode cX12_goesBy 30 = .ok (.iload_n 2, 1) := by decide +kernel
theorem ddX12_goesBy_31 : decode cX12_goesBy 31 = .ok (.iconst 0, 1) := by decide +kernel
theorem ddX12_goesBy_32 : decode cX12_goesBy 32 = .ok (.bastore, 1) := by decide +kernel
theorem ddX12_goesBy_33 : decode cX12_goesBy 33 = .ok (.iinc 2 1, 3) := by decide +kernel
theorem ddX12_goesBy_36 : decode cX12_goesBy 36 = .ok (.goto (-29), 3) := by decide +kernel
theorem ddX12_goesBy_39 : decode cX12_goesBy 39 = .ok (.iconst 0, 1) := by decide +kernel
theorem ddX12_goesBy_40 : decode cX12_goesBy 40 = .ok (.istore_n 2, 1) := by decide +kernel
theorem ddX12_goesBy_41 : decode cX12_goesBy 41 = .ok (.iload_n 2, 1) := by decide +kernel
theorem ddX12_goesBy_42 : decode cX12_goesBy 42 = .ok (.bipush 120, 2) := by decide +kernel
theorem ddX12_goesBy_44 : decode cX12_goesBy 44 = .ok (.if_icmp .ge 23, 3) := by decide +kernel
theorem ddX12_goesBy_47 : decode cX12_goesBy 47 = .ok (.aload_n 0, 1) := by decide +kernel
theorem ddX12_goesBy_48 : decode cX12_goesBy 48 = .ok (.getfield 119, 3) := by decide +kernel
theorem ddX12_goesBy_51 : decode cX12_goesBy 51 = .ok (.iload_n 2, 1) := by decide +kernel
theorem ddX12_goesBy_52 : decode cX12_goesBy 52 = .ok (.iconst 0, 1) := by decide +kernel
theorem ddX12_goesBy_53 : decode cX12_goesBy 53 = .ok (.iastore, 1) := by decide +kernel
theorem ddX12_goesBy_54 : decode cX12_goesBy 54 = .ok (.aload_n 0, 1) := by decide +kernel
theorem ddX12_goesBy_55 : decode cX12_goesBy 55 = .ok (.getfield 122, 3) := by decide +kernel
theorem ddX12_goesBy_58 : decode cX12_goesBy 58 = .ok (.iload_n 2, 1) := by decide +kernel
theorem ddX12_goesBy_59 : decode cX12_goesBy 59 = .ok (.iconst (-1), 1) := by decide +kernel
theorem ddX12_goesBy_60 : decode cX12_goesBy 60 = .ok (.iastore, 1) := by decide +kernel
theorem ddX12_goesBy_61 : decode cX12_goesBy 61 = .ok (.iinc 2 1, 3) := by decide +kernel
theorem ddX12_goesBy_64 : decode cX12_goesBy 64 = .ok (.goto (-23), 3) := by decide +kernel
theorem ddX12_goesBy_67 : decode cX12_goesBy 67 = .ok (.iconst 0, 1) := by decide +kernel
theorem ddX12_goesBy_68 : decode cX12_goesBy 68 = .ok (.istore_n 2, 1) := by decide +kernel
theorem ddX12_goesBy_69 : decode cX12_goesBy 69 = .ok (.iload_n 2, 1) := by decide +kernel
theorem ddX12_goesBy_70 : decode cX12_goesBy 70 = .ok (.aload_n 0, 1) := by decide +kernel
theorem ddX12_goesBy_71 : decode cX12_goesBy 71 = .ok (.invokevirtual 370, 3) := by decide +kernel
theorem ddX12_goesBy_74 : decode cX12_goesBy 74 = .ok (.if_icmp .ge 65, 3) := by decide +kernel
theorem ddX12_goesBy_77 : decode cX12_goesBy 77 = .ok (.iconst 0, 1) := by decide +kernel
theorem ddX12_goesBy_78 : decode cX12_goesBy 78 = .ok (.istore_n 3, 1) := by decide +kernel
theorem ddX12_goesBy_79 : decode cX12_goesBy 79 = .ok (.iload_n 3, 1) := by decide +kernel
theorem ddX12_goesBy_80 : decode cX12_goesBy 80 = .ok (.iload_n 1, 1) := by decide +kernel
theorem ddX12_goesBy_81 : decode cX12_goesBy 81 = .ok (.if_icmp .ge 52, 3) := by decide +kernel
theorem ddX12_goesBy_84 : decode cX12_goesBy 84 = .ok (.aload_n 0, 1) := by decide +kernel
theorem ddX12_goesBy_85 : decode cX12_goesBy 85 = .ok (.getfield 101, 3) := by decide +kernel
theorem ddX12_goesBy_88 : decode cX12_goesBy 88 = .ok (.aload_n 0, 1) := by decide +kernel
theorem ddX12_goesBy_89 : decode cX12_goesBy 89 = .ok (.getfield 116, 3) := by decide +kernel
theorem ddX12_goesBy_92 : decode cX12_goesBy 92 = .ok (.iload_n 3, 1) := by decide +kernel
theorem ddX12_goesBy_93 : decode cX12_goesBy 93 = .ok (.iaload, 1) := by decide +kernel
theorem ddX12_goesBy_94 : decode cX12_goesBy 94 = .ok (.iaload, 1) := by decide +kernel
theorem ddX12_goesBy_95 : decode cX12_goesBy 95 = .ok (.aload_n 0, 1) := by decide +kernel
theorem ddX12_goesBy_96 : decode cX12_goesBy 96 = .ok (.getfield 45, 3) := by decide +kernel
theorem ddX12_goesBy_99 : decode cX12_goesBy 99 = .ok (.iconst 4, 1) := by decide +kernel
theorem ddX12_goesBy_100 : decode cX12_goesBy 100 = .ok (.aload_n 0, 1) := by decide +kernel
theorem ddX12_goesBy_101 : decode cX12_goesBy 101 = .ok (.getfield 286, 3) := by decide +kernel
theorem ddX12_goesBy_104 : decode cX12_goesBy 104 = .ok (.imul, 1) := by decide +kernel
theorem ddX12_goesBy_105 : decode cX12_goesBy 105 = .ok (.iload_n 2, 1) := by decide +kernel
theorem ddX12_goesBy_106 : decode cX12_goesBy 106 = .ok (.iadd, 1) := by decide +kernel
theorem ddX12_goesBy_107 : decode cX12_goesBy 107 = .ok (.iaload, 1) := by decide +kernel
theorem ddX12_goesBy_108 : decode cX12_goesBy 108 = .ok (.iadd, 1) := by decide +kernel
theorem ddX12_goesBy_109 : decode cX12_goesBy 109 = .ok (.aload_n 0, 1) := by decide +kernel
theorem ddX12_goesBy_110 : decode cX12_goesBy 110 = .ok (.getfield 382, 3) := by decide +kernel
theorem ddX12_goesBy_113 : decode cX12_goesBy 113 = .ok (.if_icmp .gt 14, 3) := by decide +kernel
theorem ddX12_goesBy_116 : decode cX12_goesBy 116 = .ok (.aload_n 0, 1) := by decide +kernel
theorem ddX12_goesBy_117 : decode cX12_goesBy 117 = .ok (.aload_n 0, 1) := by decide +kernel
theorem ddX12_goesBy_118 : decode cX12_goesBy 118 = .ok (.getfield 116, 3) := by decide +kernel
theorem ddX12_goesBy_121 : decode cX12_goesBy 121 = .ok (.iload_n 3, 1) := by decide +kernel
theorem ddX12_goesBy_122 : decode cX12_goesBy 122 = .ok (.iaload, 1) := by decide +kernel
theorem ddX12_goesBy_123 : decode cX12_goesBy 123 = .ok (.iload_n 2, 1) := by decide +kernel
theorem ddX12_goesBy_124 : decode cX12_goesBy 124 = .ok (.invokevirtual 391, 3) := by decide +kernel
theorem ddX12_goesBy_127 : decode cX12_goesBy 127 = .ok (.iinc 3 1, 3) := by decide +kernel
theorem ddX12_goesBy_130 : decode cX12_goesBy 130 = .ok (.goto (-51), 3) := by decide +kernel
theorem ddX12_goesBy_133 : decode cX12_goesBy 133 = .ok (.iinc 2 1, 3) := by decide +kernel
theorem ddX12_goesBy_136 : decode cX12_goesBy 136 = .ok (.goto (-67), 3) := by decide +kernel
theorem ddX12_goesBy_139 : decode cX12_goesBy 139 = .ok (.return_, 1) := by decide +kernel
def wq_k_X12_goesBy : List Cond := Cond.code yX12_goesBy cX12_goesBy 4 none :: (([Cond.methodLink RX12 388 yX12_layTurns, Cond.instanceMethod yX12_layTurns, Cond.selects RX12 yX12_layTurns yX12_layTurns, Cond.initialized RX12, Cond.code yX12_layTurns cX12_layTurns 4 (some .int), Cond.fieldLink RX12 379 "CrowTollModel" "dMany" "I", Cond.fieldLink RX12 137 "CrowTollModel" "dComes" "[Z", Cond.fieldLink RX12 116 "CrowTollModel" "turnOf" "[I", Cond.fieldLink RX12 101 "CrowTollModel" "dMinute" "[I", Cond.fieldLink RX12 125 "CrowTollModel" "count" "[I", Cond.fieldLink RX12 134 "CrowTollModel" "countedAll" "[I", Cond.fieldLink RX12 140 "CrowTollModel" "hasCounted" "[Z", Cond.fieldLink RX12 119 "CrowTollModel" "paid" "[I", Cond.fieldLink RX12 122 "CrowTollModel" "counted" "[I", Cond.methodLink RX12 370 yX12_postMany, Cond.instanceMethod yX12_postMany, Cond.selects RX12 yX12_postMany yX12_postMany, Cond.code yX12_postMany cX12_postMany 1 (some .int), Cond.fieldLink RX12 24 "CrowTollModel" "posts" "[I", Cond.fieldLink RX12 286 "CrowTollModel" "bank" "I", Cond.fieldLink RX12 45 "CrowTollModel" "postAt" "[I", Cond.fieldLink RX12 382 "CrowTollModel" "dLimit" "I", Cond.methodLink RX12 391 yX12_comesBy, Cond.instanceMethod yX12_comesBy, Cond.selects RX12 yX12_comesBy yX12_comesBy, Cond.code yX12_comesBy cX12_comesBy 7 none, Cond.fieldLink RX12 110 "CrowTollModel" "dSeatMany" "[I", Cond.fieldLink RX12 113 "CrowTollModel" "dSeats" "[I", Cond.fieldLink RX12 128 "CrowTollModel" "looked" "[I", Cond.fieldLink RX12 36 "CrowTollModel" "gap" "[I", Cond.fieldLink RX12 107 "CrowTollModel" "dFar" "[I", Cond.fieldLink RX12 131 "CrowTollModel" "lastCounted" "[I", Cond.fieldLink RX12 104 "CrowTollModel" "dSacks" "[I", Cond.fieldLink RX12 48 "CrowTollModel" "toll" "[I", Cond.methodLink RX12 394 yX12_comes, Cond.instanceMethod yX12_comes, Cond.selects RX12 yX12_comes yX12_comes, Cond.code yX12_comes cX12_comes 7 (some .int), Cond.fieldLink RX12 70 "CrowTollModel" "isLaw" "[Z", Cond.fieldLink RX12 63 "CrowTollModel" "ruleTo" "[I", Cond.fieldLink RX12 83 "CrowTollModel" "code" "[I", Cond.methodLink RX12 231 yX12_isLetter, Cond.static yX12_isLetter, Cond.code yX12_isLetter cX12_isLetter 1 (some .boolean), Cond.fieldLink RX12 95 "CrowTollModel" "pile" "[I", Cond.fieldLink RX12 86 "CrowTollModel" "codeNumber" "[I", Cond.methodLink RX12 359 yX12_two, Cond.static yX12_two, Cond.code yX12_two cX12_two 3 (some .int), Cond.fieldLink RX12 39 "CrowTollModel" "takes" "[I"] : List Cond) ++ wsX120)
set_option maxRecDepth 20000 in
theorem gr_k_X12_goesBy_k_X12_layTurns : GoodIn wq_k_X12_goesBy wq_k_X12_layTurns := List.forall_mem_cons.mpr ⟨⟨(List.mem_of_getElem? (i := 5) rfl), good_of_word rfl⟩, List.forall_mem_append.mpr ⟨List.forall_mem_cons.mpr ⟨⟨(List.mem_of_getElem? (i := 6) rfl), good_of_word rfl⟩, List.forall_mem_cons.mpr ⟨⟨(List.mem_of_getElem? (i := 7) rfl), good_of_word rfl⟩, List.forall_mem_cons.mpr ⟨⟨(List.mem_of_getElem? (i := 8) rfl), good_of_word rfl⟩, List.forall_mem_cons.mpr ⟨⟨(List.mem_of_getElem? (i := 9) rfl), good_of_word rfl⟩, (fun _ h => absurd h List.not_mem_nil)⟩⟩⟩⟩, fun w h => ⟨(fun w h => List.mem_cons_of_mem _ (List.mem_append_right _ h)) w h, good_of_word (List.all_eq_true.mp gw_X12 w h)⟩⟩⟩
set_option maxRecDepth 20000 in
theorem gq_k_X12_goesBy_k_X12_layTurns_388 : GoodIn wq_k_X12_goesBy (wsV RX12 388 RX12 yX12_layTurns wq_k_X12_layTurns) := goodIn_app (List.forall_mem_cons.mpr ⟨⟨(List.mem_of_getElem? (i := 1) rfl), good_of_word rfl⟩, List.forall_mem_cons.mpr ⟨⟨(List.mem_of_getElem? (i := 2) rfl), good_of_word rfl⟩, List.forall_mem_cons.mpr ⟨⟨(List.mem_of_getElem? (i := 3) rfl), good_of_word rfl⟩, List.forall_mem_cons.mpr ⟨⟨(List.mem_of_getElem? (i := 4) rfl), good_of_word rfl⟩, (fun _ h => absurd h List.not_mem_nil)⟩⟩⟩⟩) gr_k_X12_goesBy_k_X12_layTurns
set_option maxRecDepth 20000 in
theorem gr_k_X12_goesBy_k_X12_postMany : GoodIn wq_k_X12_goesBy wq_k_X12_postMany := List.forall_mem_cons.mpr ⟨⟨(List.mem_of_getElem? (i := 18) rfl), good_of_word rfl⟩, List.forall_mem_append.mpr ⟨List.forall_mem_cons.mpr ⟨⟨(List.mem_of_getElem? (i := 19) rfl), good_of_word rfl⟩, List.forall_mem_cons.mpr ⟨⟨(List.mem_of_getElem? (i := 20) rfl), good_of_word rfl⟩, (fun _ h => absurd h List.not_mem_nil)⟩⟩, fun w h => ⟨(fun w h => List.mem_cons_of_mem _ (List.mem_append_right _ h)) w h, good_of_word (List.all_eq_true.mp gw_X12 w h)⟩⟩⟩
set_option maxRecDepth 20000 in
theorem gq_k_X12_goesBy_k_X12_postMany_370 : GoodIn wq_k_X12_goesBy (wsV RX12 370 RX12 yX12_postMany wq_k_X12_postMany) := goodIn_app (List.forall_mem_cons.mpr ⟨⟨(List.mem_of_getElem? (i := 15) rfl), good_of_word rfl⟩, List.forall_mem_cons.mpr ⟨⟨(List.mem_of_getElem? (i := 16) rfl), good_of_word rfl⟩, List.forall_mem_cons.mpr ⟨⟨(List.mem_of_getElem? (i := 17) rfl), good_of_word rfl⟩, List.forall_mem_cons.mpr ⟨⟨(List.mem_of_getElem? (i := 4) rfl), good_of_word rfl⟩, (fun _ h => absurd h List.not_mem_nil)⟩⟩⟩⟩) gr_k_X12_goesBy_k_X12_postMany
set_option maxRecDepth 20000 in
theorem gr_k_X12_goesBy_k_X12_comesBy : GoodIn wq_k_X12_goesBy wq_k_X12_comesBy := List.forall_mem_cons.mpr ⟨⟨(List.mem_of_getElem? (i := 26) rfl), good_of_word rfl⟩, List.forall_mem_append.mpr ⟨List.forall_mem_cons.mpr ⟨⟨(List.mem_of_getElem? (i := 9) rfl), good_of_word rfl⟩, List.forall_mem_cons.mpr ⟨⟨(List.mem_of_getElem? (i := 21) rfl), good_of_word rfl⟩, List.forall_mem_cons.mpr ⟨⟨(List.mem_of_getElem? (i := 20) rfl), good_of_word rfl⟩, List.forall_mem_cons.mpr ⟨⟨(List.mem_of_getElem? (i := 27) rfl), good_of_word rfl⟩, List.forall_mem_cons.mpr ⟨⟨(List.mem_of_getElem? (i := 28) rfl), good_of_word rfl⟩, List.forall_mem_cons.mpr ⟨⟨(List.mem_of_getElem? (i := 12) rfl), good_of_word rfl⟩, List.forall_mem_cons.mpr ⟨⟨(List.mem_of_getElem? (i := 29) rfl), good_of_word rfl⟩, List.forall_mem_cons.mpr ⟨⟨(List.mem_of_getElem? (i := 30) rfl), good_of_word rfl⟩, List.forall_mem_cons.mpr ⟨⟨(List.mem_of_getElem? (i := 10) rfl), good_of_word rfl⟩, List.forall_mem_cons.mpr ⟨⟨(List.mem_of_getElem? (i := 31) rfl), good_of_word rfl⟩, List.forall_mem_cons.mpr ⟨⟨(List.mem_of_getElem? (i := 11) rfl), good_of_word rfl⟩, List.forall_mem_cons.mpr ⟨⟨(List.mem_of_getElem? (i := 32) rfl), good_of_word rfl⟩, List.forall_mem_cons.mpr ⟨⟨(List.mem_of_getElem? (i := 14) rfl), good_of_word rfl⟩, List.forall_mem_cons.mpr ⟨⟨(List.mem_of_getElem? (i := 13) rfl), good_of_word rfl⟩, List.forall_mem_cons.mpr ⟨⟨(List.mem_of_getElem? (i := 33) rfl), good_of_word rfl⟩, List.forall_mem_cons.mpr ⟨⟨(List.mem_of_getElem? (i := 34) rfl), good_of_word rfl⟩, List.forall_mem_cons.mpr ⟨⟨(List.mem_of_getElem? (i := 35) rfl), good_of_word rfl⟩, List.forall_mem_cons.mpr ⟨⟨(List.mem_of_getElem? (i := 36) rfl), good_of_word rfl⟩, List.forall_mem_cons.mpr ⟨⟨(List.mem_of_getElem? (i := 37) rfl), good_of_word rfl⟩, List.forall_mem_cons.mpr ⟨⟨(List.mem_of_getElem? (i := 4) rfl), good_of_word rfl⟩, List.forall_mem_cons.mpr ⟨⟨(List.mem_of_getElem? (i := 38) rfl), good_of_word rfl⟩, List.forall_mem_cons.mpr ⟨⟨(List.mem_of_getElem? (i := 39) rfl), good_of_word rfl⟩, List.forall_mem_cons.mpr ⟨⟨(List.mem_of_getElem? (i := 40) rfl), good_of_word rfl⟩, List.forall_mem_cons.mpr ⟨⟨(List.mem_of_getElem? (i := 41) rfl), good_of_word rfl⟩, List.forall_mem_cons.mpr ⟨⟨(List.mem_of_getElem? (i := 42) rfl), good_of_word rfl⟩, List.forall_mem_cons.mpr ⟨⟨(List.mem_of_getElem? (i := 43) rfl), good_of_word rfl⟩, List.forall_mem_cons.mpr ⟨⟨(List.mem_of_getElem? (i := 44) rfl), good_of_word rfl⟩, List.forall_mem_cons.mpr ⟨⟨(List.mem_of_getElem? (i := 45) rfl), good_of_word rfl⟩, List.forall_mem_cons.mpr ⟨⟨(List.mem_of_getElem? (i := 46) rfl), good_of_word rfl⟩, List.forall_mem_cons.mpr ⟨⟨(List.mem_of_getElem? (i := 47) rfl), good_of_word rfl⟩, List.forall_mem_cons.mpr ⟨⟨(List.mem_of_getElem? (i := 48) rfl), good_of_word rfl⟩, List.forall_mem_cons.mpr ⟨⟨(List.mem_of_getElem? (i := 49) rfl), good_of_word rfl⟩, List.forall_mem_cons.mpr ⟨⟨(List.mem_of_getElem? (i := 50) rfl), good_of_word rfl⟩, (fun _ h => absurd h List.not_mem_nil)⟩⟩⟩⟩⟩⟩⟩⟩⟩⟩⟩⟩⟩⟩⟩⟩⟩⟩⟩⟩⟩⟩⟩⟩⟩⟩⟩⟩⟩⟩⟩⟩⟩, fun w h => ⟨(fun w h => List.mem_cons_of_mem _ (List.mem_append_right _ h)) w h, good_of_word (List.all_eq_true.mp gw_X12 w h)⟩⟩⟩
set_option maxRecDepth 20000 in
theorem gq_k_X12_goesBy_k_X12_comesBy_391 : GoodIn wq_k_X12_goesBy (wsV RX12 391 RX12 yX12_comesBy wq_k_X12_comesBy) := goodIn_app (List.forall_mem_cons.mpr ⟨⟨(List.mem_of_getElem? (i := 23) rfl), good_of_word rfl⟩, List.forall_mem_cons.mpr ⟨⟨(List.mem_of_getElem? (i := 24) rfl), good_of_word rfl⟩, List.forall_mem_cons.mpr ⟨⟨(List.mem_of_getElem? (i := 25) rfl), good_of_word rfl⟩, List.forall_mem_cons.mpr ⟨⟨(List.mem_of_getElem? (i := 4) rfl), good_of_word rfl⟩, (fun _ h => absurd h List.not_mem_nil)⟩⟩⟩⟩) gr_k_X12_goesBy_k_X12_comesBy
set_option maxHeartbeats 8000000 in
set_option maxRecDepth 100000 in
theorem k_X12_goesBy (l : Launch) (D : va_G) (cy : Nat → ClassId) (ad : Nat → Nat) (g : Nat → va_E) {u0_0 : Value} {u0_1 : Value} {u0_2 : Value} {u0_3 : Value} {u0_4 : Value} {u0_5 : Value} {u0_6 : Value} {u0_7 : Value} {u0_8 : Value} {u0_9 : Value} {u0_10 : Value} {u0_11 : Value} {u0_13 : Value} {u0_14 : Value} {u0_15 : Value} {u0_18 : Value} {u0_21 : Value} {u0_22 : Value} {u0_23 : Value} {u0_24 : Value} {u0_26 : Value} {u0_28 : Value} {u0_29 : Value} {u0_30 : Value} {u0_33 : Value} {u0_34 : Value} {x0_36 : Int32} {u0_37 : Value} {u0_38 : Value} {u0_39 : Value} {u0_40 : Value} {u0_41 : Value} {x0_56 : Int32} {x0_57 : Int32} {u0_58 : Value} {u0_59 : Value} {u0_60 : Value} {u0_61 : Value} {u0_62 : Value} {u0_63 : Value} {u0_64 : Value} {u0_65 : Value} {u0_66 : Value} {u0_67 : Value} {u0_68 : Value} {u0_69 : Value} {u0_70 : Value} {u0_71 : Value} {u0_72 : Value} {u0_73 : Value} {c1 : Nat → Int32} {c2 : Nat → Int32} {c3 : Nat → Int32} {c4 : Nat → Int32} {c5 : Nat → Int32} {c6 : Nat → Int32} {c7 : Nat → Int32} {c8 : Nat → Int32} {c9 : Nat → Int32} {c10 : Nat → Int32} {c11 : Nat → Int32} {c12 : Nat → Int32} {c13 : Nat → Int32} {c14 : Nat → Int32} {c15 : Nat → Int32} {c16 : Nat → Int32} {c17 : Nat → Int32} {c18 : Nat → Int32} {c19 : Nat → Int32} {c20 : Nat → Int32} {c21 : Nat → Int32} {c22 : Nat → Int32} {c23 : Nat → Int32} {c24 : Nat → Int32} (o0 : g 0 = .inr (12, [u0_0, u0_1, u0_2, u0_3, u0_4, u0_5, u0_6, u0_7, u0_8, u0_9, u0_10, u0_11, .ref (ad 9), u0_13, u0_14, u0_15, .ref (ad 11), .ref (ad 12), u0_18, .ref (ad 10), .ref (ad 13), u0_21, u0_22, u0_23, u0_24, .ref (ad 14), u0_26, .ref (ad 15), u0_28, u0_29, u0_30, .ref (ad 16), .ref (ad 17), u0_33, u0_34, .ref (ad 18), .int x0_36, u0_37, u0_38, u0_39, u0_40, u0_41, .ref (ad 1), .ref (ad 19), .ref (ad 20), .ref (ad 21), .ref (ad 22), .ref (ad 2), .ref (ad 7), .ref (ad 8), .ref (ad 4), .ref (ad 23), .ref (ad 24), .ref (ad 5), .ref (ad 3), .ref (ad 6), .int x0_56, .int x0_57, u0_58, u0_59, u0_60, u0_61, u0_62, u0_63, u0_64, u0_65, u0_66, u0_67, u0_68, u0_69, u0_70, u0_71, u0_72, u0_73])) (a1 : g 1 = .inl (cy 0, 30, .inl c1)) (a2 : g 2 = .inl (cy 0, 30, .inl c2)) (a3 : g 3 = .inl (cy 2, 30, .inl c3)) (a4 : g 4 = .inl (cy 0, 5, .inl c4)) (a5 : g 5 = .inl (cy 0, 5, .inl c5)) (a6 : g 6 = .inl (cy 2, 5, .inl c6)) (a7 : g 7 = .inl (cy 0, 120, .inl c7)) (a8 : g 8 = .inl (cy 0, 120, .inl c8)) (a9 : g 9 = .inl (cy 0, 2, .inl c9)) (a10 : g 10 = .inl (cy 0, 8, .inl c10)) (a11 : g 11 = .inl (cy 0, 10, .inl c11)) (a12 : g 12 = .inl (cy 0, 10, .inl c12)) (a13 : g 13 = .inl (cy 0, 8, .inl c13)) (a14 : g 14 = .inl (cy 0, 2, .inl c14)) (a15 : g 15 = .inl (cy 2, 2, .inl c15)) (a16 : g 16 = .inl (cy 0, 980, .inl c16)) (a17 : g 17 = .inl (cy 0, 980, .inl c17)) (a18 : g 18 = .inl (cy 0, 60, .inl c18)) (a19 : g 19 = .inl (cy 0, 30, .inl c19)) (a20 : g 20 = .inl (cy 0, 5, .inl c20)) (a21 : g 21 = .inl (cy 0, 4, .inl c21)) (a22 : g 22 = .inl (cy 0, 20, .inl c22)) (a23 : g 23 = .inl (cy 0, 5, .inl c23)) (a24 : g 24 = .inl (cy 0, 5, .inl c24)) (b0_36 : zi 0 1 x0_36) (b0_56 : zi 0 30 x0_56) (ha2 : za 0 29 c2) (ha3 : za 0 1 c3) (ha6 : za 0 1 c6) (ha9 : za 0 4 c9) (ha14 : za 0 980 c14) (ha15 : za 0 1 c15) (ha21 : za 0 5 c21) (ha22 : za 0 4 c22) (hF : zf c15 c16 c14 x0_36) : cMv l yX12_goesBy wq_k_X12_goesBy { frames := 3, cells := 0, slots := 0, locals := 74 } 25 0 0 0 D cy ad g [.ref (ad 0)] (fun nw lu => ∃ (d2 : Nat → Int32) (d4 : Nat → Int32) (d5 : Nat → Int32) (d6 : Nat → Int32) (d7 : Nat → Int32) (d8 : Nat → Int32) (d18 : Nat → Int32) (d23 : Nat → Int32) (d24 : Nat → Int32), (za 0 29 d2) ∧ (za 0 1 d6) ∧ (lu = [(2, .inl (cy 0, 30, .inl d2)), (4, .inl (cy 0, 5, .inl d4)), (5, .inl (cy 0, 5, .inl d5)), (6, .inl (cy 2, 5, .inl d6)), (7, .inl (cy 0, 120, .inl d7)), (8, .inl (cy 0, 120, .inl d8)), (18, .inl (cy 0, 60, .inl d18)), (23, .inl (cy 0, 5, .inl d23)), (24, .inl (cy 0, 5, .inl d24))])) := by
  refine cM_of (Qc := fun A => cQv (fun nw lu => ∃ (d2 : Nat → Int32) (d4 : Nat → Int32) (d5 : Nat → Int32) (d6 : Nat → Int32) (d7 : Nat → Int32) (d8 : Nat → Int32) (d18 : Nat → Int32) (d23 : Nat → Int32) (d24 : Nat → Int32), (za 0 29 d2) ∧ (za 0 1 d6) ∧ (lu = [(2, .inl (cy 0, 30, .inl d2)), (4, .inl (cy 0, 5, .inl d4)), (5, .inl (cy 0, 5, .inl d5)), (6, .inl (cy 2, 5, .inl d6)), (7, .inl (cy 0, 120, .inl d7)), (8, .inl (cy 0, 120, .inl d8)), (18, .inl (cy 0, 60, .inl d18)), (23, .inl (cy 0, 5, .inl d23)), (24, .inl (cy 0, 5, .inl d24))])) D 25 0 ad g A) (cc := cX12_goesBy) (maxL := 4) (ret := none) (by decide) rfl (Nat.le_of_ble_eq_true rfl) ?_
  intro p e s m below meth c A hC hr hlk hnm hO ls hl
  have hC : CallFix p m c cX12_goesBy 4 s [.ref (ad 0)].toArray wq_k_X12_goesBy RX12 := hC
  obtain ⟨hx, hb, hml, hown, hts⟩ := id hC
  have hl : lv_has ls 4 [(0, .ref (ad 0))] := hl
  have i_X12 : ∀ w ∈ wsX120, w ∈ wq_k_X12_goesBy := fun w h => List.mem_cons_of_mem _ (List.mem_append_right _ h)
  have hO := hO.notes [(2, .inl (cy 0, 30, .inl c2)), (4, .inl (cy 0, 5, .inl c4)), (5, .inl (cy 0, 5, .inl c5)), (6, .inl (cy 2, 5, .inl c6)), (7, .inl (cy 0, 120, .inl c7)), (8, .inl (cy 0, 120, .inl c8)), (18, .inl (cy 0, 60, .inl c18)), (23, .inl (cy 0, 5, .inl c23)), (24, .inl (cy 0, 5, .inl c24))] (List.forall_mem_cons.mpr ⟨a2, List.forall_mem_cons.mpr ⟨a4, List.forall_mem_cons.mpr ⟨a5, List.forall_mem_cons.mpr ⟨a6, List.forall_mem_cons.mpr ⟨a7, List.forall_mem_cons.mpr ⟨a8, List.forall_mem_cons.mpr ⟨a18, List.forall_mem_cons.mpr ⟨a23, List.forall_mem_cons.mpr ⟨a24, (fun _ h => absurd h List.not_mem_nil)⟩⟩⟩⟩⟩⟩⟩⟩⟩)
  refine lv_aload_n hx hb ddX12_goesBy_0 rfl (lv_at hl 0 rfl) ?_
  refine cg_Vi (As := []) (rest := []) (mc := 0) (ms := 0) (rm := { frames := 0, cells := 0, slots := 0, locals := 0 }) hC hl.1 hO [0, 3, 2, 1] (by decide +kernel) (k_X12_layTurns l D cy _ _ (u0_0 := u0_0) (u0_1 := u0_1) (u0_2 := u0_2) (u0_3 := u0_3) (u0_4 := u0_4) (u0_5 := u0_5) (u0_6 := u0_6) (u0_7 := u0_7) (u0_8 := u0_8) (u0_9 := u0_9) (u0_10 := u0_10) (u0_11 := u0_11) (u0_12 := .ref (ad 9)) (u0_13 := u0_13) (u0_14 := u0_14) (u0_15 := u0_15) (u0_16 := .ref (ad 11)) (u0_17 := .ref (ad 12)) (u0_18 := u0_18) (u0_19 := .ref (ad 10)) (u0_20 := .ref (ad 13)) (u0_21 := u0_21) (u0_22 := u0_22) (u0_23 := u0_23) (u0_24 := u0_24) (u0_25 := .ref (ad 14)) (u0_26 := u0_26) (u0_27 := .ref (ad 15)) (u0_28 := u0_28) (u0_29 := u0_29) (u0_30 := u0_30) (u0_31 := .ref (ad 16)) (u0_32 := .ref (ad 17)) (u0_33 := u0_33) (u0_34 := u0_34) (u0_35 := .ref (ad 18)) (u0_36 := .int x0_36) (u0_37 := u0_37) (u0_38 := u0_38) (u0_39 := u0_39) (u0_40 := u0_40) (u0_41 := u0_41) (c3 := c1) (u0_43 := .ref (ad 19)) (u0_44 := .ref (ad 20)) (u0_45 := .ref (ad 21)) (u0_46 := .ref (ad 22)) (c2 := c2) (u0_48 := .ref (ad 7)) (u0_49 := .ref (ad 8)) (u0_50 := .ref (ad 4)) (u0_51 := .ref (ad 23)) (u0_52 := .ref (ad 24)) (u0_53 := .ref (ad 5)) (c1 := c3) (u0_55 := .ref (ad 6)) (x0_56 := x0_56) (u0_57 := .int x0_57) (u0_58 := u0_58) (u0_59 := u0_59) (u0_60 := u0_60) (u0_61 := u0_61) (u0_62 := u0_62) (u0_63 := u0_63) (u0_64 := u0_64) (u0_65 := u0_65) (u0_66 := u0_66) (u0_67 := u0_67) (u0_68 := u0_68) (u0_69 := u0_69) (u0_70 := u0_70) (u0_71 := u0_71) (u0_72 := u0_72) (u0_73 := u0_73) o0 a3 rfl a1 b0_56 ha3 ha2) gq_k_X12_goesBy_k_X12_layTurns_388 rfl rfl rfl 0 (by decide +kernel) ⟨Nat.le_of_ble_eq_true rfl, Nat.le_of_ble_eq_true rfl⟩ rfl (by decide) o0 rfl rfl (Nat.le_of_ble_eq_true rfl) ddX12_goesBy_1 ⟨Nat.le_of_ble_eq_true rfl, Nat.le_of_ble_eq_true rfl⟩ (fun r_1_64115 nw_1_64113 l_1_64114 H locs hw hO => ?_)
  obtain ⟨d2_1_64116, z_1_64117, z_1_64118, rfl⟩ := hw
  have hO := hO.mrg (lk := [(2, .inl (cy 0, 30, .inl d2_1_64116))]) (lm := [(2, .inl (cy 0, 30, .inl d2_1_64116)), (4, .inl (cy 0, 5, .inl c4)), (5, .inl (cy 0, 5, .inl c5)), (6, .inl (cy 2, 5, .inl c6)), (7, .inl (cy 0, 120, .inl c7)), (8, .inl (cy 0, 120, .inl c8)), (18, .inl (cy 0, 60, .inl c18)), (23, .inl (cy 0, 5, .inl c23)), (24, .inl (cy 0, 5, .inl c24))]) rfl rfl rfl
  refine lv_istore_n (lv' := [(1, .int r_1_64115), (0, .ref (ad 0))]) hx hb ddX12_goesBy_4 rfl hl (by decide) rfl (fun ls hl => ?_)
  refine lv_iconst (v := 0) hx hb ddX12_goesBy_5 (by decide) ?_
  refine lv_istore_n (lv' := [(2, .int 0), (1, .int r_1_64115), (0, .ref (ad 0))]) hx hb ddX12_goesBy_6 rfl hl (by decide) rfl (fun ls hl => ?_)
  have loop_7_101371 : ∀ (d_7_101372 : Nat) (v_7_82788 : Int32) (c_7_82790 : Nat → Int32) (c_7_82792 : Nat → Int32) (c_7_82794 : Nat → Int32), zi 0 5 v_7_82788 → za (-2147483648) 2147483647 c_7_82790 → za (-2147483648) 2147483647 c_7_82792 → za 0 1 c_7_82794 → (5 + 1 - v_7_82788.toInt).toNat < d_7_101372 → ∀ (H : Heap) (locs : List Loc), cO D cy A s.heap s 25 ad (cup [(2, .inl (cy 0, 30, .inl d2_1_64116)), (4, .inl (cy 0, 5, .inl c_7_82790)), (5, .inl (cy 0, 5, .inl c_7_82792)), (6, .inl (cy 2, 5, .inl c_7_82794)), (7, .inl (cy 0, 120, .inl c7)), (8, .inl (cy 0, 120, .inl c8)), (18, .inl (cy 0, 60, .inl c18)), (23, .inl (cy 0, 5, .inl c23)), (24, .inl (cy 0, 5, .inl c24))] g) H locs → ∀ ls : Array Slot, lv_has ls 4 [(2, .int v_7_82788), (1, .int r_1_64115), (0, .ref (ad 0))] → W p l e { frames := 3, cells := 0, slots := 0, locals := 74 } s m [.ref (ad 0)].toArray below meth c H locs 0 0 (MQ below (cQv (fun nw lu => ∃ (d2 : Nat → Int32) (d4 : Nat → Int32) (d5 : Nat → Int32) (d6 : Nat → Int32) (d7 : Nat → Int32) (d8 : Nat → Int32) (d18 : Nat → Int32) (d23 : Nat → Int32) (d24 : Nat → Int32), (za 0 29 d2) ∧ (za 0 1 d6) ∧ (lu = [(2, .inl (cy 0, 30, .inl d2)), (4, .inl (cy 0, 5, .inl d4)), (5, .inl (cy 0, 5, .inl d5)), (6, .inl (cy 2, 5, .inl d6)), (7, .inl (cy 0, 120, .inl d7)), (8, .inl (cy 0, 120, .inl d8)), (18, .inl (cy 0, 60, .inl d18)), (23, .inl (cy 0, 5, .inl d23)), (24, .inl (cy 0, 5, .inl d24))])) D 25 0 ad g A) [.ref (ad 0)].toArray s 0 0 A) (F0 m 7 ls [])  := by
    intro d_7_101372
    induction d_7_101372 with
    | zero => intro v_7_82788 c_7_82790 c_7_82792 c_7_82794 z_7_82789 zc_7_82791 zc_7_82793 zc_7_82795 mu_7_101373; exact absurd mu_7_101373 (Nat.not_lt_zero _)
    | succ d_7_101372 ih_7_101374 =>
      intro v_7_82788 c_7_82790 c_7_82792 c_7_82794 z_7_82789 zc_7_82791 zc_7_82793 zc_7_82795 mu_7_101373 H locs hO ls hl
      refine lv_iload_n hx hb ddX12_goesBy_7 rfl (lv_at hl 0 rfl) ?_
      refine lv_iconst (v := 5) hx hb ddX12_goesBy_8 (by decide) ?_
      refine lv_icmp_ge (tgt := 39) hx hb ddX12_goesBy_9 (by decide) (fun h_9_101375 => ?_) (fun h_9_101375 => ?_)
      · have q_9_101390 := zr_le h_9_101375
        have z_9_101391 : zi 5 5 v_7_82788 := zd_le q_9_101390 (zi_k (a := 5) (b := 5) (x := 5) rfl) z_7_82789 (by decide)
        refine lv_iconst (v := 0) hx hb ddX12_goesBy_39 (by decide) ?_
        refine lv_istore_n (lv' := [(2, .int 0), (1, .int r_1_64115), (0, .ref (ad 0))]) hx hb ddX12_goesBy_40 rfl hl (by decide) rfl (fun ls hl => ?_)
        have loop_41_119938 : ∀ (d_41_119939 : Nat) (v_41_110715 : Int32) (c_41_110717 : Nat → Int32) (c_41_110719 : Nat → Int32), zi 0 120 v_41_110715 → za (-2147483648) 2147483647 c_41_110717 → za (-2147483648) 2147483647 c_41_110719 → (120 + 1 - v_41_110715.toInt).toNat < d_41_119939 → ∀ (H : Heap) (locs : List Loc), cO D cy A s.heap s 25 ad (cup [(2, .inl (cy 0, 30, .inl d2_1_64116)), (4, .inl (cy 0, 5, .inl c_7_82790)), (5, .inl (cy 0, 5, .inl c_7_82792)), (6, .inl (cy 2, 5, .inl c_7_82794)), (7, .inl (cy 0, 120, .inl c_41_110717)), (8, .inl (cy 0, 120, .inl c_41_110719)), (18, .inl (cy 0, 60, .inl c18)), (23, .inl (cy 0, 5, .inl c23)), (24, .inl (cy 0, 5, .inl c24))] g) H locs → ∀ ls : Array Slot, lv_has ls 4 [(2, .int v_41_110715), (1, .int r_1_64115), (0, .ref (ad 0))] → W p l e { frames := 3, cells := 0, slots := 0, locals := 74 } s m [.ref (ad 0)].toArray below meth c H locs 0 0 (MQ below (cQv (fun nw lu => ∃ (d2 : Nat → Int32) (d4 : Nat → Int32) (d5 : Nat → Int32) (d6 : Nat → Int32) (d7 : Nat → Int32) (d8 : Nat → Int32) (d18 : Nat → Int32) (d23 : Nat → Int32) (d24 : Nat → Int32), (za 0 29 d2) ∧ (za 0 1 d6) ∧ (lu = [(2, .inl (cy 0, 30, .inl d2)), (4, .inl (cy 0, 5, .inl d4)), (5, .inl (cy 0, 5, .inl d5)), (6, .inl (cy 2, 5, .inl d6)), (7, .inl (cy 0, 120, .inl d7)), (8, .inl (cy 0, 120, .inl d8)), (18, .inl (cy 0, 60, .inl d18)), (23, .inl (cy 0, 5, .inl d23)), (24, .inl (cy 0, 5, .inl d24))])) D 25 0 ad g A) [.ref (ad 0)].toArray s 0 0 A) (F0 m 41 ls [])  := by
          intro d_41_119939
          induction d_41_119939 with
          | zero => intro v_41_110715 c_41_110717 c_41_110719 z_41_110716 zc_41_110718 zc_41_110720 mu_41_119940; exact absurd mu_41_119940 (Nat.not_lt_zero _)
          | succ d_41_119939 ih_41_119941 =>
            intro v_41_110715 c_41_110717 c_41_110719 z_41_110716 zc_41_110718 zc_41_110720 mu_41_119940 H locs hO ls hl
            refine lv_iload_n hx hb ddX12_goesBy_41 rfl (lv_at hl 0 rfl) ?_
            refine lv_bipush (v := 120) hx hb ddX12_goesBy_42 (by decide) ?_
            refine lv_icmp_ge (tgt := 67) hx hb ddX12_goesBy_44 (by decide) (fun h_44_119942 => ?_) (fun h_44_119942 => ?_)
            · have q_44_119955 := zr_le h_44_119942
              have z_44_119956 : zi 120 120 v_41_110715 := zd_le q_44_119955 (zi_k (a := 120) (b := 120) (x := 120) rfl) z_41_110716 (by decide)
              refine lv_iconst (v := 0) hx hb ddX12_goesBy_67 (by decide) ?_
              refine lv_istore_n (lv' := [(2, .int 0), (1, .int r_1_64115), (0, .ref (ad 0))]) hx hb ddX12_goesBy_68 rfl hl (by decide) rfl (fun ls hl => ?_)
              have loop_69_129149 : ∀ (d_69_129150 : Nat) (v_69_127608 : Int32) (c_69_127610 : Nat → Int32) (c_69_127612 : Nat → Int32) (c_69_127614 : Nat → Int32) (c_69_127616 : Nat → Int32) (c_69_127618 : Nat → Int32) (c_69_127620 : Nat → Int32) (c_69_127622 : Nat → Int32) (c_69_127624 : Nat → Int32), zi 0 4 v_69_127608 → za (-2147483648) 2147483647 c_69_127610 → za (-2147483648) 2147483647 c_69_127612 → za 0 1 c_69_127614 → za (-2147483648) 2147483647 c_69_127616 → za (-2147483648) 2147483647 c_69_127618 → za (-2147483648) 2147483647 c_69_127620 → za (-2147483648) 2147483647 c_69_127622 → za (-2147483648) 2147483647 c_69_127624 → (4 + 1 - v_69_127608.toInt).toNat < d_69_129150 → ∀ (H : Heap) (locs : List Loc), cO D cy A s.heap s 25 ad (cup [(2, .inl (cy 0, 30, .inl d2_1_64116)), (4, .inl (cy 0, 5, .inl c_69_127610)), (5, .inl (cy 0, 5, .inl c_69_127612)), (6, .inl (cy 2, 5, .inl c_69_127614)), (7, .inl (cy 0, 120, .inl c_69_127616)), (8, .inl (cy 0, 120, .inl c_69_127618)), (18, .inl (cy 0, 60, .inl c_69_127620)), (23, .inl (cy 0, 5, .inl c_69_127622)), (24, .inl (cy 0, 5, .inl c_69_127624))] g) H locs → ∀ ls : Array Slot, lv_has ls 4 [(2, .int v_69_127608), (1, .int r_1_64115), (0, .ref (ad 0))] → W p l e { frames := 3, cells := 0, slots := 0, locals := 74 } s m [.ref (ad 0)].toArray below meth c H locs 0 0 (MQ below (cQv (fun nw lu => ∃ (d2 : Nat → Int32) (d4 : Nat → Int32) (d5 : Nat → Int32) (d6 : Nat → Int32) (d7 : Nat → Int32) (d8 : Nat → Int32) (d18 : Nat → Int32) (d23 : Nat → Int32) (d24 : Nat → Int32), (za 0 29 d2) ∧ (za 0 1 d6) ∧ (lu = [(2, .inl (cy 0, 30, .inl d2)), (4, .inl (cy 0, 5, .inl d4)), (5, .inl (cy 0, 5, .inl d5)), (6, .inl (cy 2, 5, .inl d6)), (7, .inl (cy 0, 120, .inl d7)), (8, .inl (cy 0, 120, .inl d8)), (18, .inl (cy 0, 60, .inl d18)), (23, .inl (cy 0, 5, .inl d23)), (24, .inl (cy 0, 5, .inl d24))])) D 25 0 ad g A) [.ref (ad 0)].toArray s 0 0 A) (F0 m 69 ls [])  := by
                intro d_69_129150
                induction d_69_129150 with
                | zero => intro v_69_127608 c_69_127610 c_69_127612 c_69_127614 c_69_127616 c_69_127618 c_69_127620 c_69_127622 c_69_127624 z_69_127609 zc_69_127611 zc_69_127613 zc_69_127615 zc_69_127617 zc_69_127619 zc_69_127621 zc_69_127623 zc_69_127625 mu_69_129151; exact absurd mu_69_129151 (Nat.not_lt_zero _)
                | succ d_69_129150 ih_69_129152 =>
                  intro v_69_127608 c_69_127610 c_69_127612 c_69_127614 c_69_127616 c_69_127618 c_69_127620 c_69_127622 c_69_127624 z_69_127609 zc_69_127611 zc_69_127613 zc_69_127615 zc_69_127617 zc_69_127619 zc_69_127621 zc_69_127623 zc_69_127625 mu_69_129151 H locs hO ls hl
                  refine lv_iload_n hx hb ddX12_goesBy_69 rfl (lv_at hl 0 rfl) ?_
                  refine lv_aload_n hx hb ddX12_goesBy_70 rfl (lv_at hl 2 rfl) ?_
                  refine cg_Vi (As := []) (rest := [.int v_69_127608]) (mc := 0) (ms := 0) (rm := { frames := 0, cells := 0, slots := 0, locals := 0 }) hC hl.1 hO [0, 9] (by decide +kernel) (k_X12_postMany l D cy _ _ (u0_0 := u0_0) (u0_1 := u0_1) (u0_2 := u0_2) (u0_3 := u0_3) (u0_4 := u0_4) (u0_5 := u0_5) (u0_6 := u0_6) (u0_7 := u0_7) (u0_8 := u0_8) (u0_9 := u0_9) (u0_10 := u0_10) (u0_11 := u0_11) (c1 := c9) (u0_13 := u0_13) (u0_14 := u0_14) (u0_15 := u0_15) (u0_16 := .ref (ad 11)) (u0_17 := .ref (ad 12)) (u0_18 := u0_18) (u0_19 := .ref (ad 10)) (u0_20 := .ref (ad 13)) (u0_21 := u0_21) (u0_22 := u0_22) (u0_23 := u0_23) (u0_24 := u0_24) (u0_25 := .ref (ad 14)) (u0_26 := u0_26) (u0_27 := .ref (ad 15)) (u0_28 := u0_28) (u0_29 := u0_29) (u0_30 := u0_30) (u0_31 := .ref (ad 16)) (u0_32 := .ref (ad 17)) (u0_33 := u0_33) (u0_34 := u0_34) (u0_35 := .ref (ad 18)) (x0_36 := x0_36) (u0_37 := u0_37) (u0_38 := u0_38) (u0_39 := u0_39) (u0_40 := u0_40) (u0_41 := u0_41) (u0_42 := .ref (ad 1)) (u0_43 := .ref (ad 19)) (u0_44 := .ref (ad 20)) (u0_45 := .ref (ad 21)) (u0_46 := .ref (ad 22)) (u0_47 := .ref (ad 2)) (u0_48 := .ref (ad 7)) (u0_49 := .ref (ad 8)) (u0_50 := .ref (ad 4)) (u0_51 := .ref (ad 23)) (u0_52 := .ref (ad 24)) (u0_53 := .ref (ad 5)) (u0_54 := .ref (ad 3)) (u0_55 := .ref (ad 6)) (u0_56 := .int x0_56) (u0_57 := .int x0_57) (u0_58 := u0_58) (u0_59 := u0_59) (u0_60 := u0_60) (u0_61 := u0_61) (u0_62 := u0_62) (u0_63 := u0_63) (u0_64 := u0_64) (u0_65 := u0_65) (u0_66 := u0_66) (u0_67 := u0_67) (u0_68 := u0_68) (u0_69 := u0_69) (u0_70 := u0_70) (u0_71 := u0_71) (u0_72 := u0_72) (u0_73 := u0_73) o0 a9 b0_36 ha9) gq_k_X12_goesBy_k_X12_postMany_370 rfl rfl rfl 0 (by decide +kernel) ⟨Nat.le_of_ble_eq_true rfl, Nat.le_of_ble_eq_true rfl⟩ rfl (by decide) o0 rfl rfl (Nat.le_of_ble_eq_true rfl) ddX12_goesBy_71 ⟨Nat.le_of_ble_eq_true rfl, Nat.le_of_ble_eq_true rfl⟩ (fun r_71_129155 nw_71_129153 l_71_129154 H locs hw hO => ?_)
                  obtain ⟨z_71_129156, el_71_129157, rfl⟩ := hw
                  have hO : cO D cy A s.heap s 25 ad (cup [(2, .inl (cy 0, 30, .inl d2_1_64116)), (4, .inl (cy 0, 5, .inl c_69_127610)), (5, .inl (cy 0, 5, .inl c_69_127612)), (6, .inl (cy 2, 5, .inl c_69_127614)), (7, .inl (cy 0, 120, .inl c_69_127616)), (8, .inl (cy 0, 120, .inl c_69_127618)), (18, .inl (cy 0, 60, .inl c_69_127620)), (23, .inl (cy 0, 5, .inl c_69_127622)), (24, .inl (cy 0, 5, .inl c_69_127624))] g) _ _ := hO
                  refine lv_icmp_ge (tgt := 139) hx hb ddX12_goesBy_74 (by decide) (fun h_74_129158 => ?_) (fun h_74_129158 => ?_)
                  · have q_74_129159 := zr_le h_74_129158
                    exact cg_vret (nw := fun _ => 0) hC hr hlk hO.same (Nat.le_of_ble_eq_true rfl) (Nat.le_of_ble_eq_true rfl) (⟨d2_1_64116, c_69_127610, c_69_127612, c_69_127614, c_69_127616, c_69_127618, c_69_127620, c_69_127622, c_69_127624, z_1_64117, zc_69_127615, rfl⟩) ddX12_goesBy_139
                  · have q_74_129160 := zr_nle h_74_129158
                    have z_74_129161 : zi 0 3 v_69_127608 := zu_lt q_74_129160 z_69_127609 z_71_129156 (by decide)
                    have z_74_129162 : zi 1 4 r_71_129155 := zd_lt q_74_129160 z_69_127609 z_71_129156 (by decide)
                    refine lv_iconst (v := 0) hx hb ddX12_goesBy_77 (by decide) ?_
                    refine lv_istore_n (lv' := [(3, .int 0), (2, .int v_69_127608), (1, .int r_1_64115), (0, .ref (ad 0))]) hx hb ddX12_goesBy_78 rfl hl (by decide) rfl (fun ls hl => ?_)
                    have loop_79_130676 : ∀ (d_79_130677 : Nat) (v_79_130505 : Int32) (c_79_130507 : Nat → Int32) (c_79_130509 : Nat → Int32) (c_79_130511 : Nat → Int32) (c_79_130513 : Nat → Int32) (c_79_130515 : Nat → Int32) (c_79_130517 : Nat → Int32) (c_79_130519 : Nat → Int32) (c_79_130521 : Nat → Int32), zi 0 120 v_79_130505 → za (-2147483648) 2147483647 c_79_130507 → za (-2147483648) 2147483647 c_79_130509 → za 0 1 c_79_130511 → za (-2147483648) 2147483647 c_79_130513 → za (-2147483648) 2147483647 c_79_130515 → za (-2147483648) 2147483647 c_79_130517 → za (-2147483648) 2147483647 c_79_130519 → za (-2147483648) 2147483647 c_79_130521 → (120 + 1 - v_79_130505.toInt).toNat < d_79_130677 → ∀ (H : Heap) (locs : List Loc), cO D cy A s.heap s 25 ad (cup [(2, .inl (cy 0, 30, .inl d2_1_64116)), (4, .inl (cy 0, 5, .inl c_79_130507)), (5, .inl (cy 0, 5, .inl c_79_130509)), (6, .inl (cy 2, 5, .inl c_79_130511)), (7, .inl (cy 0, 120, .inl c_79_130513)), (8, .inl (cy 0, 120, .inl c_79_130515)), (18, .inl (cy 0, 60, .inl c_79_130517)), (23, .inl (cy 0, 5, .inl c_79_130519)), (24, .inl (cy 0, 5, .inl c_79_130521))] g) H locs → ∀ ls : Array Slot, lv_has ls 4 [(3, .int v_79_130505), (2, .int v_69_127608), (1, .int r_1_64115), (0, .ref (ad 0))] → W p l e { frames := 3, cells := 0, slots := 0, locals := 74 } s m [.ref (ad 0)].toArray below meth c H locs 0 0 (MQ below (cQv (fun nw lu => ∃ (d2 : Nat → Int32) (d4 : Nat → Int32) (d5 : Nat → Int32) (d6 : Nat → Int32) (d7 : Nat → Int32) (d8 : Nat → Int32) (d18 : Nat → Int32) (d23 : Nat → Int32) (d24 : Nat → Int32), (za 0 29 d2) ∧ (za 0 1 d6) ∧ (lu = [(2, .inl (cy 0, 30, .inl d2)), (4, .inl (cy 0, 5, .inl d4)), (5, .inl (cy 0, 5, .inl d5)), (6, .inl (cy 2, 5, .inl d6)), (7, .inl (cy 0, 120, .inl d7)), (8, .inl (cy 0, 120, .inl d8)), (18, .inl (cy 0, 60, .inl d18)), (23, .inl (cy 0, 5, .inl d23)), (24, .inl (cy 0, 5, .inl d24))])) D 25 0 ad g A) [.ref (ad 0)].toArray s 0 0 A) (F0 m 79 ls [])  := by
                      intro d_79_130677
                      induction d_79_130677 with
                      | zero => intro v_79_130505 c_79_130507 c_79_130509 c_79_130511 c_79_130513 c_79_130515 c_79_130517 c_79_130519 c_79_130521 z_79_130506 zc_79_130508 zc_79_130510 zc_79_130512 zc_79_130514 zc_79_130516 zc_79_130518 zc_79_130520 zc_79_130522 mu_79_130678; exact absurd mu_79_130678 (Nat.not_lt_zero _)
                      | succ d_79_130677 ih_79_130679 =>
                        intro v_79_130505 c_79_130507 c_79_130509 c_79_130511 c_79_130513 c_79_130515 c_79_130517 c_79_130519 c_79_130521 z_79_130506 zc_79_130508 zc_79_130510 zc_79_130512 zc_79_130514 zc_79_130516 zc_79_130518 zc_79_130520 zc_79_130522 mu_79_130678 H locs hO ls hl
                        refine lv_iload_n hx hb ddX12_goesBy_79 rfl (lv_at hl 0 rfl) ?_
                        refine lv_iload_n hx hb ddX12_goesBy_80 rfl (lv_at hl 2 rfl) ?_
                        refine lv_icmp_ge (tgt := 133) hx hb ddX12_goesBy_81 (by decide) (fun h_81_130680 => ?_) (fun h_81_130680 => ?_)
                        · have q_81_130755 := zr_le h_81_130680
                          obtain ⟨v_133_130756, e_133_130757, z_133_130758, q_133_130759⟩ := zi_inc (e := 1) (f := 4) 1 z_74_129161 (by decide)
                          refine lv_iinc (v := v_133_130756) (lv' := [(2, .int v_133_130756), (3, .int v_79_130505), (1, .int r_1_64115), (0, .ref (ad 0))]) hx hb ddX12_goesBy_133 hl (k := 1) rfl e_133_130757 (by decide) rfl (fun ls hl => ?_)
                          refine lv_goto (tgt := 69) hx hb ddX12_goesBy_136 (by decide) ?_
                          exact ih_69_129152 v_133_130756 c_79_130507 c_79_130509 c_79_130511 c_79_130513 c_79_130515 c_79_130517 c_79_130519 c_79_130521 (zi_w (c := 0) (d := 4) z_133_130758 (by decide)) zc_79_130508 zc_79_130510 zc_79_130512 zc_79_130514 zc_79_130516 zc_79_130518 zc_79_130520 zc_79_130522 (zm_up q_133_130759 ((zi_w (c := 0) (d := 4) z_133_130758 (by decide))).2 (by decide) mu_69_129151) _ _ hO ls (lv_sub hl [0, 2, 3] rfl)
                        · have q_81_130760 := zr_nle h_81_130680
                          have z_81_130761 : zi 0 29 v_79_130505 := zu_lt q_81_130760 z_79_130506 z_1_64118 (by decide)
                          have z_81_130762 : zi 1 30 r_1_64115 := zd_lt q_81_130760 z_79_130506 z_1_64118 (by decide)
                          refine lv_aload_n hx hb ddX12_goesBy_84 rfl (lv_at hl 3 rfl) ?_
                          refine cg_get hC hO 0 (by decide) o0 rfl i_X12 42 (by decide) (List.mem_of_getElem? (i := 9) rfl) rfl ddX12_goesBy_85 ?_
                          refine lv_aload_n hx hb ddX12_goesBy_88 rfl (lv_at hl 3 rfl) ?_
                          refine cg_get hC hO 0 (by decide) o0 rfl i_X12 47 (by decide) (List.mem_of_getElem? (i := 8) rfl) rfl ddX12_goesBy_89 ?_
                          refine lv_iload_n hx hb ddX12_goesBy_92 rfl (lv_at hl 0 rfl) ?_
                          refine zg_iald hC hO 2 (by decide) rfl z_1_64117 (zi_in z_81_130761 (by decide)) ddX12_goesBy_93 (fun v_93_130763 z_93_130764 => ?_)
                          refine zg_iald hC hO 1 (by decide) a1 (za_all _) (zi_in z_93_130764 (by decide)) ddX12_goesBy_94 (fun v_94_130765 z_94_130766 => ?_)
                          refine lv_aload_n hx hb ddX12_goesBy_95 rfl (lv_at hl 3 rfl) ?_
                          refine cg_get hC hO 0 (by decide) o0 rfl i_X12 19 (by decide) (List.mem_of_getElem? (i := 21) rfl) rfl ddX12_goesBy_96 ?_
                          refine lv_iconst (v := 4) hx hb ddX12_goesBy_99 (by decide) ?_
                          refine lv_aload_n hx hb ddX12_goesBy_100 rfl (lv_at hl 3 rfl) ?_
                          refine cg_get hC hO 0 (by decide) o0 rfl i_X12 36 (by decide) (List.mem_of_getElem? (i := 20) rfl) rfl ddX12_goesBy_101 ?_
                          refine lv_imul hx hb ddX12_goesBy_104 ?_
                          refine zg_top2 (P := fun v => zi 0 4 v) (E := fun v => v.toInt = 4 * (x0_36 : Int32).toInt) (zi_mulk (zi_k (a := 4) (b := 4) (x := 4) rfl) b0_36 (n := 4) (by decide) (by decide)) (fun v_104_130767 z_104_130768 q_104_130769 => ?_)
                          refine lv_iload_n hx hb ddX12_goesBy_105 rfl (lv_at hl 1 rfl) ?_
                          refine lv_iadd hx hb ddX12_goesBy_106 ?_
                          refine zg_top2 (P := fun v => zi 0 7 v) (E := fun v => v.toInt = (v_104_130767 : Int32).toInt + (v_69_127608 : Int32).toInt) (zi_add z_104_130768 z_74_129161 (by decide)) (fun v_106_130770 z_106_130771 q_106_130772 => ?_)
                          refine zg_iald hC hO 10 (by decide) a10 (za_all _) (zi_in z_106_130771 (by decide)) ddX12_goesBy_107 (fun v_107_130773 z_107_130774 => ?_)
                          refine lv_iadd hx hb ddX12_goesBy_108 ?_
                          refine lv_topi (fun v_108_130775 _ => ?_)
                          refine lv_aload_n hx hb ddX12_goesBy_109 rfl (lv_at hl 3 rfl) ?_
                          refine cg_get hC hO 0 (by decide) o0 rfl i_X12 57 (by decide) (List.mem_of_getElem? (i := 22) rfl) rfl ddX12_goesBy_110 ?_
                          have J_127_130811 : ∀ (c_127_130795 : Nat → Int32) (c_127_130797 : Nat → Int32) (c_127_130799 : Nat → Int32) (c_127_130801 : Nat → Int32) (c_127_130803 : Nat → Int32) (c_127_130805 : Nat → Int32) (c_127_130807 : Nat → Int32) (c_127_130809 : Nat → Int32), za (-2147483648) 2147483647 c_127_130795 → za (-2147483648) 2147483647 c_127_130797 → za 0 1 c_127_130799 → za (-2147483648) 2147483647 c_127_130801 → za (-2147483648) 2147483647 c_127_130803 → za (-2147483648) 2147483647 c_127_130805 → za (-2147483648) 2147483647 c_127_130807 → za (-2147483648) 2147483647 c_127_130809 → ∀ (H : Heap) (locs : List Loc), cO D cy A s.heap s 25 ad (cup [(2, .inl (cy 0, 30, .inl d2_1_64116)), (4, .inl (cy 0, 5, .inl c_127_130795)), (5, .inl (cy 0, 5, .inl c_127_130797)), (6, .inl (cy 2, 5, .inl c_127_130799)), (7, .inl (cy 0, 120, .inl c_127_130801)), (8, .inl (cy 0, 120, .inl c_127_130803)), (18, .inl (cy 0, 60, .inl c_127_130805)), (23, .inl (cy 0, 5, .inl c_127_130807)), (24, .inl (cy 0, 5, .inl c_127_130809))] g) H locs → ∀ ls : Array Slot, lv_has ls 4 [(3, .int v_79_130505), (2, .int v_69_127608), (1, .int r_1_64115), (0, .ref (ad 0))] → W p l e { frames := 3, cells := 0, slots := 0, locals := 74 } s m [.ref (ad 0)].toArray below meth c H locs 0 0 (MQ below (cQv (fun nw lu => ∃ (d2 : Nat → Int32) (d4 : Nat → Int32) (d5 : Nat → Int32) (d6 : Nat → Int32) (d7 : Nat → Int32) (d8 : Nat → Int32) (d18 : Nat → Int32) (d23 : Nat → Int32) (d24 : Nat → Int32), (za 0 29 d2) ∧ (za 0 1 d6) ∧ (lu = [(2, .inl (cy 0, 30, .inl d2)), (4, .inl (cy 0, 5, .inl d4)), (5, .inl (cy 0, 5, .inl d5)), (6, .inl (cy 2, 5, .inl d6)), (7, .inl (cy 0, 120, .inl d7)), (8, .inl (cy 0, 120, .inl d8)), (18, .inl (cy 0, 60, .inl d18)), (23, .inl (cy 0, 5, .inl d23)), (24, .inl (cy 0, 5, .inl d24))])) D 25 0 ad g A) [.ref (ad 0)].toArray s 0 0 A) (F0 m 127 ls []) := by
                            intro c_127_130795 c_127_130797 c_127_130799 c_127_130801 c_127_130803 c_127_130805 c_127_130807 c_127_130809 zc_127_130796 zc_127_130798 zc_127_130800 zc_127_130802 zc_127_130804 zc_127_130806 zc_127_130808 zc_127_130810 H locs hO ls hl
                            obtain ⟨v_127_130812, e_127_130813, z_127_130814, q_127_130815⟩ := zi_inc (e := 1) (f := 30) 1 z_81_130761 (by decide)
                            refine lv_iinc (v := v_127_130812) (lv' := [(3, .int v_127_130812), (2, .int v_69_127608), (1, .int r_1_64115), (0, .ref (ad 0))]) hx hb ddX12_goesBy_127 hl (k := 0) rfl e_127_130813 (by decide) rfl (fun ls hl => ?_)
                            refine lv_goto (tgt := 79) hx hb ddX12_goesBy_130 (by decide) ?_
                            exact ih_79_130679 v_127_130812 c_127_130795 c_127_130797 c_127_130799 c_127_130801 c_127_130803 c_127_130805 c_127_130807 c_127_130809 (zi_w (c := 0) (d := 120) z_127_130814 (by decide)) zc_127_130796 zc_127_130798 zc_127_130800 zc_127_130802 zc_127_130804 zc_127_130806 zc_127_130808 zc_127_130810 (zm_up q_127_130815 ((zi_w (c := 0) (d := 120) z_127_130814 (by decide))).2 (by decide) mu_79_130678) _ _ hO ls (lv_sub hl [0, 1, 2, 3] rfl)
                          refine lv_icmp_gt (tgt := 127) hx hb ddX12_goesBy_113 (by decide) (fun h_113_130776 => ?_) (fun h_113_130776 => ?_)
                          · have q_113_130816 := zr_lt h_113_130776
                            have z_113_130817 : zi (-2147483648) 2147483646 x0_57 := zu_lt q_113_130816 (zi_all x0_57) (zi_all v_108_130775) (by decide)
                            have z_113_130818 : zi (-2147483647) 2147483647 v_108_130775 := zd_lt q_113_130816 (zi_all x0_57) (zi_all v_108_130775) (by decide)
                            exact J_127_130811 c_79_130507 c_79_130509 c_79_130511 c_79_130513 c_79_130515 c_79_130517 c_79_130519 c_79_130521 zc_79_130508 zc_79_130510 zc_79_130512 zc_79_130514 zc_79_130516 zc_79_130518 zc_79_130520 zc_79_130522 _ _ hO ls (lv_sub hl [0, 1, 2, 3] rfl)
                          · have q_113_130819 := zr_nlt h_113_130776
                            refine lv_aload_n hx hb ddX12_goesBy_116 rfl (lv_at hl 3 rfl) ?_
                            refine lv_aload_n hx hb ddX12_goesBy_117 rfl (lv_at hl 3 rfl) ?_
                            refine cg_get hC hO 0 (by decide) o0 rfl i_X12 47 (by decide) (List.mem_of_getElem? (i := 8) rfl) rfl ddX12_goesBy_118 ?_
                            refine lv_iload_n hx hb ddX12_goesBy_121 rfl (lv_at hl 0 rfl) ?_
                            refine zg_iald hC hO 2 (by decide) rfl z_1_64117 (zi_in z_81_130761 (by decide)) ddX12_goesBy_122 (fun v_122_130820 z_122_130821 => ?_)
                            refine lv_iload_n hx hb ddX12_goesBy_123 rfl (lv_at hl 1 rfl) ?_
                            refine cg_Vv (As := [.int v_122_130820, .int v_69_127608]) (rest := []) (mc := 0) (ms := 0) (rm := { frames := 2, cells := 0, slots := 0, locals := 48 }) hC hl.1 hO [0, 1, 10, 21, 22, 6, 23, 11, 4, 20, 5, 24, 8, 19, 13, 14, 15, 16, 17, 18, 7, 12] (by decide +kernel) (k_X12_comesBy l D cy _ _ (u0_0 := u0_0) (u0_1 := u0_1) (u0_2 := u0_2) (u0_3 := u0_3) (u0_4 := u0_4) (u0_5 := u0_5) (u0_6 := u0_6) (u0_7 := u0_7) (u0_8 := u0_8) (u0_9 := u0_9) (u0_10 := u0_10) (u0_11 := u0_11) (u0_12 := .ref (ad 9)) (u0_13 := u0_13) (u0_14 := u0_14) (u0_15 := u0_15) (c7 := c11) (c21 := c12) (u0_18 := u0_18) (c2 := c10) (c14 := c13) (u0_21 := u0_21) (u0_22 := u0_22) (u0_23 := u0_23) (u0_24 := u0_24) (c15 := c14) (u0_26 := u0_26) (c16 := c15) (u0_28 := u0_28) (u0_29 := u0_29) (u0_30 := u0_30) (c17 := c16) (c18 := c17) (u0_33 := u0_33) (u0_34 := u0_34) (c19 := c_79_130517) (x0_36 := x0_36) (u0_37 := u0_37) (u0_38 := u0_38) (u0_39 := u0_39) (u0_40 := u0_40) (u0_41 := u0_41) (c1 := c1) (c13 := c19) (c9 := c20) (c3 := c21) (c4 := c22) (u0_47 := .ref (ad 2)) (c20 := c_79_130513) (c12 := c_79_130515) (c8 := c_79_130507) (c6 := c_79_130519) (c11 := c_79_130521) (c10 := c_79_130509) (u0_54 := .ref (ad 3)) (c5 := c_79_130511) (u0_56 := .int x0_56) (u0_57 := .int x0_57) (u0_58 := u0_58) (u0_59 := u0_59) (u0_60 := u0_60) (u0_61 := u0_61) (u0_62 := u0_62) (u0_63 := u0_63) (u0_64 := u0_64) (u0_65 := u0_65) (u0_66 := u0_66) (u0_67 := u0_67) (u0_68 := u0_68) (u0_69 := u0_69) (u0_70 := u0_70) (u0_71 := u0_71) (u0_72 := u0_72) (u0_73 := u0_73) (cx := v_122_130820) (px := v_69_127608) o0 a1 a10 a21 a22 rfl rfl a11 rfl a20 rfl rfl rfl a19 a13 a14 a15 a16 a17 rfl rfl a12 b0_36 ha21 ha22 zc_79_130512 ha14 ha15 z_122_130821 z_74_129161 hF) gq_k_X12_goesBy_k_X12_comesBy_391 rfl rfl rfl 2 (by decide +kernel) ⟨Nat.le_of_ble_eq_true rfl, Nat.le_of_ble_eq_true rfl⟩ rfl (by decide) o0 rfl rfl (Nat.le_of_ble_eq_true rfl) ddX12_goesBy_124 ⟨Nat.le_of_ble_eq_true rfl, Nat.le_of_ble_eq_true rfl⟩ (fun nw_124_130822 l_124_130823 H locs hw hO => ?_)
                            obtain ⟨d5_124_130825, d6_124_130826, d8_124_130827, d10_124_130828, d11_124_130829, d12_124_130830, d19_124_130831, d20_124_130832, z_124_130833, rfl⟩ := hw
                            have hO := hO.mrg (lk := [(6, .inl (cy 2, 5, .inl d5_124_130825)), (23, .inl (cy 0, 5, .inl d6_124_130826)), (4, .inl (cy 0, 5, .inl d8_124_130827)), (5, .inl (cy 0, 5, .inl d10_124_130828)), (24, .inl (cy 0, 5, .inl d11_124_130829)), (8, .inl (cy 0, 120, .inl d12_124_130830)), (18, .inl (cy 0, 60, .inl d19_124_130831)), (7, .inl (cy 0, 120, .inl d20_124_130832))]) (lm := [(2, .inl (cy 0, 30, .inl d2_1_64116)), (4, .inl (cy 0, 5, .inl d8_124_130827)), (5, .inl (cy 0, 5, .inl d10_124_130828)), (6, .inl (cy 2, 5, .inl d5_124_130825)), (7, .inl (cy 0, 120, .inl d20_124_130832)), (8, .inl (cy 0, 120, .inl d12_124_130830)), (18, .inl (cy 0, 60, .inl d19_124_130831)), (23, .inl (cy 0, 5, .inl d6_124_130826)), (24, .inl (cy 0, 5, .inl d11_124_130829))]) rfl rfl rfl
                            exact J_127_130811 d8_124_130827 d10_124_130828 d5_124_130825 d20_124_130832 d12_124_130830 d19_124_130831 d6_124_130826 d11_124_130829 (za_all _) (za_all _) z_124_130833 (za_all _) (za_all _) (za_all _) (za_all _) (za_all _) _ _ hO ls (lv_sub hl [0, 1, 2, 3] rfl)
                    exact loop_79_130676 ((120 + 1 - (0 : Int32).toInt).toNat + 1) 0 c_69_127610 c_69_127612 c_69_127614 c_69_127616 c_69_127618 c_69_127620 c_69_127622 c_69_127624 (zi_k (a := 0) (b := 120) (x := 0) rfl) zc_69_127611 zc_69_127613 zc_69_127615 zc_69_127617 zc_69_127619 zc_69_127621 zc_69_127623 zc_69_127625 (Nat.lt_succ_self _) _ _ hO ls (lv_sub hl [0, 1, 2, 3] rfl)
              exact loop_69_129149 ((4 + 1 - (0 : Int32).toInt).toNat + 1) 0 c_7_82790 c_7_82792 c_7_82794 c_41_110717 c_41_110719 c18 c23 c24 (zi_k (a := 0) (b := 4) (x := 0) rfl) zc_7_82791 zc_7_82793 zc_7_82795 zc_41_110718 zc_41_110720 (za_all _) (za_all _) (za_all _) (Nat.lt_succ_self _) _ _ hO ls (lv_sub hl [0, 1, 2] rfl)
            · have q_44_130834 := zr_nle h_44_119942
              have z_44_130835 : zi 0 119 v_41_110715 := zu_lt q_44_130834 z_41_110716 (zi_k (a := 120) (b := 120) (x := 120) rfl) (by decide)
              refine lv_aload_n hx hb ddX12_goesBy_47 rfl (lv_at hl 2 rfl) ?_
              refine cg_get hC hO 0 (by decide) o0 rfl i_X12 48 (by decide) (List.mem_of_getElem? (i := 13) rfl) rfl ddX12_goesBy_48 ?_
              refine lv_iload_n hx hb ddX12_goesBy_51 rfl (lv_at hl 0 rfl) ?_
              refine lv_iconst (v := 0) hx hb ddX12_goesBy_52 (by decide) ?_
              refine zg_iast hC hO 7 (by decide) rfl zc_41_110718 (zi_k (a := (-2147483648)) (b := 2147483647) (x := 0) rfl) (zi_in z_44_130835 (by decide)) ddX12_goesBy_53 (fun H locs c_53_130836 zc_53_130837 hO => ?_)
              have hO : cO D cy A s.heap s 25 ad (cup [(2, .inl (cy 0, 30, .inl d2_1_64116)), (4, .inl (cy 0, 5, .inl c_7_82790)), (5, .inl (cy 0, 5, .inl c_7_82792)), (6, .inl (cy 2, 5, .inl c_7_82794)), (7, .inl (cy 0, 120, .inl c_53_130836)), (8, .inl (cy 0, 120, .inl c_41_110719)), (18, .inl (cy 0, 60, .inl c18)), (23, .inl (cy 0, 5, .inl c23)), (24, .inl (cy 0, 5, .inl c24))] g) _ _ := hO
              refine lv_aload_n hx hb ddX12_goesBy_54 rfl (lv_at hl 2 rfl) ?_
              refine cg_get hC hO 0 (by decide) o0 rfl i_X12 49 (by decide) (List.mem_of_getElem? (i := 14) rfl) rfl ddX12_goesBy_55 ?_
              refine lv_iload_n hx hb ddX12_goesBy_58 rfl (lv_at hl 0 rfl) ?_
              refine lv_iconst (v := (-1)) hx hb ddX12_goesBy_59 (by decide) ?_
              refine zg_iast hC hO 8 (by decide) rfl zc_41_110720 (zi_k (a := (-2147483648)) (b := 2147483647) (x := (-1)) rfl) (zi_in z_44_130835 (by decide)) ddX12_goesBy_60 (fun H locs c_60_130838 zc_60_130839 hO => ?_)
              have hO : cO D cy A s.heap s 25 ad (cup [(2, .inl (cy 0, 30, .inl d2_1_64116)), (4, .inl (cy 0, 5, .inl c_7_82790)), (5, .inl (cy 0, 5, .inl c_7_82792)), (6, .inl (cy 2, 5, .inl c_7_82794)), (7, .inl (cy 0, 120, .inl c_53_130836)), (8, .inl (cy 0, 120, .inl c_60_130838)), (18, .inl (cy 0, 60, .inl c18)), (23, .inl (cy 0, 5, .inl c23)), (24, .inl (cy 0, 5, .inl c24))] g) _ _ := hO
              obtain ⟨v_61_130840, e_61_130841, z_61_130842, q_61_130843⟩ := zi_inc (e := 1) (f := 120) 1 z_44_130835 (by decide)
              refine lv_iinc (v := v_61_130840) (lv' := [(2, .int v_61_130840), (1, .int r_1_64115), (0, .ref (ad 0))]) hx hb ddX12_goesBy_61 hl (k := 0) rfl e_61_130841 (by decide) rfl (fun ls hl => ?_)
              refine lv_goto (tgt := 41) hx hb ddX12_goesBy_64 (by decide) ?_
              exact ih_41_119941 v_61_130840 c_53_130836 c_60_130838 (zi_w (c := 0) (d := 120) z_61_130842 (by decide)) zc_53_130837 zc_60_130839 (zm_up q_61_130843 ((zi_w (c := 0) (d := 120) z_61_130842 (by decide))).2 (by decide) mu_41_119940) _ _ hO ls (lv_sub hl [0, 1, 2] rfl)
        exact loop_41_119938 ((120 + 1 - (0 : Int32).toInt).toNat + 1) 0 c7 c8 (zi_k (a := 0) (b := 120) (x := 0) rfl) (za_all _) (za_all _) (Nat.lt_succ_self _) _ _ hO ls (lv_sub hl [0, 1, 2] rfl)
      · have q_9_130844 := zr_nle h_9_101375
        have z_9_130845 : zi 0 4 v_7_82788 := zu_lt q_9_130844 z_7_82789 (zi_k (a := 5) (b := 5) (x := 5) rfl) (by decide)
        refine lv_aload_n hx hb ddX12_goesBy_12 rfl (lv_at hl 2 rfl) ?_
        refine cg_get hC hO 0 (by decide) o0 rfl i_X12 50 (by decide) (List.mem_of_getElem? (i := 10) rfl) rfl ddX12_goesBy_13 ?_
        refine lv_iload_n hx hb ddX12_goesBy_16 rfl (lv_at hl 0 rfl) ?_
        refine lv_iconst (v := 0) hx hb ddX12_goesBy_17 (by decide) ?_
        refine zg_iast hC hO 4 (by decide) rfl zc_7_82791 (zi_k (a := (-2147483648)) (b := 2147483647) (x := 0) rfl) (zi_in z_9_130845 (by decide)) ddX12_goesBy_18 (fun H locs c_18_130846 zc_18_130847 hO => ?_)
        have hO : cO D cy A s.heap s 25 ad (cup [(2, .inl (cy 0, 30, .inl d2_1_64116)), (4, .inl (cy 0, 5, .inl c_18_130846)), (5, .inl (cy 0, 5, .inl c_7_82792)), (6, .inl (cy 2, 5, .inl c_7_82794)), (7, .inl (cy 0, 120, .inl c7)), (8, .inl (cy 0, 120, .inl c8)), (18, .inl (cy 0, 60, .inl c18)), (23, .inl (cy 0, 5, .inl c23)), (24, .inl (cy 0, 5, .inl c24))] g) _ _ := hO
        refine lv_aload_n hx hb ddX12_goesBy_19 rfl (lv_at hl 2 rfl) ?_
        refine cg_get hC hO 0 (by decide) o0 rfl i_X12 53 (by decide) (List.mem_of_getElem? (i := 11) rfl) rfl ddX12_goesBy_20 ?_
        refine lv_iload_n hx hb ddX12_goesBy_23 rfl (lv_at hl 0 rfl) ?_
        refine lv_iconst (v := 0) hx hb ddX12_goesBy_24 (by decide) ?_
        refine zg_iast hC hO 5 (by decide) rfl zc_7_82793 (zi_k (a := (-2147483648)) (b := 2147483647) (x := 0) rfl) (zi_in z_9_130845 (by decide)) ddX12_goesBy_25 (fun H locs c_25_130848 zc_25_130849 hO => ?_)
        have hO : cO D cy A s.heap s 25 ad (cup [(2, .inl (cy 0, 30, .inl d2_1_64116)), (4, .inl (cy 0, 5, .inl c_18_130846)), (5, .inl (cy 0, 5, .inl c_25_130848)), (6, .inl (cy 2, 5, .inl c_7_82794)), (7, .inl (cy 0, 120, .inl c7)), (8, .inl (cy 0, 120, .inl c8)), (18, .inl (cy 0, 60, .inl c18)), (23, .inl (cy 0, 5, .inl c23)), (24, .inl (cy 0, 5, .inl c24))] g) _ _ := hO
        refine lv_aload_n hx hb ddX12_goesBy_26 rfl (lv_at hl 2 rfl) ?_
        refine cg_get hC hO 0 (by decide) o0 rfl i_X12 55 (by decide) (List.mem_of_getElem? (i := 12) rfl) rfl ddX12_goesBy_27 ?_
        refine lv_iload_n hx hb ddX12_goesBy_30 rfl (lv_at hl 0 rfl) ?_
        refine lv_iconst (v := 0) hx hb ddX12_goesBy_31 (by decide) ?_
        refine zg_zast hC hO 6 (by decide) rfl zc_7_82795 (zi_k (a := 0) (b := 1) (x := 0) rfl) (zi_in z_9_130845 (by decide)) ddX12_goesBy_32 (fun H locs c_32_130850 zc_32_130851 hO => ?_)
        have hO : cO D cy A s.heap s 25 ad (cup [(2, .inl (cy 0, 30, .inl d2_1_64116)), (4, .inl (cy 0, 5, .inl c_18_130846)), (5, .inl (cy 0, 5, .inl c_25_130848)), (6, .inl (cy 2, 5, .inl c_32_130850)), (7, .inl (cy 0, 120, .inl c7)), (8, .inl (cy 0, 120, .inl c8)), (18, .inl (cy 0, 60, .inl c18)), (23, .inl (cy 0, 5, .inl c23)), (24, .inl (cy 0, 5, .inl c24))] g) _ _ := hO
        obtain ⟨v_33_130852, e_33_130853, z_33_130854, q_33_130855⟩ := zi_inc (e := 1) (f := 5) 1 z_9_130845 (by decide)
        refine lv_iinc (v := v_33_130852) (lv' := [(2, .int v_33_130852), (1, .int r_1_64115), (0, .ref (ad 0))]) hx hb ddX12_goesBy_33 hl (k := 0) rfl e_33_130853 (by decide) rfl (fun ls hl => ?_)
        refine lv_goto (tgt := 7) hx hb ddX12_goesBy_36 (by decide) ?_
        exact ih_7_101374 v_33_130852 c_18_130846 c_25_130848 c_32_130850 (zi_w (c := 0) (d := 5) z_33_130854 (by decide)) zc_18_130847 zc_25_130849 zc_32_130851 (zm_up q_33_130855 ((zi_w (c := 0) (d := 5) z_33_130854 (by decide))).2 (by decide) mu_7_101373) _ _ hO ls (lv_sub hl [0, 1, 2] rfl)
  exact loop_7_101371 ((5 + 1 - (0 : Int32).toInt).toNat + 1) 0 c4 c5 c6 (zi_k (a := 0) (b := 5) (x := 0) rfl) (za_all _) (za_all _) ha6 (Nat.lt_succ_self _) _ _ hO ls (lv_sub hl [0, 1, 2] rfl)

