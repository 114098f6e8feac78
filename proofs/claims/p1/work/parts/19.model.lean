theorem dX12_heaps_0 : decode cX12_heaps 0 = .ok (.iload_n 1, 1) := by decide +kernel
theorem dX12_heaps_1 : decode cX12_heaps 1 = .ok (.iconst 1, 1) := by decide +kernel
theorem dX12_heaps_2 : decode cX12_heaps 2 = .ok (.bipush 99, 2) := by decide +kernel
theorem dX12_heaps_4 : decode cX12_heaps 4 = .ok (.invokestatic 366, 3) := by decide +kernel
theorem dX12_heaps_7 : decode cX12_heaps 7 = .ok (.ifCond .eq 37, 3) := by decide +kernel
theorem dX12_heaps_10 : decode cX12_heaps 10 = .ok (.iload_n 2, 1) := by decide +kernel
theorem dX12_heaps_11 : decode cX12_heaps 11 = .ok (.iconst 0, 1) := by decide +kernel
theorem dX12_heaps_12 : decode cX12_heaps 12 = .ok (.sipush 600, 3) := by decide +kernel
theorem dX12_heaps_15 : decode cX12_heaps 15 = .ok (.invokestatic 366, 3) := by decide +kernel
theorem dX12_heaps_18 : decode cX12_heaps 18 = .ok (.ifCond .eq 26, 3) := by decide +kernel
theorem dX12_heaps_21 : decode cX12_heaps 21 = .ok (.iload_n 3, 1) := by decide +kernel
theorem dX12_heaps_22 : decode cX12_heaps 22 = .ok (.iconst 0, 1) := by decide +kernel
theorem dX12_heaps_23 : decode cX12_heaps 23 = .ok (.iconst 1, 1) := by decide +kernel
theorem dX12_heaps_24 : decode cX12_heaps 24 = .ok (.invokestatic 366, 3) := by decide +kernel
theorem dX12_heaps_27 : decode cX12_heaps 27 = .ok (.ifCond .eq 17, 3) := by decide +kernel
theorem dX12_heaps_30 : decode cX12_heaps 30 = .ok (.aload_n 0, 1) := by decide +kernel
theorem dX12_heaps_31 : decode cX12_heaps 31 = .ok (.getfield 98, 3) := by decide +kernel
theorem dX12_heaps_34 : decode cX12_heaps 34 = .ok (.iconst 0, 1) := by decide +kernel
theorem dX12_heaps_35 : decode cX12_heaps 35 = .ok (.iaload, 1) := by decide +kernel
theorem dX12_heaps_36 : decode cX12_heaps 36 = .ok (.bipush 6, 2) := by decide +kernel
theorem dX12_heaps_38 : decode cX12_heaps 38 = .ok (.iadd, 1) := by decide +kernel
theorem dX12_heaps_39 : decode cX12_heaps 39 = .ok (.bipush 24, 2) := by decide +kernel
theorem dX12_heaps_41 : decode cX12_heaps 41 = .ok (.if_icmp .le 5, 3) := by decide +kernel
theorem dX12_heaps_44 : decode cX12_heaps 44 = .ok (.iconst (-1), 1) := by decide +kernel
theorem dX12_heaps_45 : decode cX12_heaps 45 = .ok (.ireturn, 1) := by decide +kernel
theorem dX12_heaps_46 : decode cX12_heaps 46 = .ok (.iconst (-1), 1) := by decide +kernel
theorem dX12_heaps_47 : decode cX12_heaps 47 = .ok (.istore 4, 2) := by decide +kernel
theorem dX12_heaps_49 : decode cX12_heaps 49 = .ok (.iconst 0, 1) := by decide +kernel
theorem dX12_heaps_50 : decode cX12_heaps 50 = .ok (.istore 5, 2) := by decide +kernel
theorem dX12_heaps_52 : decode cX12_heaps 52 = .ok (.iconst 1, 1) := by decide +kernel
theorem dX12_heaps_53 : decode cX12_heaps 53 = .ok (.istore 6, 2) := by decide +kernel
theorem dX12_heaps_55 : decode cX12_heaps 55 = .ok (.iload 6, 2) := by decide +kernel
theorem dX12_heaps_57 : decode cX12_heaps 57 = .ok (.bipush 6, 2) := by decide +kernel
theorem dX12_heaps_59 : decode cX12_heaps 59 = .ok (.if_icmp .gt 123, 3) := by decide +kernel
theorem dX12_heaps_62 : decode cX12_heaps 62 = .ok (.iload 6, 2) := by decide +kernel
theorem dX12_heaps_64 : decode cX12_heaps 64 = .ok (.iload_n 1, 1) := by decide +kernel
theorem dX12_heaps_65 : decode cX12_heaps 65 = .ok (.if_icmp .gt 117, 3) := by decide +kernel
theorem dX12_heaps_68 : decode cX12_heaps 68 = .ok (.aload_n 0, 1) := by decide +kernel
theorem dX12_heaps_69 : decode cX12_heaps 69 = .ok (.invokevirtual 400, 3) := by decide +kernel
theorem dX12_heaps_72 : decode cX12_heaps 72 = .ok (.iconst 0, 1) := by decide +kernel
theorem dX12_heaps_73 : decode cX12_heaps 73 = .ok (.istore 7, 2) := by decide +kernel
theorem dX12_heaps_75 : decode cX12_heaps 75 = .ok (.iload 7, 2) := by decide +kernel
theorem dX12_heaps_77 : decode cX12_heaps 77 = .ok (.iload 6, 2) := by decide +kernel
theorem dX12_heaps_79 : decode cX12_heaps 79 = .ok (.if_icmp .ge 33, 3) := by decide +kernel
theorem dX12_heaps_82 : decode cX12_heaps 82 = .ok (.aload_n 0, 1) := by decide +kernel
theorem dX12_heaps_83 : decode cX12_heaps 83 = .ok (.iload_n 2, 1) := by decide +kernel
theorem dX12_heaps_84 : decode cX12_heaps 84 = .ok (.iload_n 1, 1) := by decide +kernel
theorem dX12_heaps_85 : decode cX12_heaps 85 = .ok (.iload 6, 2) := by decide +kernel
theorem dX12_heaps_87 : decode cX12_heaps 87 = .ok (.idiv, 1) := by decide +kernel
theorem dX12_heaps_88 : decode cX12_heaps 88 = .ok (.iload 7, 2) := by decide +kernel
theorem dX12_heaps_90 : decode cX12_heaps 90 = .ok (.iload_n 1, 1) := by decide +kernel
theorem dX12_heaps_91 : decode cX12_heaps 91 = .ok (.iload 6, 2) := by decide +kernel
theorem dX12_heaps_93 : decode cX12_heaps 93 = .ok (.irem, 1) := by decide +kernel
theorem dX12_heaps_94 : decode cX12_heaps 94 = .ok (.if_icmp .ge 7, 3) := by decide +kernel
theorem dX12_heaps_97 : decode cX12_heaps 97 = .ok (.iconst 1, 1) := by decide +kernel
theorem dX12_heaps_98 : decode cX12_heaps 98 = .ok (.goto 4, 3) := by decide +kernel
theorem dX12_heaps_101 : decode cX12_heaps 101 = .ok (.iconst 0, 1) := by decide +kernel
theorem dX12_heaps_102 : decode cX12_heaps 102 = .ok (.iadd, 1) := by decide +kernel
theorem dX12_heaps_103 : decode cX12_heaps 103 = .ok (.invokevirtual 430, 3) := by decide +kernel
theorem dX12_heaps_106 : decode cX12_heaps 106 = .ok (.iinc 7 1, 3) := by decide +kernel
theorem dX12_heaps_109 : decode cX12_heaps 109 = .ok (.goto (-34), 3) := by decide +kernel
theorem dX12_heaps_112 : decode cX12_heaps 112 = .ok (.aload_n 0, 1) := by decide +kernel
theorem dX12_heaps_113 : decode cX12_heaps 113 = .ok (.invokevirtual 403, 3) := by decide +kernel
theorem dX12_heaps_116 : decode cX12_heaps 116 = .ok (.iconst 0, 1) := by decide +kernel
theorem dX12_heaps_117 : decode cX12_heaps 117 = .ok (.istore 7, 2) := by decide +kernel
theorem dX12_heaps_119 : decode cX12_heaps 119 = .ok (.aload_n 0, 1) := by decide +kernel
theorem dX12_heaps_120 : decode cX12_heaps 120 = .ok (.getfield 98, 3) := by decide +kernel
theorem dX12_heaps_123 : decode cX12_heaps 123 = .ok (.iconst 0, 1) := by decide +kernel
theorem dX12_heaps_124 : decode cX12_heaps 124 = .ok (.iaload, 1) := by decide +kernel
theorem dX12_heaps_125 : decode cX12_heaps 125 = .ok (.istore 8, 2) := by decide +kernel
theorem dX12_heaps_127 : decode cX12_heaps 127 = .ok (.iload 8, 2) := by decide +kernel
theorem dX12_heaps_129 : decode cX12_heaps 129 = .ok (.aload_n 0, 1) := by decide +kernel
theorem dX12_heaps_130 : decode cX12_heaps 130 = .ok (.getfield 379, 3) := by decide +kernel
theorem dX12_heaps_133 : decode cX12_heaps 133 = .ok (.if_icmp .ge 20, 3) := by decide +kernel
theorem dX12_heaps_136 : decode cX12_heaps 136 = .ok (.iload 7, 2) := by decide +kernel
theorem dX12_heaps_138 : decode cX12_heaps 138 = .ok (.aload_n 0, 1) := by decide +kernel
theorem dX12_heaps_139 : decode cX12_heaps 139 = .ok (.iload 8, 2) := by decide +kernel
theorem dX12_heaps_141 : decode cX12_heaps 141 = .ok (.invokevirtual 397, 3) := by decide +kernel
theorem dX12_heaps_144 : decode cX12_heaps 144 = .ok (.iadd, 1) := by decide +kernel
theorem dX12_heaps_145 : decode cX12_heaps 145 = .ok (.istore 7, 2) := by decide +kernel
theorem dX12_heaps_147 : decode cX12_heaps 147 = .ok (.iinc 8 1, 3) := by decide +kernel
theorem dX12_heaps_150 : decode cX12_heaps 150 = .ok (.goto (-23), 3) := by decide +kernel
theorem dX12_heaps_153 : decode cX12_heaps 153 = .ok (.iload 4, 2) := by decide +kernel
theorem dX12_heaps_155 : decode cX12_heaps 155 = .ok (.ifCond .lt 13, 3) := by decide +kernel
theorem dX12_heaps_158 : decode cX12_heaps 158 = .ok (.iload 7, 2) := by decide +kernel
theorem dX12_heaps_160 : decode cX12_heaps 160 = .ok (.iload 5, 2) := by decide +kernel
theorem dX12_heaps_162 : decode cX12_heaps 162 = .ok (.if_icmp .lt 6, 3) := by decide +kernel
theorem dX12_heaps_165 : decode cX12_heaps 165 = .ok (.goto 11, 3) := by decide +kernel
theorem dX12_heaps_168 : decode cX12_heaps 168 = .ok (.iload 6, 2) := by decide +kernel
theorem dX12_heaps_170 : decode cX12_heaps 170 = .ok (.istore 4, 2) := by decide +kernel
theorem dX12_heaps_172 : decode cX12_heaps 172 = .ok (.iload 7, 2) := by decide +kernel
theorem dX12_heaps_174 : decode cX12_heaps 174 = .ok (.istore 5, 2) := by decide +kernel
theorem dX12_heaps_176 : decode cX12_heaps 176 = .ok (.iinc 6 1, 3) := by decide +kernel
theorem dX12_heaps_179 : decode cX12_heaps 179 = .ok (.goto (-124), 3) := by decide +kernel
theorem dX12_heaps_182 : decode cX12_heaps 182 = .ok (.iload_n 3, 1) := by decide +kernel
theorem dX12_heaps_183 : decode cX12_heaps 183 = .ok (.ifCond .ne 8, 3) := by decide +kernel
theorem dX12_heaps_186 : decode cX12_heaps 186 = .ok (.iload 4, 2) := by decide +kernel
theorem dX12_heaps_188 : decode cX12_heaps 188 = .ok (.goto 5, 3) := by decide +kernel
theorem dX12_heaps_191 : decode cX12_heaps 191 = .ok (.iload 5, 2) := by decide +kernel
theorem dX12_heaps_193 : decode cX12_heaps 193 = .ok (.ireturn, 1) := by decide +kernel
def wq_c_X12_heaps : List Cond := Cond.code yX12_heaps cX12_heaps 9 (some .int) :: (([Cond.methodLink RX12 366 yX12_isIn, Cond.static yX12_isIn, Cond.initialized RX12, Cond.code yX12_isIn cX12_isIn 3 (some .boolean), Cond.fieldLink RX12 98 "CrowTollModel" "state" "[I", Cond.methodLink RX12 400 yX12_layDay, Cond.instanceMethod yX12_layDay, Cond.selects RX12 yX12_layDay yX12_layDay, Cond.code yX12_layDay cX12_layDay 2 none, Cond.fieldLink RX12 379 "CrowTollModel" "dMany" "I", Cond.fieldLink RX12 382 "CrowTollModel" "dLimit" "I", Cond.fieldLink RX12 107 "CrowTollModel" "dFar" "[I", Cond.methodLink RX12 385 yX12_laySeats, Cond.instanceMethod yX12_laySeats, Cond.selects RX12 yX12_laySeats yX12_laySeats, Cond.code yX12_laySeats cX12_laySeats 3 none, Cond.methodLink RX12 370 yX12_postMany, Cond.instanceMethod yX12_postMany, Cond.selects RX12 yX12_postMany yX12_postMany, Cond.code yX12_postMany cX12_postMany 1 (some .int), Cond.fieldLink RX12 24 "CrowTollModel" "posts" "[I", Cond.fieldLink RX12 286 "CrowTollModel" "bank" "I", Cond.methodLink RX12 403 yX12_goesBy, Cond.instanceMethod yX12_goesBy, Cond.selects RX12 yX12_goesBy yX12_goesBy, Cond.code yX12_goesBy cX12_goesBy 4 none, Cond.methodLink RX12 388 yX12_layTurns, Cond.instanceMethod yX12_layTurns, Cond.selects RX12 yX12_layTurns yX12_layTurns, Cond.code yX12_layTurns cX12_layTurns 4 (some .int), Cond.fieldLink RX12 137 "CrowTollModel" "dComes" "[Z", Cond.fieldLink RX12 116 "CrowTollModel" "turnOf" "[I", Cond.fieldLink RX12 101 "CrowTollModel" "dMinute" "[I", Cond.fieldLink RX12 125 "CrowTollModel" "count" "[I", Cond.fieldLink RX12 134 "CrowTollModel" "countedAll" "[I", Cond.fieldLink RX12 140 "CrowTollModel" "hasCounted" "[Z", Cond.fieldLink RX12 119 "CrowTollModel" "paid" "[I", Cond.fieldLink RX12 122 "CrowTollModel" "counted" "[I", Cond.methodLink RX12 430 yX12_add, Cond.instanceMethod yX12_add, Cond.selects RX12 yX12_add yX12_add, Cond.code yX12_add cX12_add 3 none, Cond.fieldLink RX12 104 "CrowTollModel" "dSacks" "[I", Cond.methodLink RX12 397 yX12_paidBy, Cond.instanceMethod yX12_paidBy, Cond.selects RX12 yX12_paidBy yX12_paidBy, Cond.code yX12_paidBy cX12_paidBy 4 (some .int)] : List Cond) ++ wsX120)
set_option maxRecDepth 20000 in
theorem gr_c_X12_heaps_c_X12_isIn : GoodIn wq_c_X12_heaps wq_c_X12_isIn := List.forall_mem_cons.mpr ⟨⟨(List.mem_of_getElem? (i := 4) rfl), good_of_word rfl⟩, (fun _ h => absurd h List.not_mem_nil)⟩
set_option maxRecDepth 20000 in
theorem gq_c_X12_heaps_c_X12_isIn_366 : GoodIn wq_c_X12_heaps (va_wsS RX12 366 yX12_isIn wq_c_X12_isIn) := goodIn_app (List.forall_mem_cons.mpr ⟨⟨(List.mem_of_getElem? (i := 1) rfl), good_of_word rfl⟩, List.forall_mem_cons.mpr ⟨⟨(List.mem_of_getElem? (i := 2) rfl), good_of_word rfl⟩, List.forall_mem_cons.mpr ⟨⟨(List.mem_of_getElem? (i := 3) rfl), good_of_word rfl⟩, (fun _ h => absurd h List.not_mem_nil)⟩⟩⟩) gr_c_X12_heaps_c_X12_isIn
set_option maxRecDepth 20000 in
theorem gr_c_X12_heaps_c_X12_layDay : GoodIn wq_c_X12_heaps wq_c_X12_layDay := List.forall_mem_cons.mpr ⟨⟨(List.mem_of_getElem? (i := 9) rfl), good_of_word rfl⟩, List.forall_mem_append.mpr ⟨List.forall_mem_cons.mpr ⟨⟨(List.mem_of_getElem? (i := 5) rfl), good_of_word rfl⟩, List.forall_mem_cons.mpr ⟨⟨(List.mem_of_getElem? (i := 10) rfl), good_of_word rfl⟩, List.forall_mem_cons.mpr ⟨⟨(List.mem_of_getElem? (i := 11) rfl), good_of_word rfl⟩, List.forall_mem_cons.mpr ⟨⟨(List.mem_of_getElem? (i := 12) rfl), good_of_word rfl⟩, List.forall_mem_cons.mpr ⟨⟨(List.mem_of_getElem? (i := 13) rfl), good_of_word rfl⟩, List.forall_mem_cons.mpr ⟨⟨(List.mem_of_getElem? (i := 14) rfl), good_of_word rfl⟩, List.forall_mem_cons.mpr ⟨⟨(List.mem_of_getElem? (i := 15) rfl), good_of_word rfl⟩, List.forall_mem_cons.mpr ⟨⟨(List.mem_of_getElem? (i := 3) rfl), good_of_word rfl⟩, List.forall_mem_cons.mpr ⟨⟨(List.mem_of_getElem? (i := 16) rfl), good_of_word rfl⟩, List.forall_mem_cons.mpr ⟨⟨(List.mem_of_getElem? (i := 17) rfl), good_of_word rfl⟩, List.forall_mem_cons.mpr ⟨⟨(List.mem_of_getElem? (i := 18) rfl), good_of_word rfl⟩, List.forall_mem_cons.mpr ⟨⟨(List.mem_of_getElem? (i := 19) rfl), good_of_word rfl⟩, List.forall_mem_cons.mpr ⟨⟨(List.mem_of_getElem? (i := 20) rfl), good_of_word rfl⟩, List.forall_mem_cons.mpr ⟨⟨(List.mem_of_getElem? (i := 21) rfl), good_of_word rfl⟩, List.forall_mem_cons.mpr ⟨⟨(List.mem_of_getElem? (i := 22) rfl), good_of_word rfl⟩, (fun _ h => absurd h List.not_mem_nil)⟩⟩⟩⟩⟩⟩⟩⟩⟩⟩⟩⟩⟩⟩⟩, fun w h => ⟨(fun w h => List.mem_cons_of_mem _ (List.mem_append_right _ h)) w h, good_of_word (List.all_eq_true.mp gw_X12 w h)⟩⟩⟩
set_option maxRecDepth 20000 in
theorem gq_c_X12_heaps_c_X12_layDay_400 : GoodIn wq_c_X12_heaps (wsV RX12 400 RX12 yX12_layDay wq_c_X12_layDay) := goodIn_app (List.forall_mem_cons.mpr ⟨⟨(List.mem_of_getElem? (i := 6) rfl), good_of_word rfl⟩, List.forall_mem_cons.mpr ⟨⟨(List.mem_of_getElem? (i := 7) rfl), good_of_word rfl⟩, List.forall_mem_cons.mpr ⟨⟨(List.mem_of_getElem? (i := 8) rfl), good_of_word rfl⟩, List.forall_mem_cons.mpr ⟨⟨(List.mem_of_getElem? (i := 3) rfl), good_of_word rfl⟩, (fun _ h => absurd h List.not_mem_nil)⟩⟩⟩⟩) gr_c_X12_heaps_c_X12_layDay
set_option maxRecDepth 20000 in
theorem gr_c_X12_heaps_c_X12_goesBy : GoodIn wq_c_X12_heaps wq_c_X12_goesBy := List.forall_mem_cons.mpr ⟨⟨(List.mem_of_getElem? (i := 26) rfl), good_of_word rfl⟩, List.forall_mem_append.mpr ⟨List.forall_mem_cons.mpr ⟨⟨(List.mem_of_getElem? (i := 27) rfl), good_of_word rfl⟩, List.forall_mem_cons.mpr ⟨⟨(List.mem_of_getElem? (i := 28) rfl), good_of_word rfl⟩, List.forall_mem_cons.mpr ⟨⟨(List.mem_of_getElem? (i := 29) rfl), good_of_word rfl⟩, List.forall_mem_cons.mpr ⟨⟨(List.mem_of_getElem? (i := 3) rfl), good_of_word rfl⟩, List.forall_mem_cons.mpr ⟨⟨(List.mem_of_getElem? (i := 30) rfl), good_of_word rfl⟩, List.forall_mem_cons.mpr ⟨⟨(List.mem_of_getElem? (i := 10) rfl), good_of_word rfl⟩, List.forall_mem_cons.mpr ⟨⟨(List.mem_of_getElem? (i := 31) rfl), good_of_word rfl⟩, List.forall_mem_cons.mpr ⟨⟨(List.mem_of_getElem? (i := 32) rfl), good_of_word rfl⟩, List.forall_mem_cons.mpr ⟨⟨(List.mem_of_getElem? (i := 33) rfl), good_of_word rfl⟩, List.forall_mem_cons.mpr ⟨⟨(List.mem_of_getElem? (i := 34) rfl), good_of_word rfl⟩, List.forall_mem_cons.mpr ⟨⟨(List.mem_of_getElem? (i := 35) rfl), good_of_word rfl⟩, List.forall_mem_cons.mpr ⟨⟨(List.mem_of_getElem? (i := 36) rfl), good_of_word rfl⟩, List.forall_mem_cons.mpr ⟨⟨(List.mem_of_getElem? (i := 17) rfl), good_of_word rfl⟩, List.forall_mem_cons.mpr ⟨⟨(List.mem_of_getElem? (i := 18) rfl), good_of_word rfl⟩, List.forall_mem_cons.mpr ⟨⟨(List.mem_of_getElem? (i := 19) rfl), good_of_word rfl⟩, List.forall_mem_cons.mpr ⟨⟨(List.mem_of_getElem? (i := 20) rfl), good_of_word rfl⟩, List.forall_mem_cons.mpr ⟨⟨(List.mem_of_getElem? (i := 21) rfl), good_of_word rfl⟩, List.forall_mem_cons.mpr ⟨⟨(List.mem_of_getElem? (i := 22) rfl), good_of_word rfl⟩, List.forall_mem_cons.mpr ⟨⟨(List.mem_of_getElem? (i := 37) rfl), good_of_word rfl⟩, List.forall_mem_cons.mpr ⟨⟨(List.mem_of_getElem? (i := 38) rfl), good_of_word rfl⟩, (fun _ h => absurd h List.not_mem_nil)⟩⟩⟩⟩⟩⟩⟩⟩⟩⟩⟩⟩⟩⟩⟩⟩⟩⟩⟩⟩, fun w h => ⟨(fun w h => List.mem_cons_of_mem _ (List.mem_append_right _ h)) w h, good_of_word (List.all_eq_true.mp gw_X12 w h)⟩⟩⟩
set_option maxRecDepth 20000 in
theorem gq_c_X12_heaps_c_X12_goesBy_403 : GoodIn wq_c_X12_heaps (wsV RX12 403 RX12 yX12_goesBy wq_c_X12_goesBy) := goodIn_app (List.forall_mem_cons.mpr ⟨⟨(List.mem_of_getElem? (i := 23) rfl), good_of_word rfl⟩, List.forall_mem_cons.mpr ⟨⟨(List.mem_of_getElem? (i := 24) rfl), good_of_word rfl⟩, List.forall_mem_cons.mpr ⟨⟨(List.mem_of_getElem? (i := 25) rfl), good_of_word rfl⟩, List.forall_mem_cons.mpr ⟨⟨(List.mem_of_getElem? (i := 3) rfl), good_of_word rfl⟩, (fun _ h => absurd h List.not_mem_nil)⟩⟩⟩⟩) gr_c_X12_heaps_c_X12_goesBy
set_option maxRecDepth 20000 in
theorem gr_c_X12_heaps_c_X12_add : GoodIn wq_c_X12_heaps wq_c_X12_add := List.forall_mem_cons.mpr ⟨⟨(List.mem_of_getElem? (i := 42) rfl), good_of_word rfl⟩, List.forall_mem_append.mpr ⟨List.forall_mem_cons.mpr ⟨⟨(List.mem_of_getElem? (i := 33) rfl), good_of_word rfl⟩, List.forall_mem_cons.mpr ⟨⟨(List.mem_of_getElem? (i := 10) rfl), good_of_word rfl⟩, List.forall_mem_cons.mpr ⟨⟨(List.mem_of_getElem? (i := 43) rfl), good_of_word rfl⟩, List.forall_mem_cons.mpr ⟨⟨(List.mem_of_getElem? (i := 31) rfl), good_of_word rfl⟩, (fun _ h => absurd h List.not_mem_nil)⟩⟩⟩⟩, fun w h => ⟨(fun w h => List.mem_cons_of_mem _ (List.mem_append_right _ h)) w h, good_of_word (List.all_eq_true.mp gw_X12 w h)⟩⟩⟩
set_option maxRecDepth 20000 in
theorem gq_c_X12_heaps_c_X12_add_430 : GoodIn wq_c_X12_heaps (wsV RX12 430 RX12 yX12_add wq_c_X12_add) := goodIn_app (List.forall_mem_cons.mpr ⟨⟨(List.mem_of_getElem? (i := 39) rfl), good_of_word rfl⟩, List.forall_mem_cons.mpr ⟨⟨(List.mem_of_getElem? (i := 40) rfl), good_of_word rfl⟩, List.forall_mem_cons.mpr ⟨⟨(List.mem_of_getElem? (i := 41) rfl), good_of_word rfl⟩, List.forall_mem_cons.mpr ⟨⟨(List.mem_of_getElem? (i := 3) rfl), good_of_word rfl⟩, (fun _ h => absurd h List.not_mem_nil)⟩⟩⟩⟩) gr_c_X12_heaps_c_X12_add
set_option maxRecDepth 20000 in
theorem gr_c_X12_heaps_c_X12_paidBy : GoodIn wq_c_X12_heaps wq_c_X12_paidBy := List.forall_mem_cons.mpr ⟨⟨(List.mem_of_getElem? (i := 47) rfl), good_of_word rfl⟩, List.forall_mem_append.mpr ⟨List.forall_mem_cons.mpr ⟨⟨(List.mem_of_getElem? (i := 17) rfl), good_of_word rfl⟩, List.forall_mem_cons.mpr ⟨⟨(List.mem_of_getElem? (i := 18) rfl), good_of_word rfl⟩, List.forall_mem_cons.mpr ⟨⟨(List.mem_of_getElem? (i := 19) rfl), good_of_word rfl⟩, List.forall_mem_cons.mpr ⟨⟨(List.mem_of_getElem? (i := 3) rfl), good_of_word rfl⟩, List.forall_mem_cons.mpr ⟨⟨(List.mem_of_getElem? (i := 20) rfl), good_of_word rfl⟩, List.forall_mem_cons.mpr ⟨⟨(List.mem_of_getElem? (i := 21) rfl), good_of_word rfl⟩, List.forall_mem_cons.mpr ⟨⟨(List.mem_of_getElem? (i := 22) rfl), good_of_word rfl⟩, (fun _ h => absurd h List.not_mem_nil)⟩⟩⟩⟩⟩⟩⟩, fun w h => ⟨(fun w h => List.mem_cons_of_mem _ (List.mem_append_right _ h)) w h, good_of_word (List.all_eq_true.mp gw_X12 w h)⟩⟩⟩
set_option maxRecDepth 20000 in
theorem gq_c_X12_heaps_c_X12_paidBy_397 : GoodIn wq_c_X12_heaps (wsV RX12 397 RX12 yX12_paidBy wq_c_X12_paidBy) := goodIn_app (List.forall_mem_cons.mpr ⟨⟨(List.mem_of_getElem? (i := 44) rfl), good_of_word rfl⟩, List.forall_mem_cons.mpr ⟨⟨(List.mem_of_getElem? (i := 45) rfl), good_of_word rfl⟩, List.forall_mem_cons.mpr ⟨⟨(List.mem_of_getElem? (i := 46) rfl), good_of_word rfl⟩, List.forall_mem_cons.mpr ⟨⟨(List.mem_of_getElem? (i := 3) rfl), good_of_word rfl⟩, (fun _ h => absurd h List.not_mem_nil)⟩⟩⟩⟩) gr_c_X12_heaps_c_X12_paidBy
set_option maxHeartbeats 8000000 in
set_option maxRecDepth 100000 in
theorem c_X12_heaps (l : Launch) (D : va_G) (cy : Nat → ClassId) (ad : Nat → Nat) (g : Nat → va_E) {f0 : List Value} {c4 : Nat → Int32} {c5 : Nat → Int32} {c6 : Nat → Int32} {c7 : Nat → Int32} {c9 : Nat → Int32} {x1 : Int32} {x2 : Int32} {x3 : Int32} (o0 : g 0 = .inr (12, f0)) (f0_12 : f0[12]? = some (.ref (ad 2))) (f0_36 : f0[36]? = some (.int 0)) (f0_41 : f0[41]? = some (.ref (ad 1))) (f0_42 : f0[42]? = some (.ref (ad 4))) (f0_43 : f0[43]? = some (.ref (ad 5))) (f0_44 : f0[44]? = some (.ref (ad 3))) (f0_47 : f0[47]? = some (.ref (ad 7))) (f0_48 : f0[48]? = some (.ref (ad 8))) (f0_49 : f0[49]? = some (.ref (ad 9))) (f0_50 : f0[50]? = some (.ref (ad 10))) (f0_53 : f0[53]? = some (.ref (ad 11))) (f0_54 : f0[54]? = some (.ref (ad 6))) (f0_55 : f0[55]? = some (.ref (ad 12))) (f0_56 : f0[56]? = some (.int 0)) (f0_57 : f0[57]? = some (.int 0)) (a1 : g 1 = .inl (cy 0, 80, .inl (fun _ => 0))) (a2 : g 2 = .inl (cy 0, 2, .inl (fun _ => 0))) (a3 : g 3 = .inl (cy 0, 5, .inl (fun _ => 0))) (a4 : g 4 = .inl (cy 0, 30, .inl c4)) (a5 : g 5 = .inl (cy 0, 30, .inl c5)) (a6 : g 6 = .inl (cy 2, 30, .inl c6)) (a7 : g 7 = .inl (cy 0, 30, .inl c7)) (a8 : g 8 = .inl (cy 0, 120, .inl (fun _ => 0))) (a9 : g 9 = .inl (cy 0, 120, .inl c9)) (a10 : g 10 = .inl (cy 0, 5, .inl (fun _ => 0))) (a11 : g 11 = .inl (cy 0, 5, .inl (fun _ => 0))) (a12 : g 12 = .inl (cy 2, 5, .inl (fun _ => 0))) : cMi l yX12_heaps wq_c_X12_heaps { frames := 3, cells := 0, slots := 0, locals := 63 } 13 0 0 0 D cy ad g [.ref (ad 0), .int x1, .int x2, .int x3] (fun r nw lu => r = ans_heaps x1 x2 x3) := by
  refine cM_of (Qc := fun A => cQi (fun r nw lu => r = ans_heaps x1 x2 x3) D 13 0 ad g A) (cc := cX12_heaps) (maxL := 9) (ret := (some .int)) (by decide) rfl (Nat.le_of_ble_eq_true rfl) ?_
  intro p e s m below meth c A hC hr hlk hnm hO ls hl
  have hC : CallFix p m c cX12_heaps 9 s [.ref (ad 0), .int x1, .int x2, .int x3].toArray wq_c_X12_heaps RX12 := hC
  obtain ⟨hx, hb, hml, hown, hts⟩ := id hC
  have hl : lv_has ls 9 [(0, .ref (ad 0)), (1, .int x1), (2, .int x2), (3, .int x3)] := hl
  have i_X12 : ∀ w ∈ wsX120, w ∈ wq_c_X12_heaps := fun w h => List.mem_cons_of_mem _ (List.mem_append_right _ h)
  refine lv_iload_n hx hb dX12_heaps_0 rfl (lv_at hl 1 rfl) ?_
  refine lv_iconst (v := 1) hx hb dX12_heaps_1 (by decide) ?_
  refine lv_bipush (v := 99) hx hb dX12_heaps_2 (by decide) ?_
  refine cg_Si (As := [.int x1, .int 1, .int 99]) (rest := []) (mc := 0) (ms := 0) (rm := { frames := 0, cells := 0, slots := 0, locals := 0 }) hC hl.1 hO [] rfl (c_X12_isIn l D cy _ _ (x := x1) (y := 1) (z := 99) ) gq_c_X12_heaps_c_X12_isIn_366 rfl rfl rfl 3 (by decide +kernel) ⟨Nat.le_of_ble_eq_true rfl, Nat.le_of_ble_eq_true rfl⟩ rfl rfl (Nat.le_of_ble_eq_true rfl) dX12_heaps_4 ⟨Nat.le_of_ble_eq_true rfl, Nat.le_of_ble_eq_true rfl⟩ (fun r_4_3 nw_4_1 l_4_2 H locs hw hO => ?_)
  rcases hw with hw | hw
  · obtain ⟨hr_4_4, rfl, rfl⟩ := hw
    have hO : cO D cy A s.heap s 13 ad (cup [] g) _ _ := hO
    refine lv_if_eq (tgt := 44) hx hb dX12_heaps_7 (by decide) (fun h => absurd h (by decide)) (fun _ => ?_)
    refine lv_iload_n hx hb dX12_heaps_10 rfl (lv_at hl 2 rfl) ?_
    refine lv_iconst (v := 0) hx hb dX12_heaps_11 (by decide) ?_
    refine lv_sipush (v := 600) hx hb dX12_heaps_12 (by decide) ?_
    refine cg_Si (As := [.int x2, .int 0, .int 600]) (rest := []) (mc := 0) (ms := 0) (rm := { frames := 0, cells := 0, slots := 0, locals := 0 }) hC hl.1 hO [] rfl (c_X12_isIn l D cy _ _ (x := x2) (y := 0) (z := 600) ) gq_c_X12_heaps_c_X12_isIn_366 rfl rfl rfl 3 (by decide +kernel) ⟨Nat.le_of_ble_eq_true rfl, Nat.le_of_ble_eq_true rfl⟩ rfl rfl (Nat.le_of_ble_eq_true rfl) dX12_heaps_15 ⟨Nat.le_of_ble_eq_true rfl, Nat.le_of_ble_eq_true rfl⟩ (fun r_15_7 nw_15_5 l_15_6 H locs hw hO => ?_)
    rcases hw with hw | hw
    · obtain ⟨hr_15_8, rfl, rfl⟩ := hw
      have hO : cO D cy A s.heap s 13 ad (cup [] g) _ _ := hO
      refine lv_if_eq (tgt := 44) hx hb dX12_heaps_18 (by decide) (fun h => absurd h (by decide)) (fun _ => ?_)
      refine lv_iload_n hx hb dX12_heaps_21 rfl (lv_at hl 3 rfl) ?_
      refine lv_iconst (v := 0) hx hb dX12_heaps_22 (by decide) ?_
      refine lv_iconst (v := 1) hx hb dX12_heaps_23 (by decide) ?_
      refine cg_Si (As := [.int x3, .int 0, .int 1]) (rest := []) (mc := 0) (ms := 0) (rm := { frames := 0, cells := 0, slots := 0, locals := 0 }) hC hl.1 hO [] rfl (c_X12_isIn l D cy _ _ (x := x3) (y := 0) (z := 1) ) gq_c_X12_heaps_c_X12_isIn_366 rfl rfl rfl 3 (by decide +kernel) ⟨Nat.le_of_ble_eq_true rfl, Nat.le_of_ble_eq_true rfl⟩ rfl rfl (Nat.le_of_ble_eq_true rfl) dX12_heaps_24 ⟨Nat.le_of_ble_eq_true rfl, Nat.le_of_ble_eq_true rfl⟩ (fun r_24_11 nw_24_9 l_24_10 H locs hw hO => ?_)
      rcases hw with hw | hw
      · obtain ⟨hr_24_12, rfl, rfl⟩ := hw
        have hO : cO D cy A s.heap s 13 ad (cup [] g) _ _ := hO
        refine lv_if_eq (tgt := 44) hx hb dX12_heaps_27 (by decide) (fun h => absurd h (by decide)) (fun _ => ?_)
        refine lv_aload_n hx hb dX12_heaps_30 rfl (lv_at hl 0 rfl) ?_
        refine cg_get hC hO 0 (by decide) o0 rfl i_X12 41 (by decide) (List.mem_of_getElem? (i := 5) rfl) f0_41 dX12_heaps_31 ?_
        refine lv_iconst (v := 0) hx hb dX12_heaps_34 (by decide) ?_
        refine cg_iald hC hO 1 (by decide) a1 (cin (by decide)) dX12_heaps_35 ?_
        refine cg_ev (v := 0) (rfl) ?_
        refine lv_bipush (v := 6) hx hb dX12_heaps_36 (by decide) ?_
        refine lv_iadd hx hb dX12_heaps_38 ?_
        refine cg_ev (v := 6) (by decide) ?_
        refine lv_bipush (v := 24) hx hb dX12_heaps_39 (by decide) ?_
        refine lv_icmp_le (tgt := 46) hx hb dX12_heaps_41 (by decide) (fun _ => ?_) (fun h => absurd h (by decide))
        refine lv_iconst (v := (-1)) hx hb dX12_heaps_46 (by decide) ?_
        refine lv_istore (lv' := [(4, .int (-1)), (0, .ref (ad 0)), (1, .int x1), (2, .int x2), (3, .int x3)]) hx hb dX12_heaps_47 hl (by decide) rfl (fun ls hl => ?_)
        refine lv_iconst (v := 0) hx hb dX12_heaps_49 (by decide) ?_
        refine lv_istore (lv' := [(5, .int 0), (4, .int (-1)), (0, .ref (ad 0)), (1, .int x1), (2, .int x2), (3, .int x3)]) hx hb dX12_heaps_50 hl (by decide) rfl (fun ls hl => ?_)
        refine lv_iconst (v := 1) hx hb dX12_heaps_52 (by decide) ?_
        refine lv_istore (lv' := [(6, .int 1), (5, .int 0), (4, .int (-1)), (0, .ref (ad 0)), (1, .int x1), (2, .int x2), (3, .int x3)]) hx hb dX12_heaps_53 hl (by decide) rfl (fun ls hl => ?_)
        refine lv_iload hx hb dX12_heaps_55 (lv_at hl 0 rfl) ?_
        refine lv_bipush (v := 6) hx hb dX12_heaps_57 (by decide) ?_
        refine lv_icmp_gt (tgt := 182) hx hb dX12_heaps_59 (by decide) (fun h => absurd h (by decide)) (fun _ => ?_)
        refine lv_iload hx hb dX12_heaps_62 (lv_at hl 0 rfl) ?_
        refine lv_iload_n hx hb dX12_heaps_64 rfl (lv_at hl 4 rfl) ?_
        refine lv_icmp_gt (tgt := 182) hx hb dX12_heaps_65 (by decide) (fun h => (show False from absurd h (Int32.not_lt.mpr hr_4_4.1)).elim) (fun _ => ?_)
        refine lv_aload_n hx hb dX12_heaps_68 rfl (lv_at hl 3 rfl) ?_
        refine cg_Vv (As := []) (rest := []) (mc := 0) (ms := 0) (rm := { frames := 2, cells := 0, slots := 0, locals := 42 }) hC hl.1 hO [0, 1, 3, 2] rfl (c_X12_layDay l D cy _ _ (f0 := f0) (xm := 0) (xl := 0) o0 f0_12 f0_36 f0_41 f0_44 f0_56 f0_57 a1 a3 a2) gq_c_X12_heaps_c_X12_layDay_400 rfl rfl rfl 0 (by decide +kernel) ⟨Nat.le_of_ble_eq_true rfl, Nat.le_of_ble_eq_true rfl⟩ rfl (by decide) o0 rfl rfl (Nat.le_of_ble_eq_true rfl) dX12_heaps_69 ⟨Nat.le_of_ble_eq_true rfl, Nat.le_of_ble_eq_true rfl⟩ (fun nw_69_13 l_69_14 H locs hw hO => ?_)
        obtain rfl := hw
        have hO : cO D cy A s.heap s 13 ad (cup [(3, .inl (cy 0, 5, .inl (fun _ => 0))), (0, .inr (12, ((f0.set 56 (.int 0)).set 57 (.int 10000))))] g) _ _ := hO
        refine lv_iconst (v := 0) hx hb dX12_heaps_72 (by decide) ?_
        refine lv_istore (lv' := [(7, .int 0), (6, .int 1), (5, .int 0), (4, .int (-1)), (0, .ref (ad 0)), (1, .int x1), (2, .int x2), (3, .int x3)]) hx hb dX12_heaps_73 hl (by decide) rfl (fun ls hl => ?_)
        have hO := hO.note 4 (e := .inl (cy 0, 30, .inl c4)) a4
        have hO := hO.note 5 (e := .inl (cy 0, 30, .inl c5)) a5
        have hO := hO.note 6 (e := .inl (cy 2, 30, .inl c6)) a6
        have hO : cO D cy A s.heap s 13 ad (cup [(3, .inl (cy 0, 5, .inl (fun _ => 0))), (0, .inr (12, ((f0.set 56 (.int 0)).set 57 (.int 10000)))), (4, .inl (cy 0, 30, .inl c4)), (5, .inl (cy 0, 30, .inl c5)), (6, .inl (cy 2, 30, .inl c6))] g) _ _ := hO
        have loop_75_16 : ∀ (d_75_17 : Nat) (k : Nat) (g4 : Nat → Int32) (g5 : Nat → Int32) (g6 : Nat → Int32), (k ≤ 1) → 1 - k < d_75_17 → ∀ (H : Heap) (locs : List Loc), cO D cy A s.heap s 13 ad (cup [(3, .inl (cy 0, 5, .inl (fun _ => 0))), (0, .inr (12, ((f0.set 56 (.int (nI k))).set 57 (.int 10000)))), (4, .inl (cy 0, 30, .inl g4)), (5, .inl (cy 0, 30, .inl g5)), (6, .inl (cy 2, 30, .inl g6))] g) H locs → ∀ ls : Array Slot, lv_has ls 9 [(7, .int (nI k)), (6, .int 1), (5, .int 0), (4, .int (-1)), (0, .ref (ad 0)), (1, .int x1), (2, .int x2), (3, .int x3)] → W p l e { frames := 3, cells := 0, slots := 0, locals := 63 } s m [.ref (ad 0), .int x1, .int x2, .int x3].toArray below meth c H locs 0 0 (MQ below (cQi (fun r nw lu => r = ans_heaps x1 x2 x3) D 13 0 ad g A) [.ref (ad 0), .int x1, .int x2, .int x3].toArray s 0 0 A) (F0 m 75 ls []) := by
          intro d_75_17
          induction d_75_17 with
          | zero => intro k g4 g5 g6 hk mu_75_18; exact absurd mu_75_18 (Nat.not_lt_zero _)
          | succ d_75_17 ih_75_19 =>
            intro k g4 g5 g6 hk mu_75_18 H locs hO ls hl
            refine lv_iload hx hb dX12_heaps_75 (lv_at hl 0 rfl) ?_
            refine lv_iload hx hb dX12_heaps_77 (lv_at hl 1 rfl) ?_
            refine lv_icmp_ge (tgt := 112) hx hb dX12_heaps_79 (by decide) (fun h_79_20 => ?_) (fun h_79_20 => ?_)
            · have nh_79_20 : 1 ≤ k := (nI_leI (a := 1) (b := k) (by omega) (by omega)).mp h_79_20
              refine lv_aload_n hx hb dX12_heaps_112 rfl (lv_at hl 4 rfl) ?_
              refine cg_Vv (As := []) (rest := []) (mc := 0) (ms := 0) (rm := { frames := 1, cells := 0, slots := 0, locals := 23 }) hC hl.1 hO [0, 4, 7, 6, 10, 11, 12, 8, 9, 2] rfl (c_X12_goesBy l D cy _ _ (f0 := ((f0.set 56 (.int (nI k))).set 57 (.int 10000))) (c901 := g4) (c902 := c7) (c904 := c9) (c900 := g6) (m := k) rfl (fs_ne (by decide) (fs_ne (by decide) f0_12)) (fs_ne (by decide) (fs_ne (by decide) f0_36)) (fs_ne (by decide) (fs_ne (by decide) f0_42)) (fs_ne (by decide) (fs_ne (by decide) f0_47)) (fs_ne (by decide) (fs_ne (by decide) f0_48)) (fs_ne (by decide) (fs_ne (by decide) f0_49)) (fs_ne (by decide) (fs_ne (by decide) f0_50)) (fs_ne (by decide) (fs_ne (by decide) f0_53)) (fs_ne (by decide) (fs_ne (by decide) f0_54)) (fs_ne (by decide) (fs_ne (by decide) f0_55)) (fs_ne (by decide) (fs_eq f0_56)) rfl a7 rfl a10 a11 a12 a8 a9 a2 (by omega)) gq_c_X12_heaps_c_X12_goesBy_403 rfl rfl rfl 0 (by decide +kernel) ⟨Nat.le_of_ble_eq_true rfl, Nat.le_of_ble_eq_true rfl⟩ rfl (by decide) rfl rfl rfl (Nat.le_of_ble_eq_true rfl) dX12_heaps_113 ⟨Nat.le_of_ble_eq_true rfl, Nat.le_of_ble_eq_true rfl⟩ (fun nw_113_21 l_113_22 H locs hw hO => ?_)
              obtain ⟨tt_113_24, cd_113_25, rfl⟩ := hw
              have hO : cO D cy A s.heap s 13 ad (cup [(3, .inl (cy 0, 5, .inl (fun _ => 0))), (0, .inr (12, ((f0.set 56 (.int (nI k))).set 57 (.int 10000)))), (4, .inl (cy 0, 30, .inl g4)), (5, .inl (cy 0, 30, .inl g5)), (6, .inl (cy 2, 30, .inl g6)), (9, .inl (cy 0, 120, .inl cd_113_25)), (8, .inl (cy 0, 120, .inl (fun _ => 0))), (12, .inl (cy 2, 5, .inl (fun _ => 0))), (11, .inl (cy 0, 5, .inl (fun _ => 0))), (10, .inl (cy 0, 5, .inl (fun _ => 0))), (7, .inl (cy 0, 30, .inl tt_113_24))] g) _ _ := hO
              refine lv_iconst (v := 0) hx hb dX12_heaps_116 (by decide) ?_
              refine lv_istore (lv' := [(7, .int 0), (6, .int 1), (5, .int 0), (4, .int (-1)), (0, .ref (ad 0)), (1, .int x1), (2, .int x2), (3, .int x3)]) hx hb dX12_heaps_117 hl (by decide) rfl (fun ls hl => ?_)
              refine lv_aload_n hx hb dX12_heaps_119 rfl (lv_at hl 4 rfl) ?_
              refine cg_get hC hO 0 (by decide) rfl rfl i_X12 41 (by decide) (List.mem_of_getElem? (i := 5) rfl) (fs_ne (by decide) (fs_ne (by decide) f0_41)) dX12_heaps_120 ?_
              refine lv_iconst (v := 0) hx hb dX12_heaps_123 (by decide) ?_
              refine cg_iald hC hO 1 (by decide) a1 (cin (by decide)) dX12_heaps_124 ?_
              refine cg_ev (v := 0) (rfl) ?_
              refine lv_istore (lv' := [(8, .int 0), (7, .int 0), (6, .int 1), (5, .int 0), (4, .int (-1)), (0, .ref (ad 0)), (1, .int x1), (2, .int x2), (3, .int x3)]) hx hb dX12_heaps_125 hl (by decide) rfl (fun ls hl => ?_)
              have hO : cO D cy A s.heap s 13 ad (cup [(3, .inl (cy 0, 5, .inl (fun _ => 0))), (0, .inr (12, ((f0.set 56 (.int (nI k))).set 57 (.int 10000)))), (4, .inl (cy 0, 30, .inl g4)), (5, .inl (cy 0, 30, .inl g5)), (6, .inl (cy 2, 30, .inl g6)), (9, .inl (cy 0, 120, .inl cd_113_25)), (8, .inl (cy 0, 120, .inl (fun _ => 0))), (12, .inl (cy 2, 5, .inl (fun _ => 0))), (11, .inl (cy 0, 5, .inl (fun _ => 0))), (10, .inl (cy 0, 5, .inl (fun _ => 0))), (7, .inl (cy 0, 30, .inl tt_113_24))] g) _ _ := hO
              have loop_127_26 : ∀ (d_127_27 : Nat) (j : Nat), (j ≤ k) → k - j < d_127_27 → ∀ (H : Heap) (locs : List Loc), cO D cy A s.heap s 13 ad (cup [(3, .inl (cy 0, 5, .inl (fun _ => 0))), (0, .inr (12, ((f0.set 56 (.int (nI k))).set 57 (.int 10000)))), (4, .inl (cy 0, 30, .inl g4)), (5, .inl (cy 0, 30, .inl g5)), (6, .inl (cy 2, 30, .inl g6)), (9, .inl (cy 0, 120, .inl cd_113_25)), (8, .inl (cy 0, 120, .inl (fun _ => 0))), (12, .inl (cy 2, 5, .inl (fun _ => 0))), (11, .inl (cy 0, 5, .inl (fun _ => 0))), (10, .inl (cy 0, 5, .inl (fun _ => 0))), (7, .inl (cy 0, 30, .inl tt_113_24))] g) H locs → ∀ ls : Array Slot, lv_has ls 9 [(8, .int (nI j)), (7, .int 0), (6, .int 1), (5, .int 0), (4, .int (-1)), (0, .ref (ad 0)), (1, .int x1), (2, .int x2), (3, .int x3)] → W p l e { frames := 3, cells := 0, slots := 0, locals := 63 } s m [.ref (ad 0), .int x1, .int x2, .int x3].toArray below meth c H locs 0 0 (MQ below (cQi (fun r nw lu => r = ans_heaps x1 x2 x3) D 13 0 ad g A) [.ref (ad 0), .int x1, .int x2, .int x3].toArray s 0 0 A) (F0 m 127 ls []) := by
                intro d_127_27
                induction d_127_27 with
                | zero => intro j hj mu_127_28; exact absurd mu_127_28 (Nat.not_lt_zero _)
                | succ d_127_27 ih_127_29 =>
                  intro j hj mu_127_28 H locs hO ls hl
                  refine lv_iload hx hb dX12_heaps_127 (lv_at hl 0 rfl) ?_
                  refine lv_aload_n hx hb dX12_heaps_129 rfl (lv_at hl 5 rfl) ?_
                  refine cg_get hC hO 0 (by decide) rfl rfl i_X12 56 (by decide) (List.mem_of_getElem? (i := 10) rfl) (fs_ne (by decide) (fs_eq f0_56)) dX12_heaps_130 ?_
                  refine lv_icmp_ge (tgt := 153) hx hb dX12_heaps_133 (by decide) (fun h_133_30 => ?_) (fun h_133_30 => ?_)
                  · have nh_133_30 : k ≤ j := (nI_leI (by omega) (by omega)).mp h_133_30
                    refine lv_iload hx hb dX12_heaps_153 (lv_at hl 4 rfl) ?_
                    refine lv_if_lt (tgt := 168) hx hb dX12_heaps_155 (by decide) (fun _ => ?_) (fun h => absurd h (by decide))
                    refine lv_iload hx hb dX12_heaps_168 (lv_at hl 2 rfl) ?_
                    refine lv_istore (lv' := [(4, .int 1), (8, .int (nI j)), (7, .int 0), (6, .int 1), (5, .int 0), (0, .ref (ad 0)), (1, .int x1), (2, .int x2), (3, .int x3)]) hx hb dX12_heaps_170 hl (by decide) rfl (fun ls hl => ?_)
                    refine lv_iload hx hb dX12_heaps_172 (lv_at hl 2 rfl) ?_
                    refine lv_istore (lv' := [(5, .int 0), (4, .int 1), (8, .int (nI j)), (7, .int 0), (6, .int 1), (0, .ref (ad 0)), (1, .int x1), (2, .int x2), (3, .int x3)]) hx hb dX12_heaps_174 hl (by decide) rfl (fun ls hl => ?_)
                    refine lv_iinc (v := 2) (lv' := [(6, .int 2), (5, .int 0), (4, .int 1), (8, .int (nI j)), (7, .int 0), (0, .ref (ad 0)), (1, .int x1), (2, .int x2), (3, .int x3)]) hx hb dX12_heaps_176 hl (k := 4) rfl (by decide) (by decide) rfl (fun ls hl => ?_)
                    refine lv_goto (tgt := 55) hx hb dX12_heaps_179 (by decide) ?_
                    refine lv_iload hx hb dX12_heaps_55 (lv_at hl 0 rfl) ?_
                    refine lv_bipush (v := 6) hx hb dX12_heaps_57 (by decide) ?_
                    refine lv_icmp_gt (tgt := 182) hx hb dX12_heaps_59 (by decide) (fun h => absurd h (by decide)) (fun _ => ?_)
                    refine lv_iload hx hb dX12_heaps_62 (lv_at hl 0 rfl) ?_
                    refine lv_iload_n hx hb dX12_heaps_64 rfl (lv_at hl 6 rfl) ?_
                    refine lv_icmp_gt (tgt := 182) hx hb dX12_heaps_65 (by decide) (fun h_65_31 => ?_) (fun h_65_31 => ?_)
                    · refine lv_iload_n hx hb dX12_heaps_182 rfl (lv_at hl 8 rfl) ?_
                      refine lv_if_ne (tgt := 191) hx hb dX12_heaps_183 (by decide) (fun h_183_32 => ?_) (fun h_183_32 => ?_)
                      · refine lv_iload hx hb dX12_heaps_191 (lv_at hl 1 rfl) ?_
                        exact cg_iret (nw := fun _ => 0) hC hr hlk hO.same rfl (Nat.le_of_ble_eq_true rfl) (Nat.le_of_ble_eq_true rfl) (by rw [ans_heaps, if_pos ⟨hr_4_4, hr_15_8, hr_24_12⟩]; simp [h_183_32]) dX12_heaps_193
                      · refine lv_iload hx hb dX12_heaps_186 (lv_at hl 2 rfl) ?_
                        refine lv_goto (tgt := 193) hx hb dX12_heaps_188 (by decide) ?_
                        exact cg_iret (nw := fun _ => 0) hC hr hlk hO.same rfl (Nat.le_of_ble_eq_true rfl) (Nat.le_of_ble_eq_true rfl) (by rw [ans_heaps, if_pos ⟨hr_4_4, hr_15_8, hr_24_12⟩]; simp [h_183_32]) dX12_heaps_193
                    · refine lv_aload_n hx hb dX12_heaps_68 rfl (lv_at hl 5 rfl) ?_
                      refine cg_Vv (As := []) (rest := []) (mc := 0) (ms := 0) (rm := { frames := 2, cells := 0, slots := 0, locals := 42 }) hC hl.1 hO [0, 1, 3, 2] rfl (c_X12_layDay l D cy _ _ (f0 := ((f0.set 56 (.int (nI k))).set 57 (.int 10000))) (xm := (nI k)) (xl := 10000) rfl (fs_ne (by decide) (fs_ne (by decide) f0_12)) (fs_ne (by decide) (fs_ne (by decide) f0_36)) (fs_ne (by decide) (fs_ne (by decide) f0_41)) (fs_ne (by decide) (fs_ne (by decide) f0_44)) (fs_ne (by decide) (fs_eq f0_56)) (fs_eq (fs_ne (by decide) f0_57)) a1 rfl a2) gq_c_X12_heaps_c_X12_layDay_400 rfl rfl rfl 0 (by decide +kernel) ⟨Nat.le_of_ble_eq_true rfl, Nat.le_of_ble_eq_true rfl⟩ rfl (by decide) rfl rfl rfl (Nat.le_of_ble_eq_true rfl) dX12_heaps_69 ⟨Nat.le_of_ble_eq_true rfl, Nat.le_of_ble_eq_true rfl⟩ (fun nw_69_33 l_69_34 H locs hw hO => ?_)
                      obtain rfl := hw
                      have hO : cO D cy A s.heap s 13 ad (cup [(3, .inl (cy 0, 5, .inl (fun _ => 0))), (0, .inr (12, ((((f0.set 56 (.int (nI k))).set 57 (.int 10000)).set 56 (.int 0)).set 57 (.int 10000)))), (4, .inl (cy 0, 30, .inl g4)), (5, .inl (cy 0, 30, .inl g5)), (6, .inl (cy 2, 30, .inl g6)), (9, .inl (cy 0, 120, .inl cd_113_25)), (8, .inl (cy 0, 120, .inl (fun _ => 0))), (12, .inl (cy 2, 5, .inl (fun _ => 0))), (11, .inl (cy 0, 5, .inl (fun _ => 0))), (10, .inl (cy 0, 5, .inl (fun _ => 0))), (7, .inl (cy 0, 30, .inl tt_113_24))] g) _ _ := hO
                      refine lv_iconst (v := 0) hx hb dX12_heaps_72 (by decide) ?_
                      refine lv_istore (lv' := [(7, .int 0), (6, .int 2), (5, .int 0), (4, .int 1), (8, .int (nI j)), (0, .ref (ad 0)), (1, .int x1), (2, .int x2), (3, .int x3)]) hx hb dX12_heaps_73 hl (by decide) rfl (fun ls hl => ?_)
                      simp only [List.set_set, st_can] at hO
                      have hO : cO D cy A s.heap s 13 ad (cup [(3, .inl (cy 0, 5, .inl (fun _ => 0))), (0, .inr (12, ((f0.set 56 (.int 0)).set 57 (.int 10000)))), (4, .inl (cy 0, 30, .inl g4)), (5, .inl (cy 0, 30, .inl g5)), (6, .inl (cy 2, 30, .inl g6)), (9, .inl (cy 0, 120, .inl cd_113_25)), (8, .inl (cy 0, 120, .inl (fun _ => 0))), (12, .inl (cy 2, 5, .inl (fun _ => 0))), (11, .inl (cy 0, 5, .inl (fun _ => 0))), (10, .inl (cy 0, 5, .inl (fun _ => 0))), (7, .inl (cy 0, 30, .inl tt_113_24))] g) _ _ := hO
                      have loop_75_36 : ∀ (d_75_37 : Nat) (k : Nat) (g4 : Nat → Int32) (g5 : Nat → Int32) (g6 : Nat → Int32), (k ≤ 2) → 2 - k < d_75_37 → ∀ (H : Heap) (locs : List Loc), cO D cy A s.heap s 13 ad (cup [(3, .inl (cy 0, 5, .inl (fun _ => 0))), (0, .inr (12, ((f0.set 56 (.int (nI k))).set 57 (.int 10000)))), (4, .inl (cy 0, 30, .inl g4)), (5, .inl (cy 0, 30, .inl g5)), (6, .inl (cy 2, 30, .inl g6)), (9, .inl (cy 0, 120, .inl cd_113_25)), (8, .inl (cy 0, 120, .inl (fun _ => 0))), (12, .inl (cy 2, 5, .inl (fun _ => 0))), (11, .inl (cy 0, 5, .inl (fun _ => 0))), (10, .inl (cy 0, 5, .inl (fun _ => 0))), (7, .inl (cy 0, 30, .inl tt_113_24))] g) H locs → ∀ ls : Array Slot, lv_has ls 9 [(7, .int (nI k)), (6, .int 2), (5, .int 0), (4, .int 1), (0, .ref (ad 0)), (1, .int x1), (2, .int x2), (3, .int x3)] → W p l e { frames := 3, cells := 0, slots := 0, locals := 63 } s m [.ref (ad 0), .int x1, .int x2, .int x3].toArray below meth c H locs 0 0 (MQ below (cQi (fun r nw lu => r = ans_heaps x1 x2 x3) D 13 0 ad g A) [.ref (ad 0), .int x1, .int x2, .int x3].toArray s 0 0 A) (F0 m 75 ls []) := by
                        intro d_75_37
                        induction d_75_37 with
                        | zero => intro k g4 g5 g6 hk mu_75_38; exact absurd mu_75_38 (Nat.not_lt_zero _)
                        | succ d_75_37 ih_75_39 =>
                          intro k g4 g5 g6 hk mu_75_38 H locs hO ls hl
                          refine lv_iload hx hb dX12_heaps_75 (lv_at hl 0 rfl) ?_
                          refine lv_iload hx hb dX12_heaps_77 (lv_at hl 1 rfl) ?_
                          refine lv_icmp_ge (tgt := 112) hx hb dX12_heaps_79 (by decide) (fun h_79_40 => ?_) (fun h_79_40 => ?_)
                          · have nh_79_40 : 2 ≤ k := (nI_leI (a := 2) (b := k) (by omega) (by omega)).mp h_79_40
                            refine lv_aload_n hx hb dX12_heaps_112 rfl (lv_at hl 4 rfl) ?_
                            refine cg_Vv (As := []) (rest := []) (mc := 0) (ms := 0) (rm := { frames := 1, cells := 0, slots := 0, locals := 23 }) hC hl.1 hO [0, 4, 7, 6, 10, 11, 12, 8, 9, 2] rfl (c_X12_goesBy l D cy _ _ (f0 := ((f0.set 56 (.int (nI k))).set 57 (.int 10000))) (c901 := g4) (c902 := tt_113_24) (c904 := cd_113_25) (c900 := g6) (m := k) rfl (fs_ne (by decide) (fs_ne (by decide) f0_12)) (fs_ne (by decide) (fs_ne (by decide) f0_36)) (fs_ne (by decide) (fs_ne (by decide) f0_42)) (fs_ne (by decide) (fs_ne (by decide) f0_47)) (fs_ne (by decide) (fs_ne (by decide) f0_48)) (fs_ne (by decide) (fs_ne (by decide) f0_49)) (fs_ne (by decide) (fs_ne (by decide) f0_50)) (fs_ne (by decide) (fs_ne (by decide) f0_53)) (fs_ne (by decide) (fs_ne (by decide) f0_54)) (fs_ne (by decide) (fs_ne (by decide) f0_55)) (fs_ne (by decide) (fs_eq f0_56)) rfl rfl rfl rfl rfl rfl rfl rfl a2 (by omega)) gq_c_X12_heaps_c_X12_goesBy_403 rfl rfl rfl 0 (by decide +kernel) ⟨Nat.le_of_ble_eq_true rfl, Nat.le_of_ble_eq_true rfl⟩ rfl (by decide) rfl rfl rfl (Nat.le_of_ble_eq_true rfl) dX12_heaps_113 ⟨Nat.le_of_ble_eq_true rfl, Nat.le_of_ble_eq_true rfl⟩ (fun nw_113_41 l_113_42 H locs hw hO => ?_)
                            obtain ⟨tt_113_44, cd_113_45, rfl⟩ := hw
                            have hO : cO D cy A s.heap s 13 ad (cup [(3, .inl (cy 0, 5, .inl (fun _ => 0))), (0, .inr (12, ((f0.set 56 (.int (nI k))).set 57 (.int 10000)))), (4, .inl (cy 0, 30, .inl g4)), (5, .inl (cy 0, 30, .inl g5)), (6, .inl (cy 2, 30, .inl g6)), (9, .inl (cy 0, 120, .inl cd_113_45)), (8, .inl (cy 0, 120, .inl (fun _ => 0))), (12, .inl (cy 2, 5, .inl (fun _ => 0))), (11, .inl (cy 0, 5, .inl (fun _ => 0))), (10, .inl (cy 0, 5, .inl (fun _ => 0))), (7, .inl (cy 0, 30, .inl tt_113_44))] g) _ _ := hO
                            refine lv_iconst (v := 0) hx hb dX12_heaps_116 (by decide) ?_
                            refine lv_istore (lv' := [(7, .int 0), (6, .int 2), (5, .int 0), (4, .int 1), (0, .ref (ad 0)), (1, .int x1), (2, .int x2), (3, .int x3)]) hx hb dX12_heaps_117 hl (by decide) rfl (fun ls hl => ?_)
                            refine lv_aload_n hx hb dX12_heaps_119 rfl (lv_at hl 4 rfl) ?_
                            refine cg_get hC hO 0 (by decide) rfl rfl i_X12 41 (by decide) (List.mem_of_getElem? (i := 5) rfl) (fs_ne (by decide) (fs_ne (by decide) f0_41)) dX12_heaps_120 ?_
                            refine lv_iconst (v := 0) hx hb dX12_heaps_123 (by decide) ?_
                            refine cg_iald hC hO 1 (by decide) a1 (cin (by decide)) dX12_heaps_124 ?_
                            refine cg_ev (v := 0) (rfl) ?_
                            refine lv_istore (lv' := [(8, .int 0), (7, .int 0), (6, .int 2), (5, .int 0), (4, .int 1), (0, .ref (ad 0)), (1, .int x1), (2, .int x2), (3, .int x3)]) hx hb dX12_heaps_125 hl (by decide) rfl (fun ls hl => ?_)
                            have hO : cO D cy A s.heap s 13 ad (cup [(3, .inl (cy 0, 5, .inl (fun _ => 0))), (0, .inr (12, ((f0.set 56 (.int (nI k))).set 57 (.int 10000)))), (4, .inl (cy 0, 30, .inl g4)), (5, .inl (cy 0, 30, .inl g5)), (6, .inl (cy 2, 30, .inl g6)), (9, .inl (cy 0, 120, .inl cd_113_45)), (8, .inl (cy 0, 120, .inl (fun _ => 0))), (12, .inl (cy 2, 5, .inl (fun _ => 0))), (11, .inl (cy 0, 5, .inl (fun _ => 0))), (10, .inl (cy 0, 5, .inl (fun _ => 0))), (7, .inl (cy 0, 30, .inl tt_113_44))] g) _ _ := hO
                            have loop_127_46 : ∀ (d_127_47 : Nat) (j : Nat), (j ≤ k) → k - j < d_127_47 → ∀ (H : Heap) (locs : List Loc), cO D cy A s.heap s 13 ad (cup [(3, .inl (cy 0, 5, .inl (fun _ => 0))), (0, .inr (12, ((f0.set 56 (.int (nI k))).set 57 (.int 10000)))), (4, .inl (cy 0, 30, .inl g4)), (5, .inl (cy 0, 30, .inl g5)), (6, .inl (cy 2, 30, .inl g6)), (9, .inl (cy 0, 120, .inl cd_113_45)), (8, .inl (cy 0, 120, .inl (fun _ => 0))), (12, .inl (cy 2, 5, .inl (fun _ => 0))), (11, .inl (cy 0, 5, .inl (fun _ => 0))), (10, .inl (cy 0, 5, .inl (fun _ => 0))), (7, .inl (cy 0, 30, .inl tt_113_44))] g) H locs → ∀ ls : Array Slot, lv_has ls 9 [(8, .int (nI j)), (7, .int 0), (6, .int 2), (5, .int 0), (4, .int 1), (0, .ref (ad 0)), (1, .int x1), (2, .int x2), (3, .int x3)] → W p l e { frames := 3, cells := 0, slots := 0, locals := 63 } s m [.ref (ad 0), .int x1, .int x2, .int x3].toArray below meth c H locs 0 0 (MQ below (cQi (fun r nw lu => r = ans_heaps x1 x2 x3) D 13 0 ad g A) [.ref (ad 0), .int x1, .int x2, .int x3].toArray s 0 0 A) (F0 m 127 ls []) := by
                              intro d_127_47
                              induction d_127_47 with
                              | zero => intro j hj mu_127_48; exact absurd mu_127_48 (Nat.not_lt_zero _)
                              | succ d_127_47 ih_127_49 =>
                                intro j hj mu_127_48 H locs hO ls hl
                                refine lv_iload hx hb dX12_heaps_127 (lv_at hl 0 rfl) ?_
                                refine lv_aload_n hx hb dX12_heaps_129 rfl (lv_at hl 5 rfl) ?_
                                refine cg_get hC hO 0 (by decide) rfl rfl i_X12 56 (by decide) (List.mem_of_getElem? (i := 10) rfl) (fs_ne (by decide) (fs_eq f0_56)) dX12_heaps_130 ?_
                                refine lv_icmp_ge (tgt := 153) hx hb dX12_heaps_133 (by decide) (fun _ => ?_) (fun h => absurd h_133_30 h)
                                refine lv_iload hx hb dX12_heaps_153 (lv_at hl 4 rfl) ?_
                                refine lv_if_lt (tgt := 168) hx hb dX12_heaps_155 (by decide) (fun h => absurd h (by decide)) (fun _ => ?_)
                                refine lv_iload hx hb dX12_heaps_158 (lv_at hl 1 rfl) ?_
                                refine lv_iload hx hb dX12_heaps_160 (lv_at hl 3 rfl) ?_
                                refine lv_icmp_lt (tgt := 168) hx hb dX12_heaps_162 (by decide) (fun h => absurd h (by decide)) (fun _ => ?_)
                                refine lv_goto (tgt := 176) hx hb dX12_heaps_165 (by decide) ?_
                                refine lv_iinc (v := 3) (lv' := [(6, .int 3), (8, .int (nI j)), (7, .int 0), (5, .int 0), (4, .int 1), (0, .ref (ad 0)), (1, .int x1), (2, .int x2), (3, .int x3)]) hx hb dX12_heaps_176 hl (k := 2) rfl (by decide) (by decide) rfl (fun ls hl => ?_)
                                refine lv_goto (tgt := 55) hx hb dX12_heaps_179 (by decide) ?_
                                refine lv_iload hx hb dX12_heaps_55 (lv_at hl 0 rfl) ?_
                                refine lv_bipush (v := 6) hx hb dX12_heaps_57 (by decide) ?_
                                refine lv_icmp_gt (tgt := 182) hx hb dX12_heaps_59 (by decide) (fun h => absurd h (by decide)) (fun _ => ?_)
                                refine lv_iload hx hb dX12_heaps_62 (lv_at hl 0 rfl) ?_
                                refine lv_iload_n hx hb dX12_heaps_64 rfl (lv_at hl 6 rfl) ?_
                                refine lv_icmp_gt (tgt := 182) hx hb dX12_heaps_65 (by decide) (fun h_65_50 => ?_) (fun h_65_50 => ?_)
                                · refine lv_iload_n hx hb dX12_heaps_182 rfl (lv_at hl 8 rfl) ?_
                                  refine lv_if_ne (tgt := 191) hx hb dX12_heaps_183 (by decide) (fun h_183_51 => ?_) (fun h_183_51 => ?_)
                                  · refine lv_iload hx hb dX12_heaps_191 (lv_at hl 3 rfl) ?_
                                    exact cg_iret (nw := fun _ => 0) hC hr hlk hO.same rfl (Nat.le_of_ble_eq_true rfl) (Nat.le_of_ble_eq_true rfl) (by rw [ans_heaps, if_pos ⟨hr_4_4, hr_15_8, hr_24_12⟩]; simp [h_183_51]) dX12_heaps_193
                                  · refine lv_iload hx hb dX12_heaps_186 (lv_at hl 4 rfl) ?_
                                    refine lv_goto (tgt := 193) hx hb dX12_heaps_188 (by decide) ?_
                                    exact cg_iret (nw := fun _ => 0) hC hr hlk hO.same rfl (Nat.le_of_ble_eq_true rfl) (Nat.le_of_ble_eq_true rfl) (by rw [ans_heaps, if_pos ⟨hr_4_4, hr_15_8, hr_24_12⟩]; simp [h_183_51]) dX12_heaps_193
                                · refine lv_aload_n hx hb dX12_heaps_68 rfl (lv_at hl 5 rfl) ?_
                                  refine cg_Vv (As := []) (rest := []) (mc := 0) (ms := 0) (rm := { frames := 2, cells := 0, slots := 0, locals := 42 }) hC hl.1 hO [0, 1, 3, 2] rfl (c_X12_layDay l D cy _ _ (f0 := ((f0.set 56 (.int (nI k))).set 57 (.int 10000))) (xm := (nI k)) (xl := 10000) rfl (fs_ne (by decide) (fs_ne (by decide) f0_12)) (fs_ne (by decide) (fs_ne (by decide) f0_36)) (fs_ne (by decide) (fs_ne (by decide) f0_41)) (fs_ne (by decide) (fs_ne (by decide) f0_44)) (fs_ne (by decide) (fs_eq f0_56)) (fs_eq (fs_ne (by decide) f0_57)) a1 rfl a2) gq_c_X12_heaps_c_X12_layDay_400 rfl rfl rfl 0 (by decide +kernel) ⟨Nat.le_of_ble_eq_true rfl, Nat.le_of_ble_eq_true rfl⟩ rfl (by decide) rfl rfl rfl (Nat.le_of_ble_eq_true rfl) dX12_heaps_69 ⟨Nat.le_of_ble_eq_true rfl, Nat.le_of_ble_eq_true rfl⟩ (fun nw_69_52 l_69_53 H locs hw hO => ?_)
                                  obtain rfl := hw
                                  have hO : cO D cy A s.heap s 13 ad (cup [(3, .inl (cy 0, 5, .inl (fun _ => 0))), (0, .inr (12, ((((f0.set 56 (.int (nI k))).set 57 (.int 10000)).set 56 (.int 0)).set 57 (.int 10000)))), (4, .inl (cy 0, 30, .inl g4)), (5, .inl (cy 0, 30, .inl g5)), (6, .inl (cy 2, 30, .inl g6)), (9, .inl (cy 0, 120, .inl cd_113_45)), (8, .inl (cy 0, 120, .inl (fun _ => 0))), (12, .inl (cy 2, 5, .inl (fun _ => 0))), (11, .inl (cy 0, 5, .inl (fun _ => 0))), (10, .inl (cy 0, 5, .inl (fun _ => 0))), (7, .inl (cy 0, 30, .inl tt_113_44))] g) _ _ := hO
                                  refine lv_iconst (v := 0) hx hb dX12_heaps_72 (by decide) ?_
                                  refine lv_istore (lv' := [(7, .int 0), (6, .int 3), (8, .int (nI j)), (5, .int 0), (4, .int 1), (0, .ref (ad 0)), (1, .int x1), (2, .int x2), (3, .int x3)]) hx hb dX12_heaps_73 hl (by decide) rfl (fun ls hl => ?_)
                                  simp only [List.set_set, st_can] at hO
                                  have hO : cO D cy A s.heap s 13 ad (cup [(3, .inl (cy 0, 5, .inl (fun _ => 0))), (0, .inr (12, ((f0.set 56 (.int 0)).set 57 (.int 10000)))), (4, .inl (cy 0, 30, .inl g4)), (5, .inl (cy 0, 30, .inl g5)), (6, .inl (cy 2, 30, .inl g6)), (9, .inl (cy 0, 120, .inl cd_113_45)), (8, .inl (cy 0, 120, .inl (fun _ => 0))), (12, .inl (cy 2, 5, .inl (fun _ => 0))), (11, .inl (cy 0, 5, .inl (fun _ => 0))), (10, .inl (cy 0, 5, .inl (fun _ => 0))), (7, .inl (cy 0, 30, .inl tt_113_44))] g) _ _ := hO
                                  have loop_75_55 : ∀ (d_75_56 : Nat) (k : Nat) (g4 : Nat → Int32) (g5 : Nat → Int32) (g6 : Nat → Int32), (k ≤ 3) → 3 - k < d_75_56 → ∀ (H : Heap) (locs : List Loc), cO D cy A s.heap s 13 ad (cup [(3, .inl (cy 0, 5, .inl (fun _ => 0))), (0, .inr (12, ((f0.set 56 (.int (nI k))).set 57 (.int 10000)))), (4, .inl (cy 0, 30, .inl g4)), (5, .inl (cy 0, 30, .inl g5)), (6, .inl (cy 2, 30, .inl g6)), (9, .inl (cy 0, 120, .inl cd_113_45)), (8, .inl (cy 0, 120, .inl (fun _ => 0))), (12, .inl (cy 2, 5, .inl (fun _ => 0))), (11, .inl (cy 0, 5, .inl (fun _ => 0))), (10, .inl (cy 0, 5, .inl (fun _ => 0))), (7, .inl (cy 0, 30, .inl tt_113_44))] g) H locs → ∀ ls : Array Slot, lv_has ls 9 [(7, .int (nI k)), (6, .int 3), (5, .int 0), (4, .int 1), (0, .ref (ad 0)), (1, .int x1), (2, .int x2), (3, .int x3)] → W p l e { frames := 3, cells := 0, slots := 0, locals := 63 } s m [.ref (ad 0), .int x1, .int x2, .int x3].toArray below meth c H locs 0 0 (MQ below (cQi (fun r nw lu => r = ans_heaps x1 x2 x3) D 13 0 ad g A) [.ref (ad 0), .int x1, .int x2, .int x3].toArray s 0 0 A) (F0 m 75 ls []) := by
                                    intro d_75_56
                                    induction d_75_56 with
                                    | zero => intro k g4 g5 g6 hk mu_75_57; exact absurd mu_75_57 (Nat.not_lt_zero _)
                                    | succ d_75_56 ih_75_58 =>
                                      intro k g4 g5 g6 hk mu_75_57 H locs hO ls hl
                                      refine lv_iload hx hb dX12_heaps_75 (lv_at hl 0 rfl) ?_
                                      refine lv_iload hx hb dX12_heaps_77 (lv_at hl 1 rfl) ?_
                                      refine lv_icmp_ge (tgt := 112) hx hb dX12_heaps_79 (by decide) (fun h_79_59 => ?_) (fun h_79_59 => ?_)
                                      · have nh_79_59 : 3 ≤ k := (nI_leI (a := 3) (b := k) (by omega) (by omega)).mp h_79_59
                                        refine lv_aload_n hx hb dX12_heaps_112 rfl (lv_at hl 4 rfl) ?_
                                        refine cg_Vv (As := []) (rest := []) (mc := 0) (ms := 0) (rm := { frames := 1, cells := 0, slots := 0, locals := 23 }) hC hl.1 hO [0, 4, 7, 6, 10, 11, 12, 8, 9, 2] rfl (c_X12_goesBy l D cy _ _ (f0 := ((f0.set 56 (.int (nI k))).set 57 (.int 10000))) (c901 := g4) (c902 := tt_113_44) (c904 := cd_113_45) (c900 := g6) (m := k) rfl (fs_ne (by decide) (fs_ne (by decide) f0_12)) (fs_ne (by decide) (fs_ne (by decide) f0_36)) (fs_ne (by decide) (fs_ne (by decide) f0_42)) (fs_ne (by decide) (fs_ne (by decide) f0_47)) (fs_ne (by decide) (fs_ne (by decide) f0_48)) (fs_ne (by decide) (fs_ne (by decide) f0_49)) (fs_ne (by decide) (fs_ne (by decide) f0_50)) (fs_ne (by decide) (fs_ne (by decide) f0_53)) (fs_ne (by decide) (fs_ne (by decide) f0_54)) (fs_ne (by decide) (fs_ne (by decide) f0_55)) (fs_ne (by decide) (fs_eq f0_56)) rfl rfl rfl rfl rfl rfl rfl rfl a2 (by omega)) gq_c_X12_heaps_c_X12_goesBy_403 rfl rfl rfl 0 (by decide +kernel) ⟨Nat.le_of_ble_eq_true rfl, Nat.le_of_ble_eq_true rfl⟩ rfl (by decide) rfl rfl rfl (Nat.le_of_ble_eq_true rfl) dX12_heaps_113 ⟨Nat.le_of_ble_eq_true rfl, Nat.le_of_ble_eq_true rfl⟩ (fun nw_113_60 l_113_61 H locs hw hO => ?_)
                                        obtain ⟨tt_113_63, cd_113_64, rfl⟩ := hw
                                        have hO : cO D cy A s.heap s 13 ad (cup [(3, .inl (cy 0, 5, .inl (fun _ => 0))), (0, .inr (12, ((f0.set 56 (.int (nI k))).set 57 (.int 10000)))), (4, .inl (cy 0, 30, .inl g4)), (5, .inl (cy 0, 30, .inl g5)), (6, .inl (cy 2, 30, .inl g6)), (9, .inl (cy 0, 120, .inl cd_113_64)), (8, .inl (cy 0, 120, .inl (fun _ => 0))), (12, .inl (cy 2, 5, .inl (fun _ => 0))), (11, .inl (cy 0, 5, .inl (fun _ => 0))), (10, .inl (cy 0, 5, .inl (fun _ => 0))), (7, .inl (cy 0, 30, .inl tt_113_63))] g) _ _ := hO
                                        refine lv_iconst (v := 0) hx hb dX12_heaps_116 (by decide) ?_
                                        refine lv_istore (lv' := [(7, .int 0), (6, .int 3), (5, .int 0), (4, .int 1), (0, .ref (ad 0)), (1, .int x1), (2, .int x2), (3, .int x3)]) hx hb dX12_heaps_117 hl (by decide) rfl (fun ls hl => ?_)
                                        refine lv_aload_n hx hb dX12_heaps_119 rfl (lv_at hl 4 rfl) ?_
                                        refine cg_get hC hO 0 (by decide) rfl rfl i_X12 41 (by decide) (List.mem_of_getElem? (i := 5) rfl) (fs_ne (by decide) (fs_ne (by decide) f0_41)) dX12_heaps_120 ?_
                                        refine lv_iconst (v := 0) hx hb dX12_heaps_123 (by decide) ?_
                                        refine cg_iald hC hO 1 (by decide) a1 (cin (by decide)) dX12_heaps_124 ?_
                                        refine cg_ev (v := 0) (rfl) ?_
                                        refine lv_istore (lv' := [(8, .int 0), (7, .int 0), (6, .int 3), (5, .int 0), (4, .int 1), (0, .ref (ad 0)), (1, .int x1), (2, .int x2), (3, .int x3)]) hx hb dX12_heaps_125 hl (by decide) rfl (fun ls hl => ?_)
                                        have hO : cO D cy A s.heap s 13 ad (cup [(3, .inl (cy 0, 5, .inl (fun _ => 0))), (0, .inr (12, ((f0.set 56 (.int (nI k))).set 57 (.int 10000)))), (4, .inl (cy 0, 30, .inl g4)), (5, .inl (cy 0, 30, .inl g5)), (6, .inl (cy 2, 30, .inl g6)), (9, .inl (cy 0, 120, .inl cd_113_64)), (8, .inl (cy 0, 120, .inl (fun _ => 0))), (12, .inl (cy 2, 5, .inl (fun _ => 0))), (11, .inl (cy 0, 5, .inl (fun _ => 0))), (10, .inl (cy 0, 5, .inl (fun _ => 0))), (7, .inl (cy 0, 30, .inl tt_113_63))] g) _ _ := hO
                                        have loop_127_65 : ∀ (d_127_66 : Nat) (j : Nat), (j ≤ k) → k - j < d_127_66 → ∀ (H : Heap) (locs : List Loc), cO D cy A s.heap s 13 ad (cup [(3, .inl (cy 0, 5, .inl (fun _ => 0))), (0, .inr (12, ((f0.set 56 (.int (nI k))).set 57 (.int 10000)))), (4, .inl (cy 0, 30, .inl g4)), (5, .inl (cy 0, 30, .inl g5)), (6, .inl (cy 2, 30, .inl g6)), (9, .inl (cy 0, 120, .inl cd_113_64)), (8, .inl (cy 0, 120, .inl (fun _ => 0))), (12, .inl (cy 2, 5, .inl (fun _ => 0))), (11, .inl (cy 0, 5, .inl (fun _ => 0))), (10, .inl (cy 0, 5, .inl (fun _ => 0))), (7, .inl (cy 0, 30, .inl tt_113_63))] g) H locs → ∀ ls : Array Slot, lv_has ls 9 [(8, .int (nI j)), (7, .int 0), (6, .int 3), (5, .int 0), (4, .int 1), (0, .ref (ad 0)), (1, .int x1), (2, .int x2), (3, .int x3)] → W p l e { frames := 3, cells := 0, slots := 0, locals := 63 } s m [.ref (ad 0), .int x1, .int x2, .int x3].toArray below meth c H locs 0 0 (MQ below (cQi (fun r nw lu => r = ans_heaps x1 x2 x3) D 13 0 ad g A) [.ref (ad 0), .int x1, .int x2, .int x3].toArray s 0 0 A) (F0 m 127 ls []) := by
                                          intro d_127_66
                                          induction d_127_66 with
                                          | zero => intro j hj mu_127_67; exact absurd mu_127_67 (Nat.not_lt_zero _)
                                          | succ d_127_66 ih_127_68 =>
                                            intro j hj mu_127_67 H locs hO ls hl
                                            refine lv_iload hx hb dX12_heaps_127 (lv_at hl 0 rfl) ?_
                                            refine lv_aload_n hx hb dX12_heaps_129 rfl (lv_at hl 5 rfl) ?_
                                            refine cg_get hC hO 0 (by decide) rfl rfl i_X12 56 (by decide) (List.mem_of_getElem? (i := 10) rfl) (fs_ne (by decide) (fs_eq f0_56)) dX12_heaps_130 ?_
                                            refine lv_icmp_ge (tgt := 153) hx hb dX12_heaps_133 (by decide) (fun _ => ?_) (fun h => absurd h_133_30 h)
                                            refine lv_iload hx hb dX12_heaps_153 (lv_at hl 4 rfl) ?_
                                            refine lv_if_lt (tgt := 168) hx hb dX12_heaps_155 (by decide) (fun h => absurd h (by decide)) (fun _ => ?_)
                                            refine lv_iload hx hb dX12_heaps_158 (lv_at hl 1 rfl) ?_
                                            refine lv_iload hx hb dX12_heaps_160 (lv_at hl 3 rfl) ?_
                                            refine lv_icmp_lt (tgt := 168) hx hb dX12_heaps_162 (by decide) (fun h => absurd h (by decide)) (fun _ => ?_)
                                            refine lv_goto (tgt := 176) hx hb dX12_heaps_165 (by decide) ?_
                                            refine lv_iinc (v := 4) (lv' := [(6, .int 4), (8, .int (nI j)), (7, .int 0), (5, .int 0), (4, .int 1), (0, .ref (ad 0)), (1, .int x1), (2, .int x2), (3, .int x3)]) hx hb dX12_heaps_176 hl (k := 2) rfl (by decide) (by decide) rfl (fun ls hl => ?_)
                                            refine lv_goto (tgt := 55) hx hb dX12_heaps_179 (by decide) ?_
                                            refine lv_iload hx hb dX12_heaps_55 (lv_at hl 0 rfl) ?_
                                            refine lv_bipush (v := 6) hx hb dX12_heaps_57 (by decide) ?_
                                            refine lv_icmp_gt (tgt := 182) hx hb dX12_heaps_59 (by decide) (fun h => absurd h (by decide)) (fun _ => ?_)
                                            refine lv_iload hx hb dX12_heaps_62 (lv_at hl 0 rfl) ?_
                                            refine lv_iload_n hx hb dX12_heaps_64 rfl (lv_at hl 6 rfl) ?_
                                            refine lv_icmp_gt (tgt := 182) hx hb dX12_heaps_65 (by decide) (fun h_65_69 => ?_) (fun h_65_69 => ?_)
                                            · refine lv_iload_n hx hb dX12_heaps_182 rfl (lv_at hl 8 rfl) ?_
                                              refine lv_if_ne (tgt := 191) hx hb dX12_heaps_183 (by decide) (fun h_183_70 => ?_) (fun h_183_70 => ?_)
                                              · refine lv_iload hx hb dX12_heaps_191 (lv_at hl 3 rfl) ?_
                                                exact cg_iret (nw := fun _ => 0) hC hr hlk hO.same rfl (Nat.le_of_ble_eq_true rfl) (Nat.le_of_ble_eq_true rfl) (by rw [ans_heaps, if_pos ⟨hr_4_4, hr_15_8, hr_24_12⟩]; simp [h_183_70]) dX12_heaps_193
                                              · refine lv_iload hx hb dX12_heaps_186 (lv_at hl 4 rfl) ?_
                                                refine lv_goto (tgt := 193) hx hb dX12_heaps_188 (by decide) ?_
                                                exact cg_iret (nw := fun _ => 0) hC hr hlk hO.same rfl (Nat.le_of_ble_eq_true rfl) (Nat.le_of_ble_eq_true rfl) (by rw [ans_heaps, if_pos ⟨hr_4_4, hr_15_8, hr_24_12⟩]; simp [h_183_70]) dX12_heaps_193
                                            · refine lv_aload_n hx hb dX12_heaps_68 rfl (lv_at hl 5 rfl) ?_
                                              refine cg_Vv (As := []) (rest := []) (mc := 0) (ms := 0) (rm := { frames := 2, cells := 0, slots := 0, locals := 42 }) hC hl.1 hO [0, 1, 3, 2] rfl (c_X12_layDay l D cy _ _ (f0 := ((f0.set 56 (.int (nI k))).set 57 (.int 10000))) (xm := (nI k)) (xl := 10000) rfl (fs_ne (by decide) (fs_ne (by decide) f0_12)) (fs_ne (by decide) (fs_ne (by decide) f0_36)) (fs_ne (by decide) (fs_ne (by decide) f0_41)) (fs_ne (by decide) (fs_ne (by decide) f0_44)) (fs_ne (by decide) (fs_eq f0_56)) (fs_eq (fs_ne (by decide) f0_57)) a1 rfl a2) gq_c_X12_heaps_c_X12_layDay_400 rfl rfl rfl 0 (by decide +kernel) ⟨Nat.le_of_ble_eq_true rfl, Nat.le_of_ble_eq_true rfl⟩ rfl (by decide) rfl rfl rfl (Nat.le_of_ble_eq_true rfl) dX12_heaps_69 ⟨Nat.le_of_ble_eq_true rfl, Nat.le_of_ble_eq_true rfl⟩ (fun nw_69_71 l_69_72 H locs hw hO => ?_)
                                              obtain rfl := hw
                                              have hO : cO D cy A s.heap s 13 ad (cup [(3, .inl (cy 0, 5, .inl (fun _ => 0))), (0, .inr (12, ((((f0.set 56 (.int (nI k))).set 57 (.int 10000)).set 56 (.int 0)).set 57 (.int 10000)))), (4, .inl (cy 0, 30, .inl g4)), (5, .inl (cy 0, 30, .inl g5)), (6, .inl (cy 2, 30, .inl g6)), (9, .inl (cy 0, 120, .inl cd_113_64)), (8, .inl (cy 0, 120, .inl (fun _ => 0))), (12, .inl (cy 2, 5, .inl (fun _ => 0))), (11, .inl (cy 0, 5, .inl (fun _ => 0))), (10, .inl (cy 0, 5, .inl (fun _ => 0))), (7, .inl (cy 0, 30, .inl tt_113_63))] g) _ _ := hO
                                              refine lv_iconst (v := 0) hx hb dX12_heaps_72 (by decide) ?_
                                              refine lv_istore (lv' := [(7, .int 0), (6, .int 4), (8, .int (nI j)), (5, .int 0), (4, .int 1), (0, .ref (ad 0)), (1, .int x1), (2, .int x2), (3, .int x3)]) hx hb dX12_heaps_73 hl (by decide) rfl (fun ls hl => ?_)
                                              simp only [List.set_set, st_can] at hO
                                              have hO : cO D cy A s.heap s 13 ad (cup [(3, .inl (cy 0, 5, .inl (fun _ => 0))), (0, .inr (12, ((f0.set 56 (.int 0)).set 57 (.int 10000)))), (4, .inl (cy 0, 30, .inl g4)), (5, .inl (cy 0, 30, .inl g5)), (6, .inl (cy 2, 30, .inl g6)), (9, .inl (cy 0, 120, .inl cd_113_64)), (8, .inl (cy 0, 120, .inl (fun _ => 0))), (12, .inl (cy 2, 5, .inl (fun _ => 0))), (11, .inl (cy 0, 5, .inl (fun _ => 0))), (10, .inl (cy 0, 5, .inl (fun _ => 0))), (7, .inl (cy 0, 30, .inl tt_113_63))] g) _ _ := hO
                                              have loop_75_74 : ∀ (d_75_75 : Nat) (k : Nat) (g4 : Nat → Int32) (g5 : Nat → Int32) (g6 : Nat → Int32), (k ≤ 4) → 4 - k < d_75_75 → ∀ (H : Heap) (locs : List Loc), cO D cy A s.heap s 13 ad (cup [(3, .inl (cy 0, 5, .inl (fun _ => 0))), (0, .inr (12, ((f0.set 56 (.int (nI k))).set 57 (.int 10000)))), (4, .inl (cy 0, 30, .inl g4)), (5, .inl (cy 0, 30, .inl g5)), (6, .inl (cy 2, 30, .inl g6)), (9, .inl (cy 0, 120, .inl cd_113_64)), (8, .inl (cy 0, 120, .inl (fun _ => 0))), (12, .inl (cy 2, 5, .inl (fun _ => 0))), (11, .inl (cy 0, 5, .inl (fun _ => 0))), (10, .inl (cy 0, 5, .inl (fun _ => 0))), (7, .inl (cy 0, 30, .inl tt_113_63))] g) H locs → ∀ ls : Array Slot, lv_has ls 9 [(7, .int (nI k)), (6, .int 4), (5, .int 0), (4, .int 1), (0, .ref (ad 0)), (1, .int x1), (2, .int x2), (3, .int x3)] → W p l e { frames := 3, cells := 0, slots := 0, locals := 63 } s m [.ref (ad 0), .int x1, .int x2, .int x3].toArray below meth c H locs 0 0 (MQ below (cQi (fun r nw lu => r = ans_heaps x1 x2 x3) D 13 0 ad g A) [.ref (ad 0), .int x1, .int x2, .int x3].toArray s 0 0 A) (F0 m 75 ls []) := by
                                                intro d_75_75
                                                induction d_75_75 with
                                                | zero => intro k g4 g5 g6 hk mu_75_76; exact absurd mu_75_76 (Nat.not_lt_zero _)
                                                | succ d_75_75 ih_75_77 =>
                                                  intro k g4 g5 g6 hk mu_75_76 H locs hO ls hl
                                                  refine lv_iload hx hb dX12_heaps_75 (lv_at hl 0 rfl) ?_
                                                  refine lv_iload hx hb dX12_heaps_77 (lv_at hl 1 rfl) ?_
                                                  refine lv_icmp_ge (tgt := 112) hx hb dX12_heaps_79 (by decide) (fun h_79_78 => ?_) (fun h_79_78 => ?_)
                                                  · have nh_79_78 : 4 ≤ k := (nI_leI (a := 4) (b := k) (by omega) (by omega)).mp h_79_78
                                                    refine lv_aload_n hx hb dX12_heaps_112 rfl (lv_at hl 4 rfl) ?_
                                                    refine cg_Vv (As := []) (rest := []) (mc := 0) (ms := 0) (rm := { frames := 1, cells := 0, slots := 0, locals := 23 }) hC hl.1 hO [0, 4, 7, 6, 10, 11, 12, 8, 9, 2] rfl (c_X12_goesBy l D cy _ _ (f0 := ((f0.set 56 (.int (nI k))).set 57 (.int 10000))) (c901 := g4) (c902 := tt_113_63) (c904 := cd_113_64) (c900 := g6) (m := k) rfl (fs_ne (by decide) (fs_ne (by decide) f0_12)) (fs_ne (by decide) (fs_ne (by decide) f0_36)) (fs_ne (by decide) (fs_ne (by decide) f0_42)) (fs_ne (by decide) (fs_ne (by decide) f0_47)) (fs_ne (by decide) (fs_ne (by decide) f0_48)) (fs_ne (by decide) (fs_ne (by decide) f0_49)) (fs_ne (by decide) (fs_ne (by decide) f0_50)) (fs_ne (by decide) (fs_ne (by decide) f0_53)) (fs_ne (by decide) (fs_ne (by decide) f0_54)) (fs_ne (by decide) (fs_ne (by decide) f0_55)) (fs_ne (by decide) (fs_eq f0_56)) rfl rfl rfl rfl rfl rfl rfl rfl a2 (by omega)) gq_c_X12_heaps_c_X12_goesBy_403 rfl rfl rfl 0 (by decide +kernel) ⟨Nat.le_of_ble_eq_true rfl, Nat.le_of_ble_eq_true rfl⟩ rfl (by decide) rfl rfl rfl (Nat.le_of_ble_eq_true rfl) dX12_heaps_113 ⟨Nat.le_of_ble_eq_true rfl, Nat.le_of_ble_eq_true rfl⟩ (fun nw_113_79 l_113_80 H locs hw hO => ?_)
                                                    obtain ⟨tt_113_82, cd_113_83, rfl⟩ := hw
                                                    have hO : cO D cy A s.heap s 13 ad (cup [(3, .inl (cy 0, 5, .inl (fun _ => 0))), (0, .inr (12, ((f0.set 56 (.int (nI k))).set 57 (.int 10000)))), (4, .inl (cy 0, 30, .inl g4)), (5, .inl (cy 0, 30, .inl g5)), (6, .inl (cy 2, 30, .inl g6)), (9, .inl (cy 0, 120, .inl cd_113_83)), (8, .inl (cy 0, 120, .inl (fun _ => 0))), (12, .inl (cy 2, 5, .inl (fun _ => 0))), (11, .inl (cy 0, 5, .inl (fun _ => 0))), (10, .inl (cy 0, 5, .inl (fun _ => 0))), (7, .inl (cy 0, 30, .inl tt_113_82))] g) _ _ := hO
                                                    refine lv_iconst (v := 0) hx hb dX12_heaps_116 (by decide) ?_
                                                    refine lv_istore (lv' := [(7, .int 0), (6, .int 4), (5, .int 0), (4, .int 1), (0, .ref (ad 0)), (1, .int x1), (2, .int x2), (3, .int x3)]) hx hb dX12_heaps_117 hl (by decide) rfl (fun ls hl => ?_)
                                                    refine lv_aload_n hx hb dX12_heaps_119 rfl (lv_at hl 4 rfl) ?_
                                                    refine cg_get hC hO 0 (by decide) rfl rfl i_X12 41 (by decide) (List.mem_of_getElem? (i := 5) rfl) (fs_ne (by decide) (fs_ne (by decide) f0_41)) dX12_heaps_120 ?_
                                                    refine lv_iconst (v := 0) hx hb dX12_heaps_123 (by decide) ?_
                                                    refine cg_iald hC hO 1 (by decide) a1 (cin (by decide)) dX12_heaps_124 ?_
                                                    refine cg_ev (v := 0) (rfl) ?_
                                                    refine lv_istore (lv' := [(8, .int 0), (7, .int 0), (6, .int 4), (5, .int 0), (4, .int 1), (0, .ref (ad 0)), (1, .int x1), (2, .int x2), (3, .int x3)]) hx hb dX12_heaps_125 hl (by decide) rfl (fun ls hl => ?_)
                                                    have hO : cO D cy A s.heap s 13 ad (cup [(3, .inl (cy 0, 5, .inl (fun _ => 0))), (0, .inr (12, ((f0.set 56 (.int (nI k))).set 57 (.int 10000)))), (4, .inl (cy 0, 30, .inl g4)), (5, .inl (cy 0, 30, .inl g5)), (6, .inl (cy 2, 30, .inl g6)), (9, .inl (cy 0, 120, .inl cd_113_83)), (8, .inl (cy 0, 120, .inl (fun _ => 0))), (12, .inl (cy 2, 5, .inl (fun _ => 0))), (11, .inl (cy 0, 5, .inl (fun _ => 0))), (10, .inl (cy 0, 5, .inl (fun _ => 0))), (7, .inl (cy 0, 30, .inl tt_113_82))] g) _ _ := hO
                                                    have loop_127_84 : ∀ (d_127_85 : Nat) (j : Nat), (j ≤ k) → k - j < d_127_85 → ∀ (H : Heap) (locs : List Loc), cO D cy A s.heap s 13 ad (cup [(3, .inl (cy 0, 5, .inl (fun _ => 0))), (0, .inr (12, ((f0.set 56 (.int (nI k))).set 57 (.int 10000)))), (4, .inl (cy 0, 30, .inl g4)), (5, .inl (cy 0, 30, .inl g5)), (6, .inl (cy 2, 30, .inl g6)), (9, .inl (cy 0, 120, .inl cd_113_83)), (8, .inl (cy 0, 120, .inl (fun _ => 0))), (12, .inl (cy 2, 5, .inl (fun _ => 0))), (11, .inl (cy 0, 5, .inl (fun _ => 0))), (10, .inl (cy 0, 5, .inl (fun _ => 0))), (7, .inl (cy 0, 30, .inl tt_113_82))] g) H locs → ∀ ls : Array Slot, lv_has ls 9 [(8, .int (nI j)), (7, .int 0), (6, .int 4), (5, .int 0), (4, .int 1), (0, .ref (ad 0)), (1, .int x1), (2, .int x2), (3, .int x3)] → W p l e { frames := 3, cells := 0, slots := 0, locals := 63 } s m [.ref (ad 0), .int x1, .int x2, .int x3].toArray below meth c H locs 0 0 (MQ below (cQi (fun r nw lu => r = ans_heaps x1 x2 x3) D 13 0 ad g A) [.ref (ad 0), .int x1, .int x2, .int x3].toArray s 0 0 A) (F0 m 127 ls []) := by
                                                      intro d_127_85
                                                      induction d_127_85 with
                                                      | zero => intro j hj mu_127_86; exact absurd mu_127_86 (Nat.not_lt_zero _)
                                                      | succ d_127_85 ih_127_87 =>
                                                        intro j hj mu_127_86 H locs hO ls hl
                                                        refine lv_iload hx hb dX12_heaps_127 (lv_at hl 0 rfl) ?_
                                                        refine lv_aload_n hx hb dX12_heaps_129 rfl (lv_at hl 5 rfl) ?_
                                                        refine cg_get hC hO 0 (by decide) rfl rfl i_X12 56 (by decide) (List.mem_of_getElem? (i := 10) rfl) (fs_ne (by decide) (fs_eq f0_56)) dX12_heaps_130 ?_
                                                        refine lv_icmp_ge (tgt := 153) hx hb dX12_heaps_133 (by decide) (fun _ => ?_) (fun h => absurd h_133_30 h)
                                                        refine lv_iload hx hb dX12_heaps_153 (lv_at hl 4 rfl) ?_
                                                        refine lv_if_lt (tgt := 168) hx hb dX12_heaps_155 (by decide) (fun h => absurd h (by decide)) (fun _ => ?_)
                                                        refine lv_iload hx hb dX12_heaps_158 (lv_at hl 1 rfl) ?_
                                                        refine lv_iload hx hb dX12_heaps_160 (lv_at hl 3 rfl) ?_
                                                        refine lv_icmp_lt (tgt := 168) hx hb dX12_heaps_162 (by decide) (fun h => absurd h (by decide)) (fun _ => ?_)
                                                        refine lv_goto (tgt := 176) hx hb dX12_heaps_165 (by decide) ?_
                                                        refine lv_iinc (v := 5) (lv' := [(6, .int 5), (8, .int (nI j)), (7, .int 0), (5, .int 0), (4, .int 1), (0, .ref (ad 0)), (1, .int x1), (2, .int x2), (3, .int x3)]) hx hb dX12_heaps_176 hl (k := 2) rfl (by decide) (by decide) rfl (fun ls hl => ?_)
                                                        refine lv_goto (tgt := 55) hx hb dX12_heaps_179 (by decide) ?_
                                                        refine lv_iload hx hb dX12_heaps_55 (lv_at hl 0 rfl) ?_
                                                        refine lv_bipush (v := 6) hx hb dX12_heaps_57 (by decide) ?_
                                                        refine lv_icmp_gt (tgt := 182) hx hb dX12_heaps_59 (by decide) (fun h => absurd h (by decide)) (fun _ => ?_)
                                                        refine lv_iload hx hb dX12_heaps_62 (lv_at hl 0 rfl) ?_
                                                        refine lv_iload_n hx hb dX12_heaps_64 rfl (lv_at hl 6 rfl) ?_
                                                        refine lv_icmp_gt (tgt := 182) hx hb dX12_heaps_65 (by decide) (fun h_65_88 => ?_) (fun h_65_88 => ?_)
                                                        · refine lv_iload_n hx hb dX12_heaps_182 rfl (lv_at hl 8 rfl) ?_
                                                          refine lv_if_ne (tgt := 191) hx hb dX12_heaps_183 (by decide) (fun h_183_89 => ?_) (fun h_183_89 => ?_)
                                                          · refine lv_iload hx hb dX12_heaps_191 (lv_at hl 3 rfl) ?_
                                                            exact cg_iret (nw := fun _ => 0) hC hr hlk hO.same rfl (Nat.le_of_ble_eq_true rfl) (Nat.le_of_ble_eq_true rfl) (by rw [ans_heaps, if_pos ⟨hr_4_4, hr_15_8, hr_24_12⟩]; simp [h_183_89]) dX12_heaps_193
                                                          · refine lv_iload hx hb dX12_heaps_186 (lv_at hl 4 rfl) ?_
                                                            refine lv_goto (tgt := 193) hx hb dX12_heaps_188 (by decide) ?_
                                                            exact cg_iret (nw := fun _ => 0) hC hr hlk hO.same rfl (Nat.le_of_ble_eq_true rfl) (Nat.le_of_ble_eq_true rfl) (by rw [ans_heaps, if_pos ⟨hr_4_4, hr_15_8, hr_24_12⟩]; simp [h_183_89]) dX12_heaps_193
                                                        · refine lv_aload_n hx hb dX12_heaps_68 rfl (lv_at hl 5 rfl) ?_
                                                          refine cg_Vv (As := []) (rest := []) (mc := 0) (ms := 0) (rm := { frames := 2, cells := 0, slots := 0, locals := 42 }) hC hl.1 hO [0, 1, 3, 2] rfl (c_X12_layDay l D cy _ _ (f0 := ((f0.set 56 (.int (nI k))).set 57 (.int 10000))) (xm := (nI k)) (xl := 10000) rfl (fs_ne (by decide) (fs_ne (by decide) f0_12)) (fs_ne (by decide) (fs_ne (by decide) f0_36)) (fs_ne (by decide) (fs_ne (by decide) f0_41)) (fs_ne (by decide) (fs_ne (by decide) f0_44)) (fs_ne (by decide) (fs_eq f0_56)) (fs_eq (fs_ne (by decide) f0_57)) a1 rfl a2) gq_c_X12_heaps_c_X12_layDay_400 rfl rfl rfl 0 (by decide +kernel) ⟨Nat.le_of_ble_eq_true rfl, Nat.le_of_ble_eq_true rfl⟩ rfl (by decide) rfl rfl rfl (Nat.le_of_ble_eq_true rfl) dX12_heaps_69 ⟨Nat.le_of_ble_eq_true rfl, Nat.le_of_ble_eq_true rfl⟩ (fun nw_69_90 l_69_91 H locs hw hO => ?_)
                                                          obtain rfl := hw
                                                          have hO : cO D cy A s.heap s 13 ad (cup [(3, .inl (cy 0, 5, .inl (fun _ => 0))), (0, .inr (12, ((((f0.set 56 (.int (nI k))).set 57 (.int 10000)).set 56 (.int 0)).set 57 (.int 10000)))), (4, .inl (cy 0, 30, .inl g4)), (5, .inl (cy 0, 30, .inl g5)), (6, .inl (cy 2, 30, .inl g6)), (9, .inl (cy 0, 120, .inl cd_113_83)), (8, .inl (cy 0, 120, .inl (fun _ => 0))), (12, .inl (cy 2, 5, .inl (fun _ => 0))), (11, .inl (cy 0, 5, .inl (fun _ => 0))), (10, .inl (cy 0, 5, .inl (fun _ => 0))), (7, .inl (cy 0, 30, .inl tt_113_82))] g) _ _ := hO
                                                          refine lv_iconst (v := 0) hx hb dX12_heaps_72 (by decide) ?_
                                                          refine lv_istore (lv' := [(7, .int 0), (6, .int 5), (8, .int (nI j)), (5, .int 0), (4, .int 1), (0, .ref (ad 0)), (1, .int x1), (2, .int x2), (3, .int x3)]) hx hb dX12_heaps_73 hl (by decide) rfl (fun ls hl => ?_)
                                                          simp only [List.set_set, st_can] at hO
                                                          have hO : cO D cy A s.heap s 13 ad (cup [(3, .inl (cy 0, 5, .inl (fun _ => 0))), (0, .inr (12, ((f0.set 56 (.int 0)).set 57 (.int 10000)))), (4, .inl (cy 0, 30, .inl g4)), (5, .inl (cy 0, 30, .inl g5)), (6, .inl (cy 2, 30, .inl g6)), (9, .inl (cy 0, 120, .inl cd_113_83)), (8, .inl (cy 0, 120, .inl (fun _ => 0))), (12, .inl (cy 2, 5, .inl (fun _ => 0))), (11, .inl (cy 0, 5, .inl (fun _ => 0))), (10, .inl (cy 0, 5, .inl (fun _ => 0))), (7, .inl (cy 0, 30, .inl tt_113_82))] g) _ _ := hO
                                                          have loop_75_93 : ∀ (d_75_94 : Nat) (k : Nat) (g4 : Nat → Int32) (g5 : Nat → Int32) (g6 : Nat → Int32), (k ≤ 5) → 5 - k < d_75_94 → ∀ (H : Heap) (locs : List Loc), cO D cy A s.heap s 13 ad (cup [(3, .inl (cy 0, 5, .inl (fun _ => 0))), (0, .inr (12, ((f0.set 56 (.int (nI k))).set 57 (.int 10000)))), (4, .inl (cy 0, 30, .inl g4)), (5, .inl (cy 0, 30, .inl g5)), (6, .inl (cy 2, 30, .inl g6)), (9, .inl (cy 0, 120, .inl cd_113_83)), (8, .inl (cy 0, 120, .inl (fun _ => 0))), (12, .inl (cy 2, 5, .inl (fun _ => 0))), (11, .inl (cy 0, 5, .inl (fun _ => 0))), (10, .inl (cy 0, 5, .inl (fun _ => 0))), (7, .inl (cy 0, 30, .inl tt_113_82))] g) H locs → ∀ ls : Array Slot, lv_has ls 9 [(7, .int (nI k)), (6, .int 5), (5, .int 0), (4, .int 1), (0, .ref (ad 0)), (1, .int x1), (2, .int x2), (3, .int x3)] → W p l e { frames := 3, cells := 0, slots := 0, locals := 63 } s m [.ref (ad 0), .int x1, .int x2, .int x3].toArray below meth c H locs 0 0 (MQ below (cQi (fun r nw lu => r = ans_heaps x1 x2 x3) D 13 0 ad g A) [.ref (ad 0), .int x1, .int x2, .int x3].toArray s 0 0 A) (F0 m 75 ls []) := by
                                                            intro d_75_94
                                                            induction d_75_94 with
                                                            | zero => intro k g4 g5 g6 hk mu_75_95; exact absurd mu_75_95 (Nat.not_lt_zero _)
                                                            | succ d_75_94 ih_75_96 =>
                                                              intro k g4 g5 g6 hk mu_75_95 H locs hO ls hl
                                                              refine lv_iload hx hb dX12_heaps_75 (lv_at hl 0 rfl) ?_
                                                              refine lv_iload hx hb dX12_heaps_77 (lv_at hl 1 rfl) ?_
                                                              refine lv_icmp_ge (tgt := 112) hx hb dX12_heaps_79 (by decide) (fun h_79_97 => ?_) (fun h_79_97 => ?_)
                                                              · have nh_79_97 : 5 ≤ k := (nI_leI (a := 5) (b := k) (by omega) (by omega)).mp h_79_97
                                                                refine lv_aload_n hx hb dX12_heaps_112 rfl (lv_at hl 4 rfl) ?_
                                                                refine cg_Vv (As := []) (rest := []) (mc := 0) (ms := 0) (rm := { frames := 1, cells := 0, slots := 0, locals := 23 }) hC hl.1 hO [0, 4, 7, 6, 10, 11, 12, 8, 9, 2] rfl (c_X12_goesBy l D cy _ _ (f0 := ((f0.set 56 (.int (nI k))).set 57 (.int 10000))) (c901 := g4) (c902 := tt_113_82) (c904 := cd_113_83) (c900 := g6) (m := k) rfl (fs_ne (by decide) (fs_ne (by decide) f0_12)) (fs_ne (by decide) (fs_ne (by decide) f0_36)) (fs_ne (by decide) (fs_ne (by decide) f0_42)) (fs_ne (by decide) (fs_ne (by decide) f0_47)) (fs_ne (by decide) (fs_ne (by decide) f0_48)) (fs_ne (by decide) (fs_ne (by decide) f0_49)) (fs_ne (by decide) (fs_ne (by decide) f0_50)) (fs_ne (by decide) (fs_ne (by decide) f0_53)) (fs_ne (by decide) (fs_ne (by decide) f0_54)) (fs_ne (by decide) (fs_ne (by decide) f0_55)) (fs_ne (by decide) (fs_eq f0_56)) rfl rfl rfl rfl rfl rfl rfl rfl a2 (by omega)) gq_c_X12_heaps_c_X12_goesBy_403 rfl rfl rfl 0 (by decide +kernel) ⟨Nat.le_of_ble_eq_true rfl, Nat.le_of_ble_eq_true rfl⟩ rfl (by decide) rfl rfl rfl (Nat.le_of_ble_eq_true rfl) dX12_heaps_113 ⟨Nat.le_of_ble_eq_true rfl, Nat.le_of_ble_eq_true rfl⟩ (fun nw_113_98 l_113_99 H locs hw hO => ?_)
                                                                obtain ⟨tt_113_101, cd_113_102, rfl⟩ := hw
                                                                have hO : cO D cy A s.heap s 13 ad (cup [(3, .inl (cy 0, 5, .inl (fun _ => 0))), (0, .inr (12, ((f0.set 56 (.int (nI k))).set 57 (.int 10000)))), (4, .inl (cy 0, 30, .inl g4)), (5, .inl (cy 0, 30, .inl g5)), (6, .inl (cy 2, 30, .inl g6)), (9, .inl (cy 0, 120, .inl cd_113_102)), (8, .inl (cy 0, 120, .inl (fun _ => 0))), (12, .inl (cy 2, 5, .inl (fun _ => 0))), (11, .inl (cy 0, 5, .inl (fun _ => 0))), (10, .inl (cy 0, 5, .inl (fun _ => 0))), (7, .inl (cy 0, 30, .inl tt_113_101))] g) _ _ := hO
                                                                refine lv_iconst (v := 0) hx hb dX12_heaps_116 (by decide) ?_
                                                                refine lv_istore (lv' := [(7, .int 0), (6, .int 5), (5, .int 0), (4, .int 1), (0, .ref (ad 0)), (1, .int x1), (2, .int x2), (3, .int x3)]) hx hb dX12_heaps_117 hl (by decide) rfl (fun ls hl => ?_)
                                                                refine lv_aload_n hx hb dX12_heaps_119 rfl (lv_at hl 4 rfl) ?_
                                                                refine cg_get hC hO 0 (by decide) rfl rfl i_X12 41 (by decide) (List.mem_of_getElem? (i := 5) rfl) (fs_ne (by decide) (fs_ne (by decide) f0_41)) dX12_heaps_120 ?_
                                                                refine lv_iconst (v := 0) hx hb dX12_heaps_123 (by decide) ?_
                                                                refine cg_iald hC hO 1 (by decide) a1 (cin (by decide)) dX12_heaps_124 ?_
                                                                refine cg_ev (v := 0) (rfl) ?_
                                                                refine lv_istore (lv' := [(8, .int 0), (7, .int 0), (6, .int 5), (5, .int 0), (4, .int 1), (0, .ref (ad 0)), (1, .int x1), (2, .int x2), (3, .int x3)]) hx hb dX12_heaps_125 hl (by decide) rfl (fun ls hl => ?_)
                                                                have hO : cO D cy A s.heap s 13 ad (cup [(3, .inl (cy 0, 5, .inl (fun _ => 0))), (0, .inr (12, ((f0.set 56 (.int (nI k))).set 57 (.int 10000)))), (4, .inl (cy 0, 30, .inl g4)), (5, .inl (cy 0, 30, .inl g5)), (6, .inl (cy 2, 30, .inl g6)), (9, .inl (cy 0, 120, .inl cd_113_102)), (8, .inl (cy 0, 120, .inl (fun _ => 0))), (12, .inl (cy 2, 5, .inl (fun _ => 0))), (11, .inl (cy 0, 5, .inl (fun _ => 0))), (10, .inl (cy 0, 5, .inl (fun _ => 0))), (7, .inl (cy 0, 30, .inl tt_113_101))] g) _ _ := hO
                                                                have loop_127_103 : ∀ (d_127_104 : Nat) (j : Nat), (j ≤ k) → k - j < d_127_104 → ∀ (H : Heap) (locs : List Loc), cO D cy A s.heap s 13 ad (cup [(3, .inl (cy 0, 5, .inl (fun _ => 0))), (0, .inr (12, ((f0.set 56 (.int (nI k))).set 57 (.int 10000)))), (4, .inl (cy 0, 30, .inl g4)), (5, .inl (cy 0, 30, .inl g5)), (6, .inl (cy 2, 30, .inl g6)), (9, .inl (cy 0, 120, .inl cd_113_102)), (8, .inl (cy 0, 120, .inl (fun _ => 0))), (12, .inl (cy 2, 5, .inl (fun _ => 0))), (11, .inl (cy 0, 5, .inl (fun _ => 0))), (10, .inl (cy 0, 5, .inl (fun _ => 0))), (7, .inl (cy 0, 30, .inl tt_113_101))] g) H locs → ∀ ls : Array Slot, lv_has ls 9 [(8, .int (nI j)), (7, .int 0), (6, .int 5), (5, .int 0), (4, .int 1), (0, .ref (ad 0)), (1, .int x1), (2, .int x2), (3, .int x3)] → W p l e { frames := 3, cells := 0, slots := 0, locals := 63 } s m [.ref (ad 0), .int x1, .int x2, .int x3].toArray below meth c H locs 0 0 (MQ below (cQi (fun r nw lu => r = ans_heaps x1 x2 x3) D 13 0 ad g A) [.ref (ad 0), .int x1, .int x2, .int x3].toArray s 0 0 A) (F0 m 127 ls []) := by
                                                                  intro d_127_104
                                                                  induction d_127_104 with
                                                                  | zero => intro j hj mu_127_105; exact absurd mu_127_105 (Nat.not_lt_zero _)
                                                                  | succ d_127_104 ih_127_106 =>
                                                                    intro j hj mu_127_105 H locs hO ls hl
                                                                    refine lv_iload hx hb dX12_heaps_127 (lv_at hl 0 rfl) ?_
                                                                    refine lv_aload_n hx hb dX12_heaps_129 rfl (lv_at hl 5 rfl) ?_
                                                                    refine cg_get hC hO 0 (by decide) rfl rfl i_X12 56 (by decide) (List.mem_of_getElem? (i := 10) rfl) (fs_ne (by decide) (fs_eq f0_56)) dX12_heaps_130 ?_
                                                                    refine lv_icmp_ge (tgt := 153) hx hb dX12_heaps_133 (by decide) (fun _ => ?_) (fun h => absurd h_133_30 h)
                                                                    refine lv_iload hx hb dX12_heaps_153 (lv_at hl 4 rfl) ?_
                                                                    refine lv_if_lt (tgt := 168) hx hb dX12_heaps_155 (by decide) (fun h => absurd h (by decide)) (fun _ => ?_)
                                                                    refine lv_iload hx hb dX12_heaps_158 (lv_at hl 1 rfl) ?_
                                                                    refine lv_iload hx hb dX12_heaps_160 (lv_at hl 3 rfl) ?_
                                                                    refine lv_icmp_lt (tgt := 168) hx hb dX12_heaps_162 (by decide) (fun h => absurd h (by decide)) (fun _ => ?_)
                                                                    refine lv_goto (tgt := 176) hx hb dX12_heaps_165 (by decide) ?_
                                                                    refine lv_iinc (v := 6) (lv' := [(6, .int 6), (8, .int (nI j)), (7, .int 0), (5, .int 0), (4, .int 1), (0, .ref (ad 0)), (1, .int x1), (2, .int x2), (3, .int x3)]) hx hb dX12_heaps_176 hl (k := 2) rfl (by decide) (by decide) rfl (fun ls hl => ?_)
                                                                    refine lv_goto (tgt := 55) hx hb dX12_heaps_179 (by decide) ?_
                                                                    refine lv_iload hx hb dX12_heaps_55 (lv_at hl 0 rfl) ?_
                                                                    refine lv_bipush (v := 6) hx hb dX12_heaps_57 (by decide) ?_
                                                                    refine lv_icmp_gt (tgt := 182) hx hb dX12_heaps_59 (by decide) (fun h => absurd h (by decide)) (fun _ => ?_)
                                                                    refine lv_iload hx hb dX12_heaps_62 (lv_at hl 0 rfl) ?_
                                                                    refine lv_iload_n hx hb dX12_heaps_64 rfl (lv_at hl 6 rfl) ?_
                                                                    refine lv_icmp_gt (tgt := 182) hx hb dX12_heaps_65 (by decide) (fun h_65_107 => ?_) (fun h_65_107 => ?_)
                                                                    · refine lv_iload_n hx hb dX12_heaps_182 rfl (lv_at hl 8 rfl) ?_
                                                                      refine lv_if_ne (tgt := 191) hx hb dX12_heaps_183 (by decide) (fun h_183_108 => ?_) (fun h_183_108 => ?_)
                                                                      · refine lv_iload hx hb dX12_heaps_191 (lv_at hl 3 rfl) ?_
                                                                        exact cg_iret (nw := fun _ => 0) hC hr hlk hO.same rfl (Nat.le_of_ble_eq_true rfl) (Nat.le_of_ble_eq_true rfl) (by rw [ans_heaps, if_pos ⟨hr_4_4, hr_15_8, hr_24_12⟩]; simp [h_183_108]) dX12_heaps_193
                                                                      · refine lv_iload hx hb dX12_heaps_186 (lv_at hl 4 rfl) ?_
                                                                        refine lv_goto (tgt := 193) hx hb dX12_heaps_188 (by decide) ?_
                                                                        exact cg_iret (nw := fun _ => 0) hC hr hlk hO.same rfl (Nat.le_of_ble_eq_true rfl) (Nat.le_of_ble_eq_true rfl) (by rw [ans_heaps, if_pos ⟨hr_4_4, hr_15_8, hr_24_12⟩]; simp [h_183_108]) dX12_heaps_193
                                                                    · refine lv_aload_n hx hb dX12_heaps_68 rfl (lv_at hl 5 rfl) ?_
                                                                      refine cg_Vv (As := []) (rest := []) (mc := 0) (ms := 0) (rm := { frames := 2, cells := 0, slots := 0, locals := 42 }) hC hl.1 hO [0, 1, 3, 2] rfl (c_X12_layDay l D cy _ _ (f0 := ((f0.set 56 (.int (nI k))).set 57 (.int 10000))) (xm := (nI k)) (xl := 10000) rfl (fs_ne (by decide) (fs_ne (by decide) f0_12)) (fs_ne (by decide) (fs_ne (by decide) f0_36)) (fs_ne (by decide) (fs_ne (by decide) f0_41)) (fs_ne (by decide) (fs_ne (by decide) f0_44)) (fs_ne (by decide) (fs_eq f0_56)) (fs_eq (fs_ne (by decide) f0_57)) a1 rfl a2) gq_c_X12_heaps_c_X12_layDay_400 rfl rfl rfl 0 (by decide +kernel) ⟨Nat.le_of_ble_eq_true rfl, Nat.le_of_ble_eq_true rfl⟩ rfl (by decide) rfl rfl rfl (Nat.le_of_ble_eq_true rfl) dX12_heaps_69 ⟨Nat.le_of_ble_eq_true rfl, Nat.le_of_ble_eq_true rfl⟩ (fun nw_69_109 l_69_110 H locs hw hO => ?_)
                                                                      obtain rfl := hw
                                                                      have hO : cO D cy A s.heap s 13 ad (cup [(3, .inl (cy 0, 5, .inl (fun _ => 0))), (0, .inr (12, ((((f0.set 56 (.int (nI k))).set 57 (.int 10000)).set 56 (.int 0)).set 57 (.int 10000)))), (4, .inl (cy 0, 30, .inl g4)), (5, .inl (cy 0, 30, .inl g5)), (6, .inl (cy 2, 30, .inl g6)), (9, .inl (cy 0, 120, .inl cd_113_102)), (8, .inl (cy 0, 120, .inl (fun _ => 0))), (12, .inl (cy 2, 5, .inl (fun _ => 0))), (11, .inl (cy 0, 5, .inl (fun _ => 0))), (10, .inl (cy 0, 5, .inl (fun _ => 0))), (7, .inl (cy 0, 30, .inl tt_113_101))] g) _ _ := hO
                                                                      refine lv_iconst (v := 0) hx hb dX12_heaps_72 (by decide) ?_
                                                                      refine lv_istore (lv' := [(7, .int 0), (6, .int 6), (8, .int (nI j)), (5, .int 0), (4, .int 1), (0, .ref (ad 0)), (1, .int x1), (2, .int x2), (3, .int x3)]) hx hb dX12_heaps_73 hl (by decide) rfl (fun ls hl => ?_)
                                                                      simp only [List.set_set, st_can] at hO
                                                                      have hO : cO D cy A s.heap s 13 ad (cup [(3, .inl (cy 0, 5, .inl (fun _ => 0))), (0, .inr (12, ((f0.set 56 (.int 0)).set 57 (.int 10000)))), (4, .inl (cy 0, 30, .inl g4)), (5, .inl (cy 0, 30, .inl g5)), (6, .inl (cy 2, 30, .inl g6)), (9, .inl (cy 0, 120, .inl cd_113_102)), (8, .inl (cy 0, 120, .inl (fun _ => 0))), (12, .inl (cy 2, 5, .inl (fun _ => 0))), (11, .inl (cy 0, 5, .inl (fun _ => 0))), (10, .inl (cy 0, 5, .inl (fun _ => 0))), (7, .inl (cy 0, 30, .inl tt_113_101))] g) _ _ := hO
                                                                      have loop_75_112 : ∀ (d_75_113 : Nat) (k : Nat) (g4 : Nat → Int32) (g5 : Nat → Int32) (g6 : Nat → Int32), (k ≤ 6) → 6 - k < d_75_113 → ∀ (H : Heap) (locs : List Loc), cO D cy A s.heap s 13 ad (cup [(3, .inl (cy 0, 5, .inl (fun _ => 0))), (0, .inr (12, ((f0.set 56 (.int (nI k))).set 57 (.int 10000)))), (4, .inl (cy 0, 30, .inl g4)), (5, .inl (cy 0, 30, .inl g5)), (6, .inl (cy 2, 30, .inl g6)), (9, .inl (cy 0, 120, .inl cd_113_102)), (8, .inl (cy 0, 120, .inl (fun _ => 0))), (12, .inl (cy 2, 5, .inl (fun _ => 0))), (11, .inl (cy 0, 5, .inl (fun _ => 0))), (10, .inl (cy 0, 5, .inl (fun _ => 0))), (7, .inl (cy 0, 30, .inl tt_113_101))] g) H locs → ∀ ls : Array Slot, lv_has ls 9 [(7, .int (nI k)), (6, .int 6), (5, .int 0), (4, .int 1), (0, .ref (ad 0)), (1, .int x1), (2, .int x2), (3, .int x3)] → W p l e { frames := 3, cells := 0, slots := 0, locals := 63 } s m [.ref (ad 0), .int x1, .int x2, .int x3].toArray below meth c H locs 0 0 (MQ below (cQi (fun r nw lu => r = ans_heaps x1 x2 x3) D 13 0 ad g A) [.ref (ad 0), .int x1, .int x2, .int x3].toArray s 0 0 A) (F0 m 75 ls []) := by
                                                                        intro d_75_113
                                                                        induction d_75_113 with
                                                                        | zero => intro k g4 g5 g6 hk mu_75_114; exact absurd mu_75_114 (Nat.not_lt_zero _)
                                                                        | succ d_75_113 ih_75_115 =>
                                                                          intro k g4 g5 g6 hk mu_75_114 H locs hO ls hl
                                                                          refine lv_iload hx hb dX12_heaps_75 (lv_at hl 0 rfl) ?_
                                                                          refine lv_iload hx hb dX12_heaps_77 (lv_at hl 1 rfl) ?_
                                                                          refine lv_icmp_ge (tgt := 112) hx hb dX12_heaps_79 (by decide) (fun h_79_116 => ?_) (fun h_79_116 => ?_)
                                                                          · have nh_79_116 : 6 ≤ k := (nI_leI (a := 6) (b := k) (by omega) (by omega)).mp h_79_116
                                                                            refine lv_aload_n hx hb dX12_heaps_112 rfl (lv_at hl 4 rfl) ?_
                                                                            refine cg_Vv (As := []) (rest := []) (mc := 0) (ms := 0) (rm := { frames := 1, cells := 0, slots := 0, locals := 23 }) hC hl.1 hO [0, 4, 7, 6, 10, 11, 12, 8, 9, 2] rfl (c_X12_goesBy l D cy _ _ (f0 := ((f0.set 56 (.int (nI k))).set 57 (.int 10000))) (c901 := g4) (c902 := tt_113_101) (c904 := cd_113_102) (c900 := g6) (m := k) rfl (fs_ne (by decide) (fs_ne (by decide) f0_12)) (fs_ne (by decide) (fs_ne (by decide) f0_36)) (fs_ne (by decide) (fs_ne (by decide) f0_42)) (fs_ne (by decide) (fs_ne (by decide) f0_47)) (fs_ne (by decide) (fs_ne (by decide) f0_48)) (fs_ne (by decide) (fs_ne (by decide) f0_49)) (fs_ne (by decide) (fs_ne (by decide) f0_50)) (fs_ne (by decide) (fs_ne (by decide) f0_53)) (fs_ne (by decide) (fs_ne (by decide) f0_54)) (fs_ne (by decide) (fs_ne (by decide) f0_55)) (fs_ne (by decide) (fs_eq f0_56)) rfl rfl rfl rfl rfl rfl rfl rfl a2 (by omega)) gq_c_X12_heaps_c_X12_goesBy_403 rfl rfl rfl 0 (by decide +kernel) ⟨Nat.le_of_ble_eq_true rfl, Nat.le_of_ble_eq_true rfl⟩ rfl (by decide) rfl rfl rfl (Nat.le_of_ble_eq_true rfl) dX12_heaps_113 ⟨Nat.le_of_ble_eq_true rfl, Nat.le_of_ble_eq_true rfl⟩ (fun nw_113_117 l_113_118 H locs hw hO => ?_)
                                                                            obtain ⟨tt_113_120, cd_113_121, rfl⟩ := hw
                                                                            have hO : cO D cy A s.heap s 13 ad (cup [(3, .inl (cy 0, 5, .inl (fun _ => 0))), (0, .inr (12, ((f0.set 56 (.int (nI k))).set 57 (.int 10000)))), (4, .inl (cy 0, 30, .inl g4)), (5, .inl (cy 0, 30, .inl g5)), (6, .inl (cy 2, 30, .inl g6)), (9, .inl (cy 0, 120, .inl cd_113_121)), (8, .inl (cy 0, 120, .inl (fun _ => 0))), (12, .inl (cy 2, 5, .inl (fun _ => 0))), (11, .inl (cy 0, 5, .inl (fun _ => 0))), (10, .inl (cy 0, 5, .inl (fun _ => 0))), (7, .inl (cy 0, 30, .inl tt_113_120))] g) _ _ := hO
                                                                            refine lv_iconst (v := 0) hx hb dX12_heaps_116 (by decide) ?_
                                                                            refine lv_istore (lv' := [(7, .int 0), (6, .int 6), (5, .int 0), (4, .int 1), (0, .ref (ad 0)), (1, .int x1), (2, .int x2), (3, .int x3)]) hx hb dX12_heaps_117 hl (by decide) rfl (fun ls hl => ?_)
                                                                            refine lv_aload_n hx hb dX12_heaps_119 rfl (lv_at hl 4 rfl) ?_
                                                                            refine cg_get hC hO 0 (by decide) rfl rfl i_X12 41 (by decide) (List.mem_of_getElem? (i := 5) rfl) (fs_ne (by decide) (fs_ne (by decide) f0_41)) dX12_heaps_120 ?_
                                                                            refine lv_iconst (v := 0) hx hb dX12_heaps_123 (by decide) ?_
                                                                            refine cg_iald hC hO 1 (by decide) a1 (cin (by decide)) dX12_heaps_124 ?_
                                                                            refine cg_ev (v := 0) (rfl) ?_
                                                                            refine lv_istore (lv' := [(8, .int 0), (7, .int 0), (6, .int 6), (5, .int 0), (4, .int 1), (0, .ref (ad 0)), (1, .int x1), (2, .int x2), (3, .int x3)]) hx hb dX12_heaps_125 hl (by decide) rfl (fun ls hl => ?_)
                                                                            have hO : cO D cy A s.heap s 13 ad (cup [(3, .inl (cy 0, 5, .inl (fun _ => 0))), (0, .inr (12, ((f0.set 56 (.int (nI k))).set 57 (.int 10000)))), (4, .inl (cy 0, 30, .inl g4)), (5, .inl (cy 0, 30, .inl g5)), (6, .inl (cy 2, 30, .inl g6)), (9, .inl (cy 0, 120, .inl cd_113_121)), (8, .inl (cy 0, 120, .inl (fun _ => 0))), (12, .inl (cy 2, 5, .inl (fun _ => 0))), (11, .inl (cy 0, 5, .inl (fun _ => 0))), (10, .inl (cy 0, 5, .inl (fun _ => 0))), (7, .inl (cy 0, 30, .inl tt_113_120))] g) _ _ := hO
                                                                            have loop_127_122 : ∀ (d_127_123 : Nat) (j : Nat), (j ≤ k) → k - j < d_127_123 → ∀ (H : Heap) (locs : List Loc), cO D cy A s.heap s 13 ad (cup [(3, .inl (cy 0, 5, .inl (fun _ => 0))), (0, .inr (12, ((f0.set 56 (.int (nI k))).set 57 (.int 10000)))), (4, .inl (cy 0, 30, .inl g4)), (5, .inl (cy 0, 30, .inl g5)), (6, .inl (cy 2, 30, .inl g6)), (9, .inl (cy 0, 120, .inl cd_113_121)), (8, .inl (cy 0, 120, .inl (fun _ => 0))), (12, .inl (cy 2, 5, .inl (fun _ => 0))), (11, .inl (cy 0, 5, .inl (fun _ => 0))), (10, .inl (cy 0, 5, .inl (fun _ => 0))), (7, .inl (cy 0, 30, .inl tt_113_120))] g) H locs → ∀ ls : Array Slot, lv_has ls 9 [(8, .int (nI j)), (7, .int 0), (6, .int 6), (5, .int 0), (4, .int 1), (0, .ref (ad 0)), (1, .int x1), (2, .int x2), (3, .int x3)] → W p l e { frames := 3, cells := 0, slots := 0, locals := 63 } s m [.ref (ad 0), .int x1, .int x2, .int x3].toArray below meth c H locs 0 0 (MQ below (cQi (fun r nw lu => r = ans_heaps x1 x2 x3) D 13 0 ad g A) [.ref (ad 0), .int x1, .int x2, .int x3].toArray s 0 0 A) (F0 m 127 ls []) := by
                                                                              intro d_127_123
                                                                              induction d_127_123 with
                                                                              | zero => intro j hj mu_127_124; exact absurd mu_127_124 (Nat.not_lt_zero _)
                                                                              | succ d_127_123 ih_127_125 =>
                                                                                intro j hj mu_127_124 H locs hO ls hl
                                                                                refine lv_iload hx hb dX12_heaps_127 (lv_at hl 0 rfl) ?_
                                                                                refine lv_aload_n hx hb dX12_heaps_129 rfl (lv_at hl 5 rfl) ?_
                                                                                refine cg_get hC hO 0 (by decide) rfl rfl i_X12 56 (by decide) (List.mem_of_getElem? (i := 10) rfl) (fs_ne (by decide) (fs_eq f0_56)) dX12_heaps_130 ?_
                                                                                refine lv_icmp_ge (tgt := 153) hx hb dX12_heaps_133 (by decide) (fun _ => ?_) (fun h => absurd h_133_30 h)
                                                                                refine lv_iload hx hb dX12_heaps_153 (lv_at hl 4 rfl) ?_
                                                                                refine lv_if_lt (tgt := 168) hx hb dX12_heaps_155 (by decide) (fun h => absurd h (by decide)) (fun _ => ?_)
                                                                                refine lv_iload hx hb dX12_heaps_158 (lv_at hl 1 rfl) ?_
                                                                                refine lv_iload hx hb dX12_heaps_160 (lv_at hl 3 rfl) ?_
                                                                                refine lv_icmp_lt (tgt := 168) hx hb dX12_heaps_162 (by decide) (fun h => absurd h (by decide)) (fun _ => ?_)
                                                                                refine lv_goto (tgt := 176) hx hb dX12_heaps_165 (by decide) ?_
                                                                                refine lv_iinc (v := 7) (lv' := [(6, .int 7), (8, .int (nI j)), (7, .int 0), (5, .int 0), (4, .int 1), (0, .ref (ad 0)), (1, .int x1), (2, .int x2), (3, .int x3)]) hx hb dX12_heaps_176 hl (k := 2) rfl (by decide) (by decide) rfl (fun ls hl => ?_)
                                                                                refine lv_goto (tgt := 55) hx hb dX12_heaps_179 (by decide) ?_
                                                                                refine lv_iload hx hb dX12_heaps_55 (lv_at hl 0 rfl) ?_
                                                                                refine lv_bipush (v := 6) hx hb dX12_heaps_57 (by decide) ?_
                                                                                refine lv_icmp_gt (tgt := 182) hx hb dX12_heaps_59 (by decide) (fun _ => ?_) (fun h => absurd h (by decide))
                                                                                refine lv_iload_n hx hb dX12_heaps_182 rfl (lv_at hl 8 rfl) ?_
                                                                                refine lv_if_ne (tgt := 191) hx hb dX12_heaps_183 (by decide) (fun h_183_126 => ?_) (fun h_183_126 => ?_)
                                                                                · refine lv_iload hx hb dX12_heaps_191 (lv_at hl 3 rfl) ?_
                                                                                  exact cg_iret (nw := fun _ => 0) hC hr hlk hO.same rfl (Nat.le_of_ble_eq_true rfl) (Nat.le_of_ble_eq_true rfl) (by rw [ans_heaps, if_pos ⟨hr_4_4, hr_15_8, hr_24_12⟩]; simp [h_183_126]) dX12_heaps_193
                                                                                · refine lv_iload hx hb dX12_heaps_186 (lv_at hl 4 rfl) ?_
                                                                                  refine lv_goto (tgt := 193) hx hb dX12_heaps_188 (by decide) ?_
                                                                                  exact cg_iret (nw := fun _ => 0) hC hr hlk hO.same rfl (Nat.le_of_ble_eq_true rfl) (Nat.le_of_ble_eq_true rfl) (by rw [ans_heaps, if_pos ⟨hr_4_4, hr_15_8, hr_24_12⟩]; simp [h_183_126]) dX12_heaps_193
                                                                            exact loop_127_122 (k + 1) 0 (by omega) (by omega) _ _ hO ls hl
                                                                          · have nh_79_116 : ¬ 6 ≤ k := fun z => h_79_116 ((nI_leI (a := 6) (b := k) (by omega) (by omega)).mpr z)
                                                                            refine lv_aload_n hx hb dX12_heaps_82 rfl (lv_at hl 4 rfl) ?_
                                                                            refine lv_iload_n hx hb dX12_heaps_83 rfl (lv_at hl 6 rfl) ?_
                                                                            refine lv_iload_n hx hb dX12_heaps_84 rfl (lv_at hl 5 rfl) ?_
                                                                            refine lv_iload hx hb dX12_heaps_85 (lv_at hl 1 rfl) ?_
                                                                            refine lv_idiv hx hb dX12_heaps_87 (by decide) ?_
                                                                            refine lv_iload hx hb dX12_heaps_88 (lv_at hl 0 rfl) ?_
                                                                            refine lv_iload_n hx hb dX12_heaps_90 rfl (lv_at hl 5 rfl) ?_
                                                                            refine lv_iload hx hb dX12_heaps_91 (lv_at hl 1 rfl) ?_
                                                                            refine lv_irem hx hb dX12_heaps_93 (by decide) ?_
                                                                            refine lv_icmp_ge (tgt := 101) hx hb dX12_heaps_94 (by decide) (fun h_94_127 => ?_) (fun h_94_127 => ?_)
                                                                            · refine lv_iconst (v := 0) hx hb dX12_heaps_101 (by decide) ?_
                                                                              refine lv_iadd hx hb dX12_heaps_102 ?_
                                                                              refine cg_Vv (As := [.int x2, .int ((x1 / 6) + 0)]) (rest := []) (mc := 0) (ms := 0) (rm := { frames := 0, cells := 0, slots := 0, locals := 0 }) hC hl.1 hO [0, 4, 5, 6] rfl (c_X12_add l D cy _ _ (f0 := ((f0.set 56 (.int (nI k))).set 57 (.int 10000))) (c901 := g4) (c903 := g5) (c900 := g6) (m := k) (x1 := x2) (x2 := ((x1 / 6) + 0)) rfl (fs_ne (by decide) (fs_ne (by decide) f0_42)) (fs_ne (by decide) (fs_ne (by decide) f0_43)) (fs_ne (by decide) (fs_ne (by decide) f0_54)) (fs_ne (by decide) (fs_eq f0_56)) rfl rfl rfl (by omega)) gq_c_X12_heaps_c_X12_add_430 rfl rfl rfl 2 (by decide +kernel) ⟨Nat.le_of_ble_eq_true rfl, Nat.le_of_ble_eq_true rfl⟩ rfl (by decide) rfl rfl rfl (Nat.le_of_ble_eq_true rfl) dX12_heaps_103 ⟨Nat.le_of_ble_eq_true rfl, Nat.le_of_ble_eq_true rfl⟩ (fun nw_103_128 l_103_129 H locs hw hO => ?_)
                                                                              obtain ⟨c1_103_131, c2_103_132, c3_103_133, rfl⟩ := hw
                                                                              have hO : cO D cy A s.heap s 13 ad (cup [(3, .inl (cy 0, 5, .inl (fun _ => 0))), (0, .inr (12, (((f0.set 56 (.int (nI k))).set 57 (.int 10000)).set 56 (.int (nI (k + 1)))))), (4, .inl (cy 0, 30, .inl c1_103_131)), (5, .inl (cy 0, 30, .inl c2_103_132)), (6, .inl (cy 2, 30, .inl c3_103_133)), (9, .inl (cy 0, 120, .inl cd_113_102)), (8, .inl (cy 0, 120, .inl (fun _ => 0))), (12, .inl (cy 2, 5, .inl (fun _ => 0))), (11, .inl (cy 0, 5, .inl (fun _ => 0))), (10, .inl (cy 0, 5, .inl (fun _ => 0))), (7, .inl (cy 0, 30, .inl tt_113_101))] g) _ _ := hO
                                                                              refine lv_iinc (v := (nI (k + 1))) (lv' := [(7, .int (nI (k + 1))), (6, .int 6), (5, .int 0), (4, .int 1), (0, .ref (ad 0)), (1, .int x1), (2, .int x2), (3, .int x3)]) hx hb dX12_heaps_106 hl (k := 0) rfl (nI_add k 1) (by decide) rfl (fun ls hl => ?_)
                                                                              refine lv_goto (tgt := 75) hx hb dX12_heaps_109 (by decide) ?_
                                                                              simp only [List.set_set, st_can] at hO
                                                                              have hO : cO D cy A s.heap s 13 ad (cup [(3, .inl (cy 0, 5, .inl (fun _ => 0))), (0, .inr (12, ((f0.set 56 (.int (nI (k + 1)))).set 57 (.int 10000)))), (4, .inl (cy 0, 30, .inl c1_103_131)), (5, .inl (cy 0, 30, .inl c2_103_132)), (6, .inl (cy 2, 30, .inl c3_103_133)), (9, .inl (cy 0, 120, .inl cd_113_102)), (8, .inl (cy 0, 120, .inl (fun _ => 0))), (12, .inl (cy 2, 5, .inl (fun _ => 0))), (11, .inl (cy 0, 5, .inl (fun _ => 0))), (10, .inl (cy 0, 5, .inl (fun _ => 0))), (7, .inl (cy 0, 30, .inl tt_113_101))] g) _ _ := hO
                                                                              exact ih_75_115 (k + 1) c1_103_131 c2_103_132 c3_103_133 (by omega) (by omega) _ _ hO ls (lv_sub hl [0, 1, 2, 3, 4, 5, 6, 7] rfl)
                                                                            · refine lv_iconst (v := 1) hx hb dX12_heaps_97 (by decide) ?_
                                                                              refine lv_goto (tgt := 102) hx hb dX12_heaps_98 (by decide) ?_
                                                                              refine lv_iadd hx hb dX12_heaps_102 ?_
                                                                              refine cg_Vv (As := [.int x2, .int ((x1 / 6) + 1)]) (rest := []) (mc := 0) (ms := 0) (rm := { frames := 0, cells := 0, slots := 0, locals := 0 }) hC hl.1 hO [0, 4, 5, 6] rfl (c_X12_add l D cy _ _ (f0 := ((f0.set 56 (.int (nI k))).set 57 (.int 10000))) (c901 := g4) (c903 := g5) (c900 := g6) (m := k) (x1 := x2) (x2 := ((x1 / 6) + 1)) rfl (fs_ne (by decide) (fs_ne (by decide) f0_42)) (fs_ne (by decide) (fs_ne (by decide) f0_43)) (fs_ne (by decide) (fs_ne (by decide) f0_54)) (fs_ne (by decide) (fs_eq f0_56)) rfl rfl rfl (by omega)) gq_c_X12_heaps_c_X12_add_430 rfl rfl rfl 2 (by decide +kernel) ⟨Nat.le_of_ble_eq_true rfl, Nat.le_of_ble_eq_true rfl⟩ rfl (by decide) rfl rfl rfl (Nat.le_of_ble_eq_true rfl) dX12_heaps_103 ⟨Nat.le_of_ble_eq_true rfl, Nat.le_of_ble_eq_true rfl⟩ (fun nw_103_134 l_103_135 H locs hw hO => ?_)
                                                                              obtain ⟨c1_103_137, c2_103_138, c3_103_139, rfl⟩ := hw
                                                                              have hO : cO D cy A s.heap s 13 ad (cup [(3, .inl (cy 0, 5, .inl (fun _ => 0))), (0, .inr (12, (((f0.set 56 (.int (nI k))).set 57 (.int 10000)).set 56 (.int (nI (k + 1)))))), (4, .inl (cy 0, 30, .inl c1_103_137)), (5, .inl (cy 0, 30, .inl c2_103_138)), (6, .inl (cy 2, 30, .inl c3_103_139)), (9, .inl (cy 0, 120, .inl cd_113_102)), (8, .inl (cy 0, 120, .inl (fun _ => 0))), (12, .inl (cy 2, 5, .inl (fun _ => 0))), (11, .inl (cy 0, 5, .inl (fun _ => 0))), (10, .inl (cy 0, 5, .inl (fun _ => 0))), (7, .inl (cy 0, 30, .inl tt_113_101))] g) _ _ := hO
                                                                              refine lv_iinc (v := (nI (k + 1))) (lv' := [(7, .int (nI (k + 1))), (6, .int 6), (5, .int 0), (4, .int 1), (0, .ref (ad 0)), (1, .int x1), (2, .int x2), (3, .int x3)]) hx hb dX12_heaps_106 hl (k := 0) rfl (nI_add k 1) (by decide) rfl (fun ls hl => ?_)
                                                                              refine lv_goto (tgt := 75) hx hb dX12_heaps_109 (by decide) ?_
                                                                              simp only [List.set_set, st_can] at hO
                                                                              have hO : cO D cy A s.heap s 13 ad (cup [(3, .inl (cy 0, 5, .inl (fun _ => 0))), (0, .inr (12, ((f0.set 56 (.int (nI (k + 1)))).set 57 (.int 10000)))), (4, .inl (cy 0, 30, .inl c1_103_137)), (5, .inl (cy 0, 30, .inl c2_103_138)), (6, .inl (cy 2, 30, .inl c3_103_139)), (9, .inl (cy 0, 120, .inl cd_113_102)), (8, .inl (cy 0, 120, .inl (fun _ => 0))), (12, .inl (cy 2, 5, .inl (fun _ => 0))), (11, .inl (cy 0, 5, .inl (fun _ => 0))), (10, .inl (cy 0, 5, .inl (fun _ => 0))), (7, .inl (cy 0, 30, .inl tt_113_101))] g) _ _ := hO
                                                                              exact ih_75_115 (k + 1) c1_103_137 c2_103_138 c3_103_139 (by omega) (by omega) _ _ hO ls (lv_sub hl [0, 1, 2, 3, 4, 5, 6, 7] rfl)
                                                                      exact loop_75_112 (6 + 1) 0 g4 g5 g6 (by omega) (by omega) _ _ hO ls (lv_sub hl [0, 1, 3, 4, 5, 6, 7, 8] rfl)
                                                                exact loop_127_103 (k + 1) 0 (by omega) (by omega) _ _ hO ls hl
                                                              · have nh_79_97 : ¬ 5 ≤ k := fun z => h_79_97 ((nI_leI (a := 5) (b := k) (by omega) (by omega)).mpr z)
                                                                refine lv_aload_n hx hb dX12_heaps_82 rfl (lv_at hl 4 rfl) ?_
                                                                refine lv_iload_n hx hb dX12_heaps_83 rfl (lv_at hl 6 rfl) ?_
                                                                refine lv_iload_n hx hb dX12_heaps_84 rfl (lv_at hl 5 rfl) ?_
                                                                refine lv_iload hx hb dX12_heaps_85 (lv_at hl 1 rfl) ?_
                                                                refine lv_idiv hx hb dX12_heaps_87 (by decide) ?_
                                                                refine lv_iload hx hb dX12_heaps_88 (lv_at hl 0 rfl) ?_
                                                                refine lv_iload_n hx hb dX12_heaps_90 rfl (lv_at hl 5 rfl) ?_
                                                                refine lv_iload hx hb dX12_heaps_91 (lv_at hl 1 rfl) ?_
                                                                refine lv_irem hx hb dX12_heaps_93 (by decide) ?_
                                                                refine lv_icmp_ge (tgt := 101) hx hb dX12_heaps_94 (by decide) (fun h_94_140 => ?_) (fun h_94_140 => ?_)
                                                                · refine lv_iconst (v := 0) hx hb dX12_heaps_101 (by decide) ?_
                                                                  refine lv_iadd hx hb dX12_heaps_102 ?_
                                                                  refine cg_Vv (As := [.int x2, .int ((x1 / 5) + 0)]) (rest := []) (mc := 0) (ms := 0) (rm := { frames := 0, cells := 0, slots := 0, locals := 0 }) hC hl.1 hO [0, 4, 5, 6] rfl (c_X12_add l D cy _ _ (f0 := ((f0.set 56 (.int (nI k))).set 57 (.int 10000))) (c901 := g4) (c903 := g5) (c900 := g6) (m := k) (x1 := x2) (x2 := ((x1 / 5) + 0)) rfl (fs_ne (by decide) (fs_ne (by decide) f0_42)) (fs_ne (by decide) (fs_ne (by decide) f0_43)) (fs_ne (by decide) (fs_ne (by decide) f0_54)) (fs_ne (by decide) (fs_eq f0_56)) rfl rfl rfl (by omega)) gq_c_X12_heaps_c_X12_add_430 rfl rfl rfl 2 (by decide +kernel) ⟨Nat.le_of_ble_eq_true rfl, Nat.le_of_ble_eq_true rfl⟩ rfl (by decide) rfl rfl rfl (Nat.le_of_ble_eq_true rfl) dX12_heaps_103 ⟨Nat.le_of_ble_eq_true rfl, Nat.le_of_ble_eq_true rfl⟩ (fun nw_103_141 l_103_142 H locs hw hO => ?_)
                                                                  obtain ⟨c1_103_144, c2_103_145, c3_103_146, rfl⟩ := hw
                                                                  have hO : cO D cy A s.heap s 13 ad (cup [(3, .inl (cy 0, 5, .inl (fun _ => 0))), (0, .inr (12, (((f0.set 56 (.int (nI k))).set 57 (.int 10000)).set 56 (.int (nI (k + 1)))))), (4, .inl (cy 0, 30, .inl c1_103_144)), (5, .inl (cy 0, 30, .inl c2_103_145)), (6, .inl (cy 2, 30, .inl c3_103_146)), (9, .inl (cy 0, 120, .inl cd_113_83)), (8, .inl (cy 0, 120, .inl (fun _ => 0))), (12, .inl (cy 2, 5, .inl (fun _ => 0))), (11, .inl (cy 0, 5, .inl (fun _ => 0))), (10, .inl (cy 0, 5, .inl (fun _ => 0))), (7, .inl (cy 0, 30, .inl tt_113_82))] g) _ _ := hO
                                                                  refine lv_iinc (v := (nI (k + 1))) (lv' := [(7, .int (nI (k + 1))), (6, .int 5), (5, .int 0), (4, .int 1), (0, .ref (ad 0)), (1, .int x1), (2, .int x2), (3, .int x3)]) hx hb dX12_heaps_106 hl (k := 0) rfl (nI_add k 1) (by decide) rfl (fun ls hl => ?_)
                                                                  refine lv_goto (tgt := 75) hx hb dX12_heaps_109 (by decide) ?_
                                                                  simp only [List.set_set, st_can] at hO
                                                                  have hO : cO D cy A s.heap s 13 ad (cup [(3, .inl (cy 0, 5, .inl (fun _ => 0))), (0, .inr (12, ((f0.set 56 (.int (nI (k + 1)))).set 57 (.int 10000)))), (4, .inl (cy 0, 30, .inl c1_103_144)), (5, .inl (cy 0, 30, .inl c2_103_145)), (6, .inl (cy 2, 30, .inl c3_103_146)), (9, .inl (cy 0, 120, .inl cd_113_83)), (8, .inl (cy 0, 120, .inl (fun _ => 0))), (12, .inl (cy 2, 5, .inl (fun _ => 0))), (11, .inl (cy 0, 5, .inl (fun _ => 0))), (10, .inl (cy 0, 5, .inl (fun _ => 0))), (7, .inl (cy 0, 30, .inl tt_113_82))] g) _ _ := hO
                                                                  exact ih_75_96 (k + 1) c1_103_144 c2_103_145 c3_103_146 (by omega) (by omega) _ _ hO ls (lv_sub hl [0, 1, 2, 3, 4, 5, 6, 7] rfl)
                                                                · refine lv_iconst (v := 1) hx hb dX12_heaps_97 (by decide) ?_
                                                                  refine lv_goto (tgt := 102) hx hb dX12_heaps_98 (by decide) ?_
                                                                  refine lv_iadd hx hb dX12_heaps_102 ?_
                                                                  refine cg_Vv (As := [.int x2, .int ((x1 / 5) + 1)]) (rest := []) (mc := 0) (ms := 0) (rm := { frames := 0, cells := 0, slots := 0, locals := 0 }) hC hl.1 hO [0, 4, 5, 6] rfl (c_X12_add l D cy _ _ (f0 := ((f0.set 56 (.int (nI k))).set 57 (.int 10000))) (c901 := g4) (c903 := g5) (c900 := g6) (m := k) (x1 := x2) (x2 := ((x1 / 5) + 1)) rfl (fs_ne (by decide) (fs_ne (by decide) f0_42)) (fs_ne (by decide) (fs_ne (by decide) f0_43)) (fs_ne (by decide) (fs_ne (by decide) f0_54)) (fs_ne (by decide) (fs_eq f0_56)) rfl rfl rfl (by omega)) gq_c_X12_heaps_c_X12_add_430 rfl rfl rfl 2 (by decide +kernel) ⟨Nat.le_of_ble_eq_true rfl, Nat.le_of_ble_eq_true rfl⟩ rfl (by decide) rfl rfl rfl (Nat.le_of_ble_eq_true rfl) dX12_heaps_103 ⟨Nat.le_of_ble_eq_true rfl, Nat.le_of_ble_eq_true rfl⟩ (fun nw_103_147 l_103_148 H locs hw hO => ?_)
                                                                  obtain ⟨c1_103_150, c2_103_151, c3_103_152, rfl⟩ := hw
                                                                  have hO : cO D cy A s.heap s 13 ad (cup [(3, .inl (cy 0, 5, .inl (fun _ => 0))), (0, .inr (12, (((f0.set 56 (.int (nI k))).set 57 (.int 10000)).set 56 (.int (nI (k + 1)))))), (4, .inl (cy 0, 30, .inl c1_103_150)), (5, .inl (cy 0, 30, .inl c2_103_151)), (6, .inl (cy 2, 30, .inl c3_103_152)), (9, .inl (cy 0, 120, .inl cd_113_83)), (8, .inl (cy 0, 120, .inl (fun _ => 0))), (12, .inl (cy 2, 5, .inl (fun _ => 0))), (11, .inl (cy 0, 5, .inl (fun _ => 0))), (10, .inl (cy 0, 5, .inl (fun _ => 0))), (7, .inl (cy 0, 30, .inl tt_113_82))] g) _ _ := hO
                                                                  refine lv_iinc (v := (nI (k + 1))) (lv' := [(7, .int (nI (k + 1))), (6, .int 5), (5, .int 0), (4, .int 1), (0, .ref (ad 0)), (1, .int x1), (2, .int x2), (3, .int x3)]) hx hb dX12_heaps_106 hl (k := 0) rfl (nI_add k 1) (by decide) rfl (fun ls hl => ?_)
                                                                  refine lv_goto (tgt := 75) hx hb dX12_heaps_109 (by decide) ?_
                                                                  simp only [List.set_set, st_can] at hO
                                                                  have hO : cO D cy A s.heap s 13 ad (cup [(3, .inl (cy 0, 5, .inl (fun _ => 0))), (0, .inr (12, ((f0.set 56 (.int (nI (k + 1)))).set 57 (.int 10000)))), (4, .inl (cy 0, 30, .inl c1_103_150)), (5, .inl (cy 0, 30, .inl c2_103_151)), (6, .inl (cy 2, 30, .inl c3_103_152)), (9, .inl (cy 0, 120, .inl cd_113_83)), (8, .inl (cy 0, 120, .inl (fun _ => 0))), (12, .inl (cy 2, 5, .inl (fun _ => 0))), (11, .inl (cy 0, 5, .inl (fun _ => 0))), (10, .inl (cy 0, 5, .inl (fun _ => 0))), (7, .inl (cy 0, 30, .inl tt_113_82))] g) _ _ := hO
                                                                  exact ih_75_96 (k + 1) c1_103_150 c2_103_151 c3_103_152 (by omega) (by omega) _ _ hO ls (lv_sub hl [0, 1, 2, 3, 4, 5, 6, 7] rfl)
                                                          exact loop_75_93 (5 + 1) 0 g4 g5 g6 (by omega) (by omega) _ _ hO ls (lv_sub hl [0, 1, 3, 4, 5, 6, 7, 8] rfl)
                                                    exact loop_127_84 (k + 1) 0 (by omega) (by omega) _ _ hO ls hl
                                                  · have nh_79_78 : ¬ 4 ≤ k := fun z => h_79_78 ((nI_leI (a := 4) (b := k) (by omega) (by omega)).mpr z)
                                                    refine lv_aload_n hx hb dX12_heaps_82 rfl (lv_at hl 4 rfl) ?_
                                                    refine lv_iload_n hx hb dX12_heaps_83 rfl (lv_at hl 6 rfl) ?_
                                                    refine lv_iload_n hx hb dX12_heaps_84 rfl (lv_at hl 5 rfl) ?_
                                                    refine lv_iload hx hb dX12_heaps_85 (lv_at hl 1 rfl) ?_
                                                    refine lv_idiv hx hb dX12_heaps_87 (by decide) ?_
                                                    refine lv_iload hx hb dX12_heaps_88 (lv_at hl 0 rfl) ?_
                                                    refine lv_iload_n hx hb dX12_heaps_90 rfl (lv_at hl 5 rfl) ?_
                                                    refine lv_iload hx hb dX12_heaps_91 (lv_at hl 1 rfl) ?_
                                                    refine lv_irem hx hb dX12_heaps_93 (by decide) ?_
                                                    refine lv_icmp_ge (tgt := 101) hx hb dX12_heaps_94 (by decide) (fun h_94_153 => ?_) (fun h_94_153 => ?_)
                                                    · refine lv_iconst (v := 0) hx hb dX12_heaps_101 (by decide) ?_
                                                      refine lv_iadd hx hb dX12_heaps_102 ?_
                                                      refine cg_Vv (As := [.int x2, .int ((x1 / 4) + 0)]) (rest := []) (mc := 0) (ms := 0) (rm := { frames := 0, cells := 0, slots := 0, locals := 0 }) hC hl.1 hO [0, 4, 5, 6] rfl (c_X12_add l D cy _ _ (f0 := ((f0.set 56 (.int (nI k))).set 57 (.int 10000))) (c901 := g4) (c903 := g5) (c900 := g6) (m := k) (x1 := x2) (x2 := ((x1 / 4) + 0)) rfl (fs_ne (by decide) (fs_ne (by decide) f0_42)) (fs_ne (by decide) (fs_ne (by decide) f0_43)) (fs_ne (by decide) (fs_ne (by decide) f0_54)) (fs_ne (by decide) (fs_eq f0_56)) rfl rfl rfl (by omega)) gq_c_X12_heaps_c_X12_add_430 rfl rfl rfl 2 (by decide +kernel) ⟨Nat.le_of_ble_eq_true rfl, Nat.le_of_ble_eq_true rfl⟩ rfl (by decide) rfl rfl rfl (Nat.le_of_ble_eq_true rfl) dX12_heaps_103 ⟨Nat.le_of_ble_eq_true rfl, Nat.le_of_ble_eq_true rfl⟩ (fun nw_103_154 l_103_155 H locs hw hO => ?_)
                                                      obtain ⟨c1_103_157, c2_103_158, c3_103_159, rfl⟩ := hw
                                                      have hO : cO D cy A s.heap s 13 ad (cup [(3, .inl (cy 0, 5, .inl (fun _ => 0))), (0, .inr (12, (((f0.set 56 (.int (nI k))).set 57 (.int 10000)).set 56 (.int (nI (k + 1)))))), (4, .inl (cy 0, 30, .inl c1_103_157)), (5, .inl (cy 0, 30, .inl c2_103_158)), (6, .inl (cy 2, 30, .inl c3_103_159)), (9, .inl (cy 0, 120, .inl cd_113_64)), (8, .inl (cy 0, 120, .inl (fun _ => 0))), (12, .inl (cy 2, 5, .inl (fun _ => 0))), (11, .inl (cy 0, 5, .inl (fun _ => 0))), (10, .inl (cy 0, 5, .inl (fun _ => 0))), (7, .inl (cy 0, 30, .inl tt_113_63))] g) _ _ := hO
                                                      refine lv_iinc (v := (nI (k + 1))) (lv' := [(7, .int (nI (k + 1))), (6, .int 4), (5, .int 0), (4, .int 1), (0, .ref (ad 0)), (1, .int x1), (2, .int x2), (3, .int x3)]) hx hb dX12_heaps_106 hl (k := 0) rfl (nI_add k 1) (by decide) rfl (fun ls hl => ?_)
                                                      refine lv_goto (tgt := 75) hx hb dX12_heaps_109 (by decide) ?_
                                                      simp only [List.set_set, st_can] at hO
                                                      have hO : cO D cy A s.heap s 13 ad (cup [(3, .inl (cy 0, 5, .inl (fun _ => 0))), (0, .inr (12, ((f0.set 56 (.int (nI (k + 1)))).set 57 (.int 10000)))), (4, .inl (cy 0, 30, .inl c1_103_157)), (5, .inl (cy 0, 30, .inl c2_103_158)), (6, .inl (cy 2, 30, .inl c3_103_159)), (9, .inl (cy 0, 120, .inl cd_113_64)), (8, .inl (cy 0, 120, .inl (fun _ => 0))), (12, .inl (cy 2, 5, .inl (fun _ => 0))), (11, .inl (cy 0, 5, .inl (fun _ => 0))), (10, .inl (cy 0, 5, .inl (fun _ => 0))), (7, .inl (cy 0, 30, .inl tt_113_63))] g) _ _ := hO
                                                      exact ih_75_77 (k + 1) c1_103_157 c2_103_158 c3_103_159 (by omega) (by omega) _ _ hO ls (lv_sub hl [0, 1, 2, 3, 4, 5, 6, 7] rfl)
                                                    · refine lv_iconst (v := 1) hx hb dX12_heaps_97 (by decide) ?_
                                                      refine lv_goto (tgt := 102) hx hb dX12_heaps_98 (by decide) ?_
                                                      refine lv_iadd hx hb dX12_heaps_102 ?_
                                                      refine cg_Vv (As := [.int x2, .int ((x1 / 4) + 1)]) (rest := []) (mc := 0) (ms := 0) (rm := { frames := 0, cells := 0, slots := 0, locals := 0 }) hC hl.1 hO [0, 4, 5, 6] rfl (c_X12_add l D cy _ _ (f0 := ((f0.set 56 (.int (nI k))).set 57 (.int 10000))) (c901 := g4) (c903 := g5) (c900 := g6) (m := k) (x1 := x2) (x2 := ((x1 / 4) + 1)) rfl (fs_ne (by decide) (fs_ne (by decide) f0_42)) (fs_ne (by decide) (fs_ne (by decide) f0_43)) (fs_ne (by decide) (fs_ne (by decide) f0_54)) (fs_ne (by decide) (fs_eq f0_56)) rfl rfl rfl (by omega)) gq_c_X12_heaps_c_X12_add_430 rfl rfl rfl 2 (by decide +kernel) ⟨Nat.le_of_ble_eq_true rfl, Nat.le_of_ble_eq_true rfl⟩ rfl (by decide) rfl rfl rfl (Nat.le_of_ble_eq_true rfl) dX12_heaps_103 ⟨Nat.le_of_ble_eq_true rfl, Nat.le_of_ble_eq_true rfl⟩ (fun nw_103_160 l_103_161 H locs hw hO => ?_)
                                                      obtain ⟨c1_103_163, c2_103_164, c3_103_165, rfl⟩ := hw
                                                      have hO : cO D cy A s.heap s 13 ad (cup [(3, .inl (cy 0, 5, .inl (fun _ => 0))), (0, .inr (12, (((f0.set 56 (.int (nI k))).set 57 (.int 10000)).set 56 (.int (nI (k + 1)))))), (4, .inl (cy 0, 30, .inl c1_103_163)), (5, .inl (cy 0, 30, .inl c2_103_164)), (6, .inl (cy 2, 30, .inl c3_103_165)), (9, .inl (cy 0, 120, .inl cd_113_64)), (8, .inl (cy 0, 120, .inl (fun _ => 0))), (12, .inl (cy 2, 5, .inl (fun _ => 0))), (11, .inl (cy 0, 5, .inl (fun _ => 0))), (10, .inl (cy 0, 5, .inl (fun _ => 0))), (7, .inl (cy 0, 30, .inl tt_113_63))] g) _ _ := hO
                                                      refine lv_iinc (v := (nI (k + 1))) (lv' := [(7, .int (nI (k + 1))), (6, .int 4), (5, .int 0), (4, .int 1), (0, .ref (ad 0)), (1, .int x1), (2, .int x2), (3, .int x3)]) hx hb dX12_heaps_106 hl (k := 0) rfl (nI_add k 1) (by decide) rfl (fun ls hl => ?_)
                                                      refine lv_goto (tgt := 75) hx hb dX12_heaps_109 (by decide) ?_
                                                      simp only [List.set_set, st_can] at hO
                                                      have hO : cO D cy A s.heap s 13 ad (cup [(3, .inl (cy 0, 5, .inl (fun _ => 0))), (0, .inr (12, ((f0.set 56 (.int (nI (k + 1)))).set 57 (.int 10000)))), (4, .inl (cy 0, 30, .inl c1_103_163)), (5, .inl (cy 0, 30, .inl c2_103_164)), (6, .inl (cy 2, 30, .inl c3_103_165)), (9, .inl (cy 0, 120, .inl cd_113_64)), (8, .inl (cy 0, 120, .inl (fun _ => 0))), (12, .inl (cy 2, 5, .inl (fun _ => 0))), (11, .inl (cy 0, 5, .inl (fun _ => 0))), (10, .inl (cy 0, 5, .inl (fun _ => 0))), (7, .inl (cy 0, 30, .inl tt_113_63))] g) _ _ := hO
                                                      exact ih_75_77 (k + 1) c1_103_163 c2_103_164 c3_103_165 (by omega) (by omega) _ _ hO ls (lv_sub hl [0, 1, 2, 3, 4, 5, 6, 7] rfl)
                                              exact loop_75_74 (4 + 1) 0 g4 g5 g6 (by omega) (by omega) _ _ hO ls (lv_sub hl [0, 1, 3, 4, 5, 6, 7, 8] rfl)
                                        exact loop_127_65 (k + 1) 0 (by omega) (by omega) _ _ hO ls hl
                                      · have nh_79_59 : ¬ 3 ≤ k := fun z => h_79_59 ((nI_leI (a := 3) (b := k) (by omega) (by omega)).mpr z)
                                        refine lv_aload_n hx hb dX12_heaps_82 rfl (lv_at hl 4 rfl) ?_
                                        refine lv_iload_n hx hb dX12_heaps_83 rfl (lv_at hl 6 rfl) ?_
                                        refine lv_iload_n hx hb dX12_heaps_84 rfl (lv_at hl 5 rfl) ?_
                                        refine lv_iload hx hb dX12_heaps_85 (lv_at hl 1 rfl) ?_
                                        refine lv_idiv hx hb dX12_heaps_87 (by decide) ?_
                                        refine lv_iload hx hb dX12_heaps_88 (lv_at hl 0 rfl) ?_
                                        refine lv_iload_n hx hb dX12_heaps_90 rfl (lv_at hl 5 rfl) ?_
                                        refine lv_iload hx hb dX12_heaps_91 (lv_at hl 1 rfl) ?_
                                        refine lv_irem hx hb dX12_heaps_93 (by decide) ?_
                                        refine lv_icmp_ge (tgt := 101) hx hb dX12_heaps_94 (by decide) (fun h_94_166 => ?_) (fun h_94_166 => ?_)
                                        · refine lv_iconst (v := 0) hx hb dX12_heaps_101 (by decide) ?_
                                          refine lv_iadd hx hb dX12_heaps_102 ?_
                                          refine cg_Vv (As := [.int x2, .int ((x1 / 3) + 0)]) (rest := []) (mc := 0) (ms := 0) (rm := { frames := 0, cells := 0, slots := 0, locals := 0 }) hC hl.1 hO [0, 4, 5, 6] rfl (c_X12_add l D cy _ _ (f0 := ((f0.set 56 (.int (nI k))).set 57 (.int 10000))) (c901 := g4) (c903 := g5) (c900 := g6) (m := k) (x1 := x2) (x2 := ((x1 / 3) + 0)) rfl (fs_ne (by decide) (fs_ne (by decide) f0_42)) (fs_ne (by decide) (fs_ne (by decide) f0_43)) (fs_ne (by decide) (fs_ne (by decide) f0_54)) (fs_ne (by decide) (fs_eq f0_56)) rfl rfl rfl (by omega)) gq_c_X12_heaps_c_X12_add_430 rfl rfl rfl 2 (by decide +kernel) ⟨Nat.le_of_ble_eq_true rfl, Nat.le_of_ble_eq_true rfl⟩ rfl (by decide) rfl rfl rfl (Nat.le_of_ble_eq_true rfl) dX12_heaps_103 ⟨Nat.le_of_ble_eq_true rfl, Nat.le_of_ble_eq_true rfl⟩ (fun nw_103_167 l_103_168 H locs hw hO => ?_)
                                          obtain ⟨c1_103_170, c2_103_171, c3_103_172, rfl⟩ := hw
                                          have hO : cO D cy A s.heap s 13 ad (cup [(3, .inl (cy 0, 5, .inl (fun _ => 0))), (0, .inr (12, (((f0.set 56 (.int (nI k))).set 57 (.int 10000)).set 56 (.int (nI (k + 1)))))), (4, .inl (cy 0, 30, .inl c1_103_170)), (5, .inl (cy 0, 30, .inl c2_103_171)), (6, .inl (cy 2, 30, .inl c3_103_172)), (9, .inl (cy 0, 120, .inl cd_113_45)), (8, .inl (cy 0, 120, .inl (fun _ => 0))), (12, .inl (cy 2, 5, .inl (fun _ => 0))), (11, .inl (cy 0, 5, .inl (fun _ => 0))), (10, .inl (cy 0, 5, .inl (fun _ => 0))), (7, .inl (cy 0, 30, .inl tt_113_44))] g) _ _ := hO
                                          refine lv_iinc (v := (nI (k + 1))) (lv' := [(7, .int (nI (k + 1))), (6, .int 3), (5, .int 0), (4, .int 1), (0, .ref (ad 0)), (1, .int x1), (2, .int x2), (3, .int x3)]) hx hb dX12_heaps_106 hl (k := 0) rfl (nI_add k 1) (by decide) rfl (fun ls hl => ?_)
                                          refine lv_goto (tgt := 75) hx hb dX12_heaps_109 (by decide) ?_
                                          simp only [List.set_set, st_can] at hO
                                          have hO : cO D cy A s.heap s 13 ad (cup [(3, .inl (cy 0, 5, .inl (fun _ => 0))), (0, .inr (12, ((f0.set 56 (.int (nI (k + 1)))).set 57 (.int 10000)))), (4, .inl (cy 0, 30, .inl c1_103_170)), (5, .inl (cy 0, 30, .inl c2_103_171)), (6, .inl (cy 2, 30, .inl c3_103_172)), (9, .inl (cy 0, 120, .inl cd_113_45)), (8, .inl (cy 0, 120, .inl (fun _ => 0))), (12, .inl (cy 2, 5, .inl (fun _ => 0))), (11, .inl (cy 0, 5, .inl (fun _ => 0))), (10, .inl (cy 0, 5, .inl (fun _ => 0))), (7, .inl (cy 0, 30, .inl tt_113_44))] g) _ _ := hO
                                          exact ih_75_58 (k + 1) c1_103_170 c2_103_171 c3_103_172 (by omega) (by omega) _ _ hO ls (lv_sub hl [0, 1, 2, 3, 4, 5, 6, 7] rfl)
                                        · refine lv_iconst (v := 1) hx hb dX12_heaps_97 (by decide) ?_
                                          refine lv_goto (tgt := 102) hx hb dX12_heaps_98 (by decide) ?_
                                          refine lv_iadd hx hb dX12_heaps_102 ?_
                                          refine cg_Vv (As := [.int x2, .int ((x1 / 3) + 1)]) (rest := []) (mc := 0) (ms := 0) (rm := { frames := 0, cells := 0, slots := 0, locals := 0 }) hC hl.1 hO [0, 4, 5, 6] rfl (c_X12_add l D cy _ _ (f0 := ((f0.set 56 (.int (nI k))).set 57 (.int 10000))) (c901 := g4) (c903 := g5) (c900 := g6) (m := k) (x1 := x2) (x2 := ((x1 / 3) + 1)) rfl (fs_ne (by decide) (fs_ne (by decide) f0_42)) (fs_ne (by decide) (fs_ne (by decide) f0_43)) (fs_ne (by decide) (fs_ne (by decide) f0_54)) (fs_ne (by decide) (fs_eq f0_56)) rfl rfl rfl (by omega)) gq_c_X12_heaps_c_X12_add_430 rfl rfl rfl 2 (by decide +kernel) ⟨Nat.le_of_ble_eq_true rfl, Nat.le_of_ble_eq_true rfl⟩ rfl (by decide) rfl rfl rfl (Nat.le_of_ble_eq_true rfl) dX12_heaps_103 ⟨Nat.le_of_ble_eq_true rfl, Nat.le_of_ble_eq_true rfl⟩ (fun nw_103_173 l_103_174 H locs hw hO => ?_)
                                          obtain ⟨c1_103_176, c2_103_177, c3_103_178, rfl⟩ := hw
                                          have hO : cO D cy A s.heap s 13 ad (cup [(3, .inl (cy 0, 5, .inl (fun _ => 0))), (0, .inr (12, (((f0.set 56 (.int (nI k))).set 57 (.int 10000)).set 56 (.int (nI (k + 1)))))), (4, .inl (cy 0, 30, .inl c1_103_176)), (5, .inl (cy 0, 30, .inl c2_103_177)), (6, .inl (cy 2, 30, .inl c3_103_178)), (9, .inl (cy 0, 120, .inl cd_113_45)), (8, .inl (cy 0, 120, .inl (fun _ => 0))), (12, .inl (cy 2, 5, .inl (fun _ => 0))), (11, .inl (cy 0, 5, .inl (fun _ => 0))), (10, .inl (cy 0, 5, .inl (fun _ => 0))), (7, .inl (cy 0, 30, .inl tt_113_44))] g) _ _ := hO
                                          refine lv_iinc (v := (nI (k + 1))) (lv' := [(7, .int (nI (k + 1))), (6, .int 3), (5, .int 0), (4, .int 1), (0, .ref (ad 0)), (1, .int x1), (2, .int x2), (3, .int x3)]) hx hb dX12_heaps_106 hl (k := 0) rfl (nI_add k 1) (by decide) rfl (fun ls hl => ?_)
                                          refine lv_goto (tgt := 75) hx hb dX12_heaps_109 (by decide) ?_
                                          simp only [List.set_set, st_can] at hO
                                          have hO : cO D cy A s.heap s 13 ad (cup [(3, .inl (cy 0, 5, .inl (fun _ => 0))), (0, .inr (12, ((f0.set 56 (.int (nI (k + 1)))).set 57 (.int 10000)))), (4, .inl (cy 0, 30, .inl c1_103_176)), (5, .inl (cy 0, 30, .inl c2_103_177)), (6, .inl (cy 2, 30, .inl c3_103_178)), (9, .inl (cy 0, 120, .inl cd_113_45)), (8, .inl (cy 0, 120, .inl (fun _ => 0))), (12, .inl (cy 2, 5, .inl (fun _ => 0))), (11, .inl (cy 0, 5, .inl (fun _ => 0))), (10, .inl (cy 0, 5, .inl (fun _ => 0))), (7, .inl (cy 0, 30, .inl tt_113_44))] g) _ _ := hO
                                          exact ih_75_58 (k + 1) c1_103_176 c2_103_177 c3_103_178 (by omega) (by omega) _ _ hO ls (lv_sub hl [0, 1, 2, 3, 4, 5, 6, 7] rfl)
                                  exact loop_75_55 (3 + 1) 0 g4 g5 g6 (by omega) (by omega) _ _ hO ls (lv_sub hl [0, 1, 3, 4, 5, 6, 7, 8] rfl)
                            exact loop_127_46 (k + 1) 0 (by omega) (by omega) _ _ hO ls hl
                          · have nh_79_40 : ¬ 2 ≤ k := fun z => h_79_40 ((nI_leI (a := 2) (b := k) (by omega) (by omega)).mpr z)
                            refine lv_aload_n hx hb dX12_heaps_82 rfl (lv_at hl 4 rfl) ?_
                            refine lv_iload_n hx hb dX12_heaps_83 rfl (lv_at hl 6 rfl) ?_
                            refine lv_iload_n hx hb dX12_heaps_84 rfl (lv_at hl 5 rfl) ?_
                            refine lv_iload hx hb dX12_heaps_85 (lv_at hl 1 rfl) ?_
                            refine lv_idiv hx hb dX12_heaps_87 (by decide) ?_
                            refine lv_iload hx hb dX12_heaps_88 (lv_at hl 0 rfl) ?_
                            refine lv_iload_n hx hb dX12_heaps_90 rfl (lv_at hl 5 rfl) ?_
                            refine lv_iload hx hb dX12_heaps_91 (lv_at hl 1 rfl) ?_
                            refine lv_irem hx hb dX12_heaps_93 (by decide) ?_
                            refine lv_icmp_ge (tgt := 101) hx hb dX12_heaps_94 (by decide) (fun h_94_179 => ?_) (fun h_94_179 => ?_)
                            · refine lv_iconst (v := 0) hx hb dX12_heaps_101 (by decide) ?_
                              refine lv_iadd hx hb dX12_heaps_102 ?_
                              refine cg_Vv (As := [.int x2, .int ((x1 / 2) + 0)]) (rest := []) (mc := 0) (ms := 0) (rm := { frames := 0, cells := 0, slots := 0, locals := 0 }) hC hl.1 hO [0, 4, 5, 6] rfl (c_X12_add l D cy _ _ (f0 := ((f0.set 56 (.int (nI k))).set 57 (.int 10000))) (c901 := g4) (c903 := g5) (c900 := g6) (m := k) (x1 := x2) (x2 := ((x1 / 2) + 0)) rfl (fs_ne (by decide) (fs_ne (by decide) f0_42)) (fs_ne (by decide) (fs_ne (by decide) f0_43)) (fs_ne (by decide) (fs_ne (by decide) f0_54)) (fs_ne (by decide) (fs_eq f0_56)) rfl rfl rfl (by omega)) gq_c_X12_heaps_c_X12_add_430 rfl rfl rfl 2 (by decide +kernel) ⟨Nat.le_of_ble_eq_true rfl, Nat.le_of_ble_eq_true rfl⟩ rfl (by decide) rfl rfl rfl (Nat.le_of_ble_eq_true rfl) dX12_heaps_103 ⟨Nat.le_of_ble_eq_true rfl, Nat.le_of_ble_eq_true rfl⟩ (fun nw_103_180 l_103_181 H locs hw hO => ?_)
                              obtain ⟨c1_103_183, c2_103_184, c3_103_185, rfl⟩ := hw
                              have hO : cO D cy A s.heap s 13 ad (cup [(3, .inl (cy 0, 5, .inl (fun _ => 0))), (0, .inr (12, (((f0.set 56 (.int (nI k))).set 57 (.int 10000)).set 56 (.int (nI (k + 1)))))), (4, .inl (cy 0, 30, .inl c1_103_183)), (5, .inl (cy 0, 30, .inl c2_103_184)), (6, .inl (cy 2, 30, .inl c3_103_185)), (9, .inl (cy 0, 120, .inl cd_113_25)), (8, .inl (cy 0, 120, .inl (fun _ => 0))), (12, .inl (cy 2, 5, .inl (fun _ => 0))), (11, .inl (cy 0, 5, .inl (fun _ => 0))), (10, .inl (cy 0, 5, .inl (fun _ => 0))), (7, .inl (cy 0, 30, .inl tt_113_24))] g) _ _ := hO
                              refine lv_iinc (v := (nI (k + 1))) (lv' := [(7, .int (nI (k + 1))), (6, .int 2), (5, .int 0), (4, .int 1), (0, .ref (ad 0)), (1, .int x1), (2, .int x2), (3, .int x3)]) hx hb dX12_heaps_106 hl (k := 0) rfl (nI_add k 1) (by decide) rfl (fun ls hl => ?_)
                              refine lv_goto (tgt := 75) hx hb dX12_heaps_109 (by decide) ?_
                              simp only [List.set_set, st_can] at hO
                              have hO : cO D cy A s.heap s 13 ad (cup [(3, .inl (cy 0, 5, .inl (fun _ => 0))), (0, .inr (12, ((f0.set 56 (.int (nI (k + 1)))).set 57 (.int 10000)))), (4, .inl (cy 0, 30, .inl c1_103_183)), (5, .inl (cy 0, 30, .inl c2_103_184)), (6, .inl (cy 2, 30, .inl c3_103_185)), (9, .inl (cy 0, 120, .inl cd_113_25)), (8, .inl (cy 0, 120, .inl (fun _ => 0))), (12, .inl (cy 2, 5, .inl (fun _ => 0))), (11, .inl (cy 0, 5, .inl (fun _ => 0))), (10, .inl (cy 0, 5, .inl (fun _ => 0))), (7, .inl (cy 0, 30, .inl tt_113_24))] g) _ _ := hO
                              exact ih_75_39 (k + 1) c1_103_183 c2_103_184 c3_103_185 (by omega) (by omega) _ _ hO ls (lv_sub hl [0, 1, 2, 3, 4, 5, 6, 7] rfl)
                            · refine lv_iconst (v := 1) hx hb dX12_heaps_97 (by decide) ?_
                              refine lv_goto (tgt := 102) hx hb dX12_heaps_98 (by decide) ?_
                              refine lv_iadd hx hb dX12_heaps_102 ?_
                              refine cg_Vv (As := [.int x2, .int ((x1 / 2) + 1)]) (rest := []) (mc := 0) (ms := 0) (rm := { frames := 0, cells := 0, slots := 0, locals := 0 }) hC hl.1 hO [0, 4, 5, 6] rfl (c_X12_add l D cy _ _ (f0 := ((f0.set 56 (.int (nI k))).set 57 (.int 10000))) (c901 := g4) (c903 := g5) (c900 := g6) (m := k) (x1 := x2) (x2 := ((x1 / 2) + 1)) rfl (fs_ne (by decide) (fs_ne (by decide) f0_42)) (fs_ne (by decide) (fs_ne (by decide) f0_43)) (fs_ne (by decide) (fs_ne (by decide) f0_54)) (fs_ne (by decide) (fs_eq f0_56)) rfl rfl rfl (by omega)) gq_c_X12_heaps_c_X12_add_430 rfl rfl rfl 2 (by decide +kernel) ⟨Nat.le_of_ble_eq_true rfl, Nat.le_of_ble_eq_true rfl⟩ rfl (by decide) rfl rfl rfl (Nat.le_of_ble_eq_true rfl) dX12_heaps_103 ⟨Nat.le_of_ble_eq_true rfl, Nat.le_of_ble_eq_true rfl⟩ (fun nw_103_186 l_103_187 H locs hw hO => ?_)
                              obtain ⟨c1_103_189, c2_103_190, c3_103_191, rfl⟩ := hw
                              have hO : cO D cy A s.heap s 13 ad (cup [(3, .inl (cy 0, 5, .inl (fun _ => 0))), (0, .inr (12, (((f0.set 56 (.int (nI k))).set 57 (.int 10000)).set 56 (.int (nI (k + 1)))))), (4, .inl (cy 0, 30, .inl c1_103_189)), (5, .inl (cy 0, 30, .inl c2_103_190)), (6, .inl (cy 2, 30, .inl c3_103_191)), (9, .inl (cy 0, 120, .inl cd_113_25)), (8, .inl (cy 0, 120, .inl (fun _ => 0))), (12, .inl (cy 2, 5, .inl (fun _ => 0))), (11, .inl (cy 0, 5, .inl (fun _ => 0))), (10, .inl (cy 0, 5, .inl (fun _ => 0))), (7, .inl (cy 0, 30, .inl tt_113_24))] g) _ _ := hO
                              refine lv_iinc (v := (nI (k + 1))) (lv' := [(7, .int (nI (k + 1))), (6, .int 2), (5, .int 0), (4, .int 1), (0, .ref (ad 0)), (1, .int x1), (2, .int x2), (3, .int x3)]) hx hb dX12_heaps_106 hl (k := 0) rfl (nI_add k 1) (by decide) rfl (fun ls hl => ?_)
                              refine lv_goto (tgt := 75) hx hb dX12_heaps_109 (by decide) ?_
                              simp only [List.set_set, st_can] at hO
                              have hO : cO D cy A s.heap s 13 ad (cup [(3, .inl (cy 0, 5, .inl (fun _ => 0))), (0, .inr (12, ((f0.set 56 (.int (nI (k + 1)))).set 57 (.int 10000)))), (4, .inl (cy 0, 30, .inl c1_103_189)), (5, .inl (cy 0, 30, .inl c2_103_190)), (6, .inl (cy 2, 30, .inl c3_103_191)), (9, .inl (cy 0, 120, .inl cd_113_25)), (8, .inl (cy 0, 120, .inl (fun _ => 0))), (12, .inl (cy 2, 5, .inl (fun _ => 0))), (11, .inl (cy 0, 5, .inl (fun _ => 0))), (10, .inl (cy 0, 5, .inl (fun _ => 0))), (7, .inl (cy 0, 30, .inl tt_113_24))] g) _ _ := hO
                              exact ih_75_39 (k + 1) c1_103_189 c2_103_190 c3_103_191 (by omega) (by omega) _ _ hO ls (lv_sub hl [0, 1, 2, 3, 4, 5, 6, 7] rfl)
                      exact loop_75_36 (2 + 1) 0 g4 g5 g6 (by omega) (by omega) _ _ hO ls (lv_sub hl [0, 1, 2, 3, 5, 6, 7, 8] rfl)
                  · have nh_133_30 : ¬ k ≤ j := fun z => h_133_30 ((nI_leI (by omega) (by omega)).mpr z)
                    refine lv_iload hx hb dX12_heaps_136 (lv_at hl 1 rfl) ?_
                    refine lv_aload_n hx hb dX12_heaps_138 rfl (lv_at hl 5 rfl) ?_
                    refine lv_iload hx hb dX12_heaps_139 (lv_at hl 0 rfl) ?_
                    refine cg_Vi (As := [.int (nI j)]) (rest := [.int 0]) (mc := 0) (ms := 0) (rm := { frames := 1, cells := 0, slots := 0, locals := 20 }) hC hl.1 hO [0, 2] rfl (c_X12_paidBy l D cy _ _ (f0 := ((f0.set 56 (.int (nI k))).set 57 (.int 10000))) (n := (nI j)) rfl (fs_ne (by decide) (fs_ne (by decide) f0_12)) (fs_ne (by decide) (fs_ne (by decide) f0_36)) a2) gq_c_X12_heaps_c_X12_paidBy_397 rfl rfl rfl 1 (by decide +kernel) ⟨Nat.le_of_ble_eq_true rfl, Nat.le_of_ble_eq_true rfl⟩ rfl (by decide) rfl rfl rfl (Nat.le_of_ble_eq_true rfl) dX12_heaps_141 ⟨Nat.le_of_ble_eq_true rfl, Nat.le_of_ble_eq_true rfl⟩ (fun r_141_194 nw_141_192 l_141_193 H locs hw hO => ?_)
                    obtain ⟨rfl, rfl⟩ := hw
                    have hO : cO D cy A s.heap s 13 ad (cup [(3, .inl (cy 0, 5, .inl (fun _ => 0))), (0, .inr (12, ((f0.set 56 (.int (nI k))).set 57 (.int 10000)))), (4, .inl (cy 0, 30, .inl g4)), (5, .inl (cy 0, 30, .inl g5)), (6, .inl (cy 2, 30, .inl g6)), (9, .inl (cy 0, 120, .inl cd_113_25)), (8, .inl (cy 0, 120, .inl (fun _ => 0))), (12, .inl (cy 2, 5, .inl (fun _ => 0))), (11, .inl (cy 0, 5, .inl (fun _ => 0))), (10, .inl (cy 0, 5, .inl (fun _ => 0))), (7, .inl (cy 0, 30, .inl tt_113_24))] g) _ _ := hO
                    refine lv_iadd hx hb dX12_heaps_144 ?_
                    refine cg_ev (v := 0) (by decide) ?_
                    refine lv_istore (lv' := [(7, .int 0), (8, .int (nI j)), (6, .int 1), (5, .int 0), (4, .int (-1)), (0, .ref (ad 0)), (1, .int x1), (2, .int x2), (3, .int x3)]) hx hb dX12_heaps_145 hl (by decide) rfl (fun ls hl => ?_)
                    refine lv_iinc (v := (nI (j + 1))) (lv' := [(8, .int (nI (j + 1))), (7, .int 0), (6, .int 1), (5, .int 0), (4, .int (-1)), (0, .ref (ad 0)), (1, .int x1), (2, .int x2), (3, .int x3)]) hx hb dX12_heaps_147 hl (k := 1) rfl (nI_add j 1) (by decide) rfl (fun ls hl => ?_)
                    refine lv_goto (tgt := 127) hx hb dX12_heaps_150 (by decide) ?_
                    exact ih_127_29 (j + 1) (by omega) (by omega) _ _ hO ls (lv_sub hl [0, 1, 2, 3, 4, 5, 6, 7, 8] rfl)
              exact loop_127_26 (k + 1) 0 (by omega) (by omega) _ _ hO ls hl
            · have nh_79_20 : ¬ 1 ≤ k := fun z => h_79_20 ((nI_leI (a := 1) (b := k) (by omega) (by omega)).mpr z)
              refine lv_aload_n hx hb dX12_heaps_82 rfl (lv_at hl 4 rfl) ?_
              refine lv_iload_n hx hb dX12_heaps_83 rfl (lv_at hl 6 rfl) ?_
              refine lv_iload_n hx hb dX12_heaps_84 rfl (lv_at hl 5 rfl) ?_
              refine lv_iload hx hb dX12_heaps_85 (lv_at hl 1 rfl) ?_
              refine lv_idiv hx hb dX12_heaps_87 (by decide) ?_
              refine lv_iload hx hb dX12_heaps_88 (lv_at hl 0 rfl) ?_
              refine lv_iload_n hx hb dX12_heaps_90 rfl (lv_at hl 5 rfl) ?_
              refine lv_iload hx hb dX12_heaps_91 (lv_at hl 1 rfl) ?_
              refine lv_irem hx hb dX12_heaps_93 (by decide) ?_
              refine lv_icmp_ge (tgt := 101) hx hb dX12_heaps_94 (by decide) (fun h_94_195 => ?_) (fun h_94_195 => ?_)
              · refine lv_iconst (v := 0) hx hb dX12_heaps_101 (by decide) ?_
                refine lv_iadd hx hb dX12_heaps_102 ?_
                refine cg_Vv (As := [.int x2, .int ((x1 / 1) + 0)]) (rest := []) (mc := 0) (ms := 0) (rm := { frames := 0, cells := 0, slots := 0, locals := 0 }) hC hl.1 hO [0, 4, 5, 6] rfl (c_X12_add l D cy _ _ (f0 := ((f0.set 56 (.int (nI k))).set 57 (.int 10000))) (c901 := g4) (c903 := g5) (c900 := g6) (m := k) (x1 := x2) (x2 := ((x1 / 1) + 0)) rfl (fs_ne (by decide) (fs_ne (by decide) f0_42)) (fs_ne (by decide) (fs_ne (by decide) f0_43)) (fs_ne (by decide) (fs_ne (by decide) f0_54)) (fs_ne (by decide) (fs_eq f0_56)) rfl rfl rfl (by omega)) gq_c_X12_heaps_c_X12_add_430 rfl rfl rfl 2 (by decide +kernel) ⟨Nat.le_of_ble_eq_true rfl, Nat.le_of_ble_eq_true rfl⟩ rfl (by decide) rfl rfl rfl (Nat.le_of_ble_eq_true rfl) dX12_heaps_103 ⟨Nat.le_of_ble_eq_true rfl, Nat.le_of_ble_eq_true rfl⟩ (fun nw_103_196 l_103_197 H locs hw hO => ?_)
                obtain ⟨c1_103_199, c2_103_200, c3_103_201, rfl⟩ := hw
                have hO : cO D cy A s.heap s 13 ad (cup [(3, .inl (cy 0, 5, .inl (fun _ => 0))), (0, .inr (12, (((f0.set 56 (.int (nI k))).set 57 (.int 10000)).set 56 (.int (nI (k + 1)))))), (4, .inl (cy 0, 30, .inl c1_103_199)), (5, .inl (cy 0, 30, .inl c2_103_200)), (6, .inl (cy 2, 30, .inl c3_103_201))] g) _ _ := hO
                refine lv_iinc (v := (nI (k + 1))) (lv' := [(7, .int (nI (k + 1))), (6, .int 1), (5, .int 0), (4, .int (-1)), (0, .ref (ad 0)), (1, .int x1), (2, .int x2), (3, .int x3)]) hx hb dX12_heaps_106 hl (k := 0) rfl (nI_add k 1) (by decide) rfl (fun ls hl => ?_)
                refine lv_goto (tgt := 75) hx hb dX12_heaps_109 (by decide) ?_
                simp only [List.set_set, st_can] at hO
                have hO : cO D cy A s.heap s 13 ad (cup [(3, .inl (cy 0, 5, .inl (fun _ => 0))), (0, .inr (12, ((f0.set 56 (.int (nI (k + 1)))).set 57 (.int 10000)))), (4, .inl (cy 0, 30, .inl c1_103_199)), (5, .inl (cy 0, 30, .inl c2_103_200)), (6, .inl (cy 2, 30, .inl c3_103_201))] g) _ _ := hO
                exact ih_75_19 (k + 1) c1_103_199 c2_103_200 c3_103_201 (by omega) (by omega) _ _ hO ls (lv_sub hl [0, 1, 2, 3, 4, 5, 6, 7] rfl)
              · refine lv_iconst (v := 1) hx hb dX12_heaps_97 (by decide) ?_
                refine lv_goto (tgt := 102) hx hb dX12_heaps_98 (by decide) ?_
                refine lv_iadd hx hb dX12_heaps_102 ?_
                refine cg_Vv (As := [.int x2, .int ((x1 / 1) + 1)]) (rest := []) (mc := 0) (ms := 0) (rm := { frames := 0, cells := 0, slots := 0, locals := 0 }) hC hl.1 hO [0, 4, 5, 6] rfl (c_X12_add l D cy _ _ (f0 := ((f0.set 56 (.int (nI k))).set 57 (.int 10000))) (c901 := g4) (c903 := g5) (c900 := g6) (m := k) (x1 := x2) (x2 := ((x1 / 1) + 1)) rfl (fs_ne (by decide) (fs_ne (by decide) f0_42)) (fs_ne (by decide) (fs_ne (by decide) f0_43)) (fs_ne (by decide) (fs_ne (by decide) f0_54)) (fs_ne (by decide) (fs_eq f0_56)) rfl rfl rfl (by omega)) gq_c_X12_heaps_c_X12_add_430 rfl rfl rfl 2 (by decide +kernel) ⟨Nat.le_of_ble_eq_true rfl, Nat.le_of_ble_eq_true rfl⟩ rfl (by decide) rfl rfl rfl (Nat.le_of_ble_eq_true rfl) dX12_heaps_103 ⟨Nat.le_of_ble_eq_true rfl, Nat.le_of_ble_eq_true rfl⟩ (fun nw_103_202 l_103_203 H locs hw hO => ?_)
                obtain ⟨c1_103_205, c2_103_206, c3_103_207, rfl⟩ := hw
                have hO : cO D cy A s.heap s 13 ad (cup [(3, .inl (cy 0, 5, .inl (fun _ => 0))), (0, .inr (12, (((f0.set 56 (.int (nI k))).set 57 (.int 10000)).set 56 (.int (nI (k + 1)))))), (4, .inl (cy 0, 30, .inl c1_103_205)), (5, .inl (cy 0, 30, .inl c2_103_206)), (6, .inl (cy 2, 30, .inl c3_103_207))] g) _ _ := hO
                refine lv_iinc (v := (nI (k + 1))) (lv' := [(7, .int (nI (k + 1))), (6, .int 1), (5, .int 0), (4, .int (-1)), (0, .ref (ad 0)), (1, .int x1), (2, .int x2), (3, .int x3)]) hx hb dX12_heaps_106 hl (k := 0) rfl (nI_add k 1) (by decide) rfl (fun ls hl => ?_)
                refine lv_goto (tgt := 75) hx hb dX12_heaps_109 (by decide) ?_
                simp only [List.set_set, st_can] at hO
                have hO : cO D cy A s.heap s 13 ad (cup [(3, .inl (cy 0, 5, .inl (fun _ => 0))), (0, .inr (12, ((f0.set 56 (.int (nI (k + 1)))).set 57 (.int 10000)))), (4, .inl (cy 0, 30, .inl c1_103_205)), (5, .inl (cy 0, 30, .inl c2_103_206)), (6, .inl (cy 2, 30, .inl c3_103_207))] g) _ _ := hO
                exact ih_75_19 (k + 1) c1_103_205 c2_103_206 c3_103_207 (by omega) (by omega) _ _ hO ls (lv_sub hl [0, 1, 2, 3, 4, 5, 6, 7] rfl)
        exact loop_75_16 (1 + 1) 0 c4 c5 c6 (by omega) (by omega) _ _ hO ls (lv_sub hl [0, 1, 2, 3, 4, 5, 6, 7] rfl)
      · obtain ⟨hr_24_208, rfl, rfl⟩ := hw
        have hO : cO D cy A s.heap s 13 ad (cup [] g) _ _ := hO
        refine lv_if_eq (tgt := 44) hx hb dX12_heaps_27 (by decide) (fun _ => ?_) (fun h => absurd h (by decide))
        refine lv_iconst (v := (-1)) hx hb dX12_heaps_44 (by decide) ?_
        exact cg_iret (nw := fun _ => 0) hC hr hlk hO.same rfl (Nat.le_of_ble_eq_true rfl) (Nat.le_of_ble_eq_true rfl) ((if_neg (fun z => hr_24_208 z.2.2)).symm) dX12_heaps_45
    · obtain ⟨hr_15_209, rfl, rfl⟩ := hw
      have hO : cO D cy A s.heap s 13 ad (cup [] g) _ _ := hO
      refine lv_if_eq (tgt := 44) hx hb dX12_heaps_18 (by decide) (fun _ => ?_) (fun h => absurd h (by decide))
      refine lv_iconst (v := (-1)) hx hb dX12_heaps_44 (by decide) ?_
      exact cg_iret (nw := fun _ => 0) hC hr hlk hO.same rfl (Nat.le_of_ble_eq_true rfl) (Nat.le_of_ble_eq_true rfl) ((if_neg (fun z => hr_15_209 z.2.1)).symm) dX12_heaps_45
  · obtain ⟨hr_4_210, rfl, rfl⟩ := hw
    have hO : cO D cy A s.heap s 13 ad (cup [] g) _ _ := hO
    refine lv_if_eq (tgt := 44) hx hb dX12_heaps_7 (by decide) (fun _ => ?_) (fun h => absurd h (by decide))
    refine lv_iconst (v := (-1)) hx hb dX12_heaps_44 (by decide) ?_
    exact cg_iret (nw := fun _ => 0) hC hr hlk hO.same rfl (Nat.le_of_ble_eq_true rfl) (Nat.le_of_ble_eq_true rfl) ((if_neg (fun z => hr_4_210 z.1)).symm) dX12_heaps_45

theorem dX12_partyPays_0 : decode cX12_partyPays 0 = .ok (.aload_n 0, 1) := by decide +kernel
theorem dX12_partyPays_1 : decode cX12_partyPays 1 = .ok (.invokevirtual 400, 3) := by decide +kernel
theorem dX12_partyPays_4 : decode cX12_partyPays 4 = .ok (.aload_n 0, 1) := by decide +kernel
theorem dX12_partyPays_5 : decode cX12_partyPays 5 = .ok (.getfield 379, 3) := by decide +kernel
theorem dX12_partyPays_8 : decode cX12_partyPays 8 = .ok (.istore 8, 2) := by decide +kernel
theorem dX12_partyPays_10 : decode cX12_partyPays 10 = .ok (.aload_n 0, 1) := by decide +kernel
theorem dX12_partyPays_11 : decode cX12_partyPays 11 = .ok (.iload_n 3, 1) := by decide +kernel
theorem dX12_partyPays_12 : decode cX12_partyPays 12 = .ok (.iload 5, 2) := by decide +kernel
theorem dX12_partyPays_14 : decode cX12_partyPays 14 = .ok (.iadd, 1) := by decide +kernel
theorem dX12_partyPays_15 : decode cX12_partyPays 15 = .ok (.iload_n 2, 1) := by decide +kernel
theorem dX12_partyPays_16 : decode cX12_partyPays 16 = .ok (.invokevirtual 430, 3) := by decide +kernel
theorem dX12_partyPays_19 : decode cX12_partyPays 19 = .ok (.iload_n 1, 1) := by decide +kernel
theorem dX12_partyPays_20 : decode cX12_partyPays 20 = .ok (.iconst 1, 1) := by decide +kernel
theorem dX12_partyPays_21 : decode cX12_partyPays 21 = .ok (.if_icmp .le 12, 3) := by decide +kernel
theorem dX12_partyPays_24 : decode cX12_partyPays 24 = .ok (.aload_n 0, 1) := by decide +kernel
theorem dX12_partyPays_25 : decode cX12_partyPays 25 = .ok (.iload_n 3, 1) := by decide +kernel
theorem dX12_partyPays_26 : decode cX12_partyPays 26 = .ok (.iload 6, 2) := by decide +kernel
theorem dX12_partyPays_28 : decode cX12_partyPays 28 = .ok (.iadd, 1) := by decide +kernel
theorem dX12_partyPays_29 : decode cX12_partyPays 29 = .ok (.iload_n 2, 1) := by decide +kernel
theorem dX12_partyPays_30 : decode cX12_partyPays 30 = .ok (.invokevirtual 430, 3) := by decide +kernel
theorem dX12_partyPays_33 : decode cX12_partyPays 33 = .ok (.iload_n 1, 1) := by decide +kernel
theorem dX12_partyPays_34 : decode cX12_partyPays 34 = .ok (.iconst 2, 1) := by decide +kernel
theorem dX12_partyPays_35 : decode cX12_partyPays 35 = .ok (.if_icmp .le 12, 3) := by decide +kernel
theorem dX12_partyPays_38 : decode cX12_partyPays 38 = .ok (.aload_n 0, 1) := by decide +kernel
theorem dX12_partyPays_39 : decode cX12_partyPays 39 = .ok (.iload_n 3, 1) := by decide +kernel
theorem dX12_partyPays_40 : decode cX12_partyPays 40 = .ok (.iload 7, 2) := by decide +kernel
theorem dX12_partyPays_42 : decode cX12_partyPays 42 = .ok (.iadd, 1) := by decide +kernel
theorem dX12_partyPays_43 : decode cX12_partyPays 43 = .ok (.iload_n 2, 1) := by decide +kernel
theorem dX12_partyPays_44 : decode cX12_partyPays 44 = .ok (.invokevirtual 430, 3) := by decide +kernel
theorem dX12_partyPays_47 : decode cX12_partyPays 47 = .ok (.aload_n 0, 1) := by decide +kernel
theorem dX12_partyPays_48 : decode cX12_partyPays 48 = .ok (.invokevirtual 403, 3) := by decide +kernel
theorem dX12_partyPays_51 : decode cX12_partyPays 51 = .ok (.iload 4, 2) := by decide +kernel
theorem dX12_partyPays_53 : decode cX12_partyPays 53 = .ok (.iload 5, 2) := by decide +kernel
theorem dX12_partyPays_55 : decode cX12_partyPays 55 = .ok (.iload_n 1, 1) := by decide +kernel
theorem dX12_partyPays_56 : decode cX12_partyPays 56 = .ok (.iconst 1, 1) := by decide +kernel
theorem dX12_partyPays_57 : decode cX12_partyPays 57 = .ok (.if_icmp .le 8, 3) := by decide +kernel
theorem dX12_partyPays_60 : decode cX12_partyPays 60 = .ok (.iload 6, 2) := by decide +kernel
theorem dX12_partyPays_62 : decode cX12_partyPays 62 = .ok (.goto 4, 3) := by decide +kernel
theorem dX12_partyPays_65 : decode cX12_partyPays 65 = .ok (.iconst 0, 1) := by decide +kernel
theorem dX12_partyPays_66 : decode cX12_partyPays 66 = .ok (.iadd, 1) := by decide +kernel
theorem dX12_partyPays_67 : decode cX12_partyPays 67 = .ok (.iload_n 1, 1) := by decide +kernel
theorem dX12_partyPays_68 : decode cX12_partyPays 68 = .ok (.iconst 2, 1) := by decide +kernel
theorem dX12_partyPays_69 : decode cX12_partyPays 69 = .ok (.if_icmp .le 8, 3) := by decide +kernel
theorem dX12_partyPays_72 : decode cX12_partyPays 72 = .ok (.iload 7, 2) := by decide +kernel
theorem dX12_partyPays_74 : decode cX12_partyPays 74 = .ok (.goto 4, 3) := by decide +kernel
theorem dX12_partyPays_77 : decode cX12_partyPays 77 = .ok (.iconst 0, 1) := by decide +kernel
theorem dX12_partyPays_78 : decode cX12_partyPays 78 = .ok (.iadd, 1) := by decide +kernel
theorem dX12_partyPays_79 : decode cX12_partyPays 79 = .ok (.imul, 1) := by decide +kernel
theorem dX12_partyPays_80 : decode cX12_partyPays 80 = .ok (.istore 9, 2) := by decide +kernel
theorem dX12_partyPays_82 : decode cX12_partyPays 82 = .ok (.iload 8, 2) := by decide +kernel
theorem dX12_partyPays_84 : decode cX12_partyPays 84 = .ok (.istore 10, 2) := by decide +kernel
theorem dX12_partyPays_86 : decode cX12_partyPays 86 = .ok (.iload 10, 2) := by decide +kernel
theorem dX12_partyPays_88 : decode cX12_partyPays 88 = .ok (.aload_n 0, 1) := by decide +kernel
theorem dX12_partyPays_89 : decode cX12_partyPays 89 = .ok (.getfield 379, 3) := by decide +kernel
theorem dX12_partyPays_92 : decode cX12_partyPays 92 = .ok (.if_icmp .ge 20, 3) := by decide +kernel
theorem dX12_partyPays_95 : decode cX12_partyPays 95 = .ok (.iload 9, 2) := by decide +kernel
theorem dX12_partyPays_97 : decode cX12_partyPays 97 = .ok (.aload_n 0, 1) := by decide +kernel
theorem dX12_partyPays_98 : decode cX12_partyPays 98 = .ok (.iload 10, 2) := by decide +kernel
theorem dX12_partyPays_100 : decode cX12_partyPays 100 = .ok (.invokevirtual 397, 3) := by decide +kernel
theorem dX12_partyPays_103 : decode cX12_partyPays 103 = .ok (.iadd, 1) := by decide +kernel
theorem dX12_partyPays_104 : decode cX12_partyPays 104 = .ok (.istore 9, 2) := by decide +kernel
theorem dX12_partyPays_106 : decode cX12_partyPays 106 = .ok (.iinc 10 1, 3) := by decide +kernel
theorem dX12_partyPays_109 : decode cX12_partyPays 109 = .ok (.goto (-23), 3) := by decide +kernel
theorem dX12_partyPays_112 : decode cX12_partyPays 112 = .ok (.iload 9, 2) := by decide +kernel
theorem dX12_partyPays_114 : decode cX12_partyPays 114 = .ok (.ireturn, 1) := by decide +kernel
def wq_c_X12_partyPays : List Cond := Cond.code yX12_partyPays cX12_partyPays 11 (some .int) :: (([Cond.methodLink RX12 400 yX12_layDay, Cond.instanceMethod yX12_layDay, Cond.selects RX12 yX12_layDay yX12_layDay, Cond.initialized RX12, Cond.code yX12_layDay cX12_layDay 2 none, Cond.fieldLink RX12 98 "CrowTollModel" "state" "[I", Cond.fieldLink RX12 379 "CrowTollModel" "dMany" "I", Cond.fieldLink RX12 382 "CrowTollModel" "dLimit" "I", Cond.fieldLink RX12 107 "CrowTollModel" "dFar" "[I", Cond.methodLink RX12 385 yX12_laySeats, Cond.instanceMethod yX12_laySeats, Cond.selects RX12 yX12_laySeats yX12_laySeats, Cond.code yX12_laySeats cX12_laySeats 3 none, Cond.methodLink RX12 370 yX12_postMany, Cond.instanceMethod yX12_postMany, Cond.selects RX12 yX12_postMany yX12_postMany, Cond.code yX12_postMany cX12_postMany 1 (some .int), Cond.fieldLink RX12 24 "CrowTollModel" "posts" "[I", Cond.fieldLink RX12 286 "CrowTollModel" "bank" "I", Cond.methodLink RX12 430 yX12_add, Cond.instanceMethod yX12_add, Cond.selects RX12 yX12_add yX12_add, Cond.code yX12_add cX12_add 3 none, Cond.fieldLink RX12 101 "CrowTollModel" "dMinute" "[I", Cond.fieldLink RX12 104 "CrowTollModel" "dSacks" "[I", Cond.fieldLink RX12 137 "CrowTollModel" "dComes" "[Z", Cond.methodLink RX12 403 yX12_goesBy, Cond.instanceMethod yX12_goesBy, Cond.selects RX12 yX12_goesBy yX12_goesBy, Cond.code yX12_goesBy cX12_goesBy 4 none, Cond.methodLink RX12 388 yX12_layTurns, Cond.instanceMethod yX12_layTurns, Cond.selects RX12 yX12_layTurns yX12_layTurns, Cond.code yX12_layTurns cX12_layTurns 4 (some .int), Cond.fieldLink RX12 116 "CrowTollModel" "turnOf" "[I", Cond.fieldLink RX12 125 "CrowTollModel" "count" "[I", Cond.fieldLink RX12 134 "CrowTollModel" "countedAll" "[I", Cond.fieldLink RX12 140 "CrowTollModel" "hasCounted" "[Z", Cond.fieldLink RX12 119 "CrowTollModel" "paid" "[I", Cond.fieldLink RX12 122 "CrowTollModel" "counted" "[I", Cond.methodLink RX12 397 yX12_paidBy, Cond.instanceMethod yX12_paidBy, Cond.selects RX12 yX12_paidBy yX12_paidBy, Cond.code yX12_paidBy cX12_paidBy 4 (some .int)] : List Cond) ++ wsX120)
set_option maxRecDepth 20000 in
theorem gr_c_X12_partyPays_c_X12_layDay : GoodIn wq_c_X12_partyPays wq_c_X12_layDay := List.forall_mem_cons.mpr ⟨⟨(List.mem_of_getElem? (i := 5) rfl), good_of_word rfl⟩, List.forall_mem_append.mpr ⟨List.forall_mem_cons.mpr ⟨⟨(List.mem_of_getElem? (i := 6) rfl), good_of_word rfl⟩, List.forall_mem_cons.mpr ⟨⟨(List.mem_of_getElem? (i := 7) rfl), good_of_word rfl⟩, List.forall_mem_cons.mpr ⟨⟨(List.mem_of_getElem? (i := 8) rfl), good_of_word rfl⟩, List.forall_mem_cons.mpr ⟨⟨(List.mem_of_getElem? (i := 9) rfl), good_of_word rfl⟩, List.forall_mem_cons.mpr ⟨⟨(List.mem_of_getElem? (i := 10) rfl), good_of_word rfl⟩, List.forall_mem_cons.mpr ⟨⟨(List.mem_of_getElem? (i := 11) rfl), good_of_word rfl⟩, List.forall_mem_cons.mpr ⟨⟨(List.mem_of_getElem? (i := 12) rfl), good_of_word rfl⟩, List.forall_mem_cons.mpr ⟨⟨(List.mem_of_getElem? (i := 4) rfl), good_of_word rfl⟩, List.forall_mem_cons.mpr ⟨⟨(List.mem_of_getElem? (i := 13) rfl), good_of_word rfl⟩, List.forall_mem_cons.mpr ⟨⟨(List.mem_of_getElem? (i := 14) rfl), good_of_word rfl⟩, List.forall_mem_cons.mpr ⟨⟨(List.mem_of_getElem? (i := 15) rfl), good_of_word rfl⟩, List.forall_mem_cons.mpr ⟨⟨(List.mem_of_getElem? (i := 16) rfl), good_of_word rfl⟩, List.forall_mem_cons.mpr ⟨⟨(List.mem_of_getElem? (i := 17) rfl), good_of_word rfl⟩, List.forall_mem_cons.mpr ⟨⟨(List.mem_of_getElem? (i := 18) rfl), good_of_word rfl⟩, List.forall_mem_cons.mpr ⟨⟨(List.mem_of_getElem? (i := 19) rfl), good_of_word rfl⟩, (fun _ h => absurd h List.not_mem_nil)⟩⟩⟩⟩⟩⟩⟩⟩⟩⟩⟩⟩⟩⟩⟩, fun w h => ⟨(fun w h => List.mem_cons_of_mem _ (List.mem_append_right _ h)) w h, good_of_word (List.all_eq_true.mp gw_X12 w h)⟩⟩⟩
set_option maxRecDepth 20000 in
theorem gq_c_X12_partyPays_c_X12_layDay_400 : GoodIn wq_c_X12_partyPays (wsV RX12 400 RX12 yX12_layDay wq_c_X12_layDay) := goodIn_app (List.forall_mem_cons.mpr ⟨⟨(List.mem_of_getElem? (i := 1) rfl), good_of_word rfl⟩, List.forall_mem_cons.mpr ⟨⟨(List.mem_of_getElem? (i := 2) rfl), good_of_word rfl⟩, List.forall_mem_cons.mpr ⟨⟨(List.mem_of_getElem? (i := 3) rfl), good_of_word rfl⟩, List.forall_mem_cons.mpr ⟨⟨(List.mem_of_getElem? (i := 4) rfl), good_of_word rfl⟩, (fun _ h => absurd h List.not_mem_nil)⟩⟩⟩⟩) gr_c_X12_partyPays_c_X12_layDay
set_option maxRecDepth 20000 in
theorem gr_c_X12_partyPays_c_X12_add : GoodIn wq_c_X12_partyPays wq_c_X12_add := List.forall_mem_cons.mpr ⟨⟨(List.mem_of_getElem? (i := 23) rfl), good_of_word rfl⟩, List.forall_mem_append.mpr ⟨List.forall_mem_cons.mpr ⟨⟨(List.mem_of_getElem? (i := 24) rfl), good_of_word rfl⟩, List.forall_mem_cons.mpr ⟨⟨(List.mem_of_getElem? (i := 7) rfl), good_of_word rfl⟩, List.forall_mem_cons.mpr ⟨⟨(List.mem_of_getElem? (i := 25) rfl), good_of_word rfl⟩, List.forall_mem_cons.mpr ⟨⟨(List.mem_of_getElem? (i := 26) rfl), good_of_word rfl⟩, (fun _ h => absurd h List.not_mem_nil)⟩⟩⟩⟩, fun w h => ⟨(fun w h => List.mem_cons_of_mem _ (List.mem_append_right _ h)) w h, good_of_word (List.all_eq_true.mp gw_X12 w h)⟩⟩⟩
set_option maxRecDepth 20000 in
theorem gq_c_X12_partyPays_c_X12_add_430 : GoodIn wq_c_X12_partyPays (wsV RX12 430 RX12 yX12_add wq_c_X12_add) := goodIn_app (List.forall_mem_cons.mpr ⟨⟨(List.mem_of_getElem? (i := 20) rfl), good_of_word rfl⟩, List.forall_mem_cons.mpr ⟨⟨(List.mem_of_getElem? (i := 21) rfl), good_of_word rfl⟩, List.forall_mem_cons.mpr ⟨⟨(List.mem_of_getElem? (i := 22) rfl), good_of_word rfl⟩, List.forall_mem_cons.mpr ⟨⟨(List.mem_of_getElem? (i := 4) rfl), good_of_word rfl⟩, (fun _ h => absurd h List.not_mem_nil)⟩⟩⟩⟩) gr_c_X12_partyPays_c_X12_add
set_option maxRecDepth 20000 in
theorem gr_c_X12_partyPays_c_X12_goesBy : GoodIn wq_c_X12_partyPays wq_c_X12_goesBy := List.forall_mem_cons.mpr ⟨⟨(List.mem_of_getElem? (i := 30) rfl), good_of_word rfl⟩, List.forall_mem_append.mpr ⟨List.forall_mem_cons.mpr ⟨⟨(List.mem_of_getElem? (i := 31) rfl), good_of_word rfl⟩, List.forall_mem_cons.mpr ⟨⟨(List.mem_of_getElem? (i := 32) rfl), good_of_word rfl⟩, List.forall_mem_cons.mpr ⟨⟨(List.mem_of_getElem? (i := 33) rfl), good_of_word rfl⟩, List.forall_mem_cons.mpr ⟨⟨(List.mem_of_getElem? (i := 4) rfl), good_of_word rfl⟩, List.forall_mem_cons.mpr ⟨⟨(List.mem_of_getElem? (i := 34) rfl), good_of_word rfl⟩, List.forall_mem_cons.mpr ⟨⟨(List.mem_of_getElem? (i := 7) rfl), good_of_word rfl⟩, List.forall_mem_cons.mpr ⟨⟨(List.mem_of_getElem? (i := 26) rfl), good_of_word rfl⟩, List.forall_mem_cons.mpr ⟨⟨(List.mem_of_getElem? (i := 35) rfl), good_of_word rfl⟩, List.forall_mem_cons.mpr ⟨⟨(List.mem_of_getElem? (i := 24) rfl), good_of_word rfl⟩, List.forall_mem_cons.mpr ⟨⟨(List.mem_of_getElem? (i := 36) rfl), good_of_word rfl⟩, List.forall_mem_cons.mpr ⟨⟨(List.mem_of_getElem? (i := 37) rfl), good_of_word rfl⟩, List.forall_mem_cons.mpr ⟨⟨(List.mem_of_getElem? (i := 38) rfl), good_of_word rfl⟩, List.forall_mem_cons.mpr ⟨⟨(List.mem_of_getElem? (i := 14) rfl), good_of_word rfl⟩, List.forall_mem_cons.mpr ⟨⟨(List.mem_of_getElem? (i := 15) rfl), good_of_word rfl⟩, List.forall_mem_cons.mpr ⟨⟨(List.mem_of_getElem? (i := 16) rfl), good_of_word rfl⟩, List.forall_mem_cons.mpr ⟨⟨(List.mem_of_getElem? (i := 17) rfl), good_of_word rfl⟩, List.forall_mem_cons.mpr ⟨⟨(List.mem_of_getElem? (i := 18) rfl), good_of_word rfl⟩, List.forall_mem_cons.mpr ⟨⟨(List.mem_of_getElem? (i := 19) rfl), good_of_word rfl⟩, List.forall_mem_cons.mpr ⟨⟨(List.mem_of_getElem? (i := 39) rfl), good_of_word rfl⟩, List.forall_mem_cons.mpr ⟨⟨(List.mem_of_getElem? (i := 40) rfl), good_of_word rfl⟩, (fun _ h => absurd h List.not_mem_nil)⟩⟩⟩⟩⟩⟩⟩⟩⟩⟩⟩⟩⟩⟩⟩⟩⟩⟩⟩⟩, fun w h => ⟨(fun w h => List.mem_cons_of_mem _ (List.mem_append_right _ h)) w h, good_of_word (List.all_eq_true.mp gw_X12 w h)⟩⟩⟩
set_option maxRecDepth 20000 in
theorem gq_c_X12_partyPays_c_X12_goesBy_403 : GoodIn wq_c_X12_partyPays (wsV RX12 403 RX12 yX12_goesBy wq_c_X12_goesBy) := goodIn_app (List.forall_mem_cons.mpr ⟨⟨(List.mem_of_getElem? (i := 27) rfl), good_of_word rfl⟩, List.forall_mem_cons.mpr ⟨⟨(List.mem_of_getElem? (i := 28) rfl), good_of_word rfl⟩, List.forall_mem_cons.mpr ⟨⟨(List.mem_of_getElem? (i := 29) rfl), good_of_word rfl⟩, List.forall_mem_cons.mpr ⟨⟨(List.mem_of_getElem? (i := 4) rfl), good_of_word rfl⟩, (fun _ h => absurd h List.not_mem_nil)⟩⟩⟩⟩) gr_c_X12_partyPays_c_X12_goesBy
set_option maxRecDepth 20000 in
theorem gr_c_X12_partyPays_c_X12_paidBy : GoodIn wq_c_X12_partyPays wq_c_X12_paidBy := List.forall_mem_cons.mpr ⟨⟨(List.mem_of_getElem? (i := 44) rfl), good_of_word rfl⟩, List.forall_mem_append.mpr ⟨List.forall_mem_cons.mpr ⟨⟨(List.mem_of_getElem? (i := 14) rfl), good_of_word rfl⟩, List.forall_mem_cons.mpr ⟨⟨(List.mem_of_getElem? (i := 15) rfl), good_of_word rfl⟩, List.forall_mem_cons.mpr ⟨⟨(List.mem_of_getElem? (i := 16) rfl), good_of_word rfl⟩, List.forall_mem_cons.mpr ⟨⟨(List.mem_of_getElem? (i := 4) rfl), good_of_word rfl⟩, List.forall_mem_cons.mpr ⟨⟨(List.mem_of_getElem? (i := 17) rfl), good_of_word rfl⟩, List.forall_mem_cons.mpr ⟨⟨(List.mem_of_getElem? (i := 18) rfl), good_of_word rfl⟩, List.forall_mem_cons.mpr ⟨⟨(List.mem_of_getElem? (i := 19) rfl), good_of_word rfl⟩, (fun _ h => absurd h List.not_mem_nil)⟩⟩⟩⟩⟩⟩⟩, fun w h => ⟨(fun w h => List.mem_cons_of_mem _ (List.mem_append_right _ h)) w h, good_of_word (List.all_eq_true.mp gw_X12 w h)⟩⟩⟩
set_option maxRecDepth 20000 in
theorem gq_c_X12_partyPays_c_X12_paidBy_397 : GoodIn wq_c_X12_partyPays (wsV RX12 397 RX12 yX12_paidBy wq_c_X12_paidBy) := goodIn_app (List.forall_mem_cons.mpr ⟨⟨(List.mem_of_getElem? (i := 41) rfl), good_of_word rfl⟩, List.forall_mem_cons.mpr ⟨⟨(List.mem_of_getElem? (i := 42) rfl), good_of_word rfl⟩, List.forall_mem_cons.mpr ⟨⟨(List.mem_of_getElem? (i := 43) rfl), good_of_word rfl⟩, List.forall_mem_cons.mpr ⟨⟨(List.mem_of_getElem? (i := 4) rfl), good_of_word rfl⟩, (fun _ h => absurd h List.not_mem_nil)⟩⟩⟩⟩) gr_c_X12_partyPays_c_X12_paidBy
set_option maxHeartbeats 8000000 in
set_option maxRecDepth 100000 in
theorem c_X12_partyPays (l : Launch) (D : va_G) (cy : Nat → ClassId) (ad : Nat → Nat) (g : Nat → va_E) {f0 : List Value} {xm : Int32} {xl : Int32} {c4 : Nat → Int32} {c5 : Nat → Int32} {c6 : Nat → Int32} {c7 : Nat → Int32} {c9 : Nat → Int32} {n : Nat} {s1 : Int32} {mi : Int32} {la : Nat} {o1 : Nat} {o2 : Nat} {o3 : Nat} (o0 : g 0 = .inr (12, f0)) (f0_12 : f0[12]? = some (.ref (ad 1))) (f0_36 : f0[36]? = some (.int 0)) (f0_41 : f0[41]? = some (.ref (ad 2))) (f0_42 : f0[42]? = some (.ref (ad 4))) (f0_43 : f0[43]? = some (.ref (ad 5))) (f0_44 : f0[44]? = some (.ref (ad 3))) (f0_47 : f0[47]? = some (.ref (ad 7))) (f0_48 : f0[48]? = some (.ref (ad 8))) (f0_49 : f0[49]? = some (.ref (ad 9))) (f0_50 : f0[50]? = some (.ref (ad 10))) (f0_53 : f0[53]? = some (.ref (ad 11))) (f0_54 : f0[54]? = some (.ref (ad 6))) (f0_55 : f0[55]? = some (.ref (ad 12))) (f0_56 : f0[56]? = some (.int xm)) (f0_57 : f0[57]? = some (.int xl)) (a1 : g 1 = .inl (cy 0, 2, .inl (fun _ => 0))) (a2 : g 2 = .inl (cy 0, 80, .inl (fun _ => 0))) (a3 : g 3 = .inl (cy 0, 5, .inl (fun _ => 0))) (a4 : g 4 = .inl (cy 0, 30, .inl c4)) (a5 : g 5 = .inl (cy 0, 30, .inl c5)) (a6 : g 6 = .inl (cy 2, 30, .inl c6)) (a7 : g 7 = .inl (cy 0, 30, .inl c7)) (a8 : g 8 = .inl (cy 0, 120, .inl (fun _ => 0))) (a9 : g 9 = .inl (cy 0, 120, .inl c9)) (a10 : g 10 = .inl (cy 0, 5, .inl (fun _ => 0))) (a11 : g 11 = .inl (cy 0, 5, .inl (fun _ => 0))) (a12 : g 12 = .inl (cy 2, 5, .inl (fun _ => 0))) (hn : n ≤ 3) (hla : la ≤ 99) (h1 : o1 ≤ 20) (h2 : o2 ≤ 20) (h3 : o3 ≤ 20) : cMi l yX12_partyPays wq_c_X12_partyPays { frames := 3, cells := 0, slots := 0, locals := 63 } 13 0 0 0 D cy ad g [.ref (ad 0), .int (nI n), .int s1, .int mi, .int (nI la), .int (nI o1), .int (nI o2), .int (nI o3)] (fun r nw lu => (∃ (c1_16_7 : Nat → Int32) (c2_16_8 : Nat → Int32) (c3_16_9 : Nat → Int32) (tt_48_14 : Nat → Int32) (cd_48_15 : Nat → Int32), ((la * ((o1 + 0) + 0)) + 0 ≤ 6000) ∧ (o1 + o2 + o3 = 0 → (la * ((o1 + 0) + 0)) + 0 = 0) ∧ ((nI n) ≤ 1) ∧ ((nI n) ≤ 2) ∧ (r = (nI ((la * ((o1 + 0) + 0)) + 0))) ∧ (lu = [(3, .inl (cy 0, 5, .inl (fun _ => 0))), (0, .inr (12, (((f0.set 56 (.int 0)).set 57 (.int 10000)).set 56 (.int 1)))), (6, .inl (cy 2, 30, .inl c3_16_9)), (5, .inl (cy 0, 30, .inl c2_16_8)), (4, .inl (cy 0, 30, .inl c1_16_7)), (9, .inl (cy 0, 120, .inl cd_48_15)), (8, .inl (cy 0, 120, .inl (fun _ => 0))), (12, .inl (cy 2, 5, .inl (fun _ => 0))), (11, .inl (cy 0, 5, .inl (fun _ => 0))), (10, .inl (cy 0, 5, .inl (fun _ => 0))), (7, .inl (cy 0, 30, .inl tt_48_14))])) ∨ (∃ (c1_16_7 : Nat → Int32) (c2_16_8 : Nat → Int32) (c3_16_9 : Nat → Int32) (tt_48_14 : Nat → Int32) (cd_48_15 : Nat → Int32), ((la * ((o1 + 0) + o3)) + 0 ≤ 6000) ∧ (o1 + o2 + o3 = 0 → (la * ((o1 + 0) + o3)) + 0 = 0) ∧ ((nI n) ≤ 1) ∧ (¬ ((nI n) ≤ 2)) ∧ (r = (nI ((la * ((o1 + 0) + o3)) + 0))) ∧ (lu = [(3, .inl (cy 0, 5, .inl (fun _ => 0))), (0, .inr (12, (((f0.set 56 (.int 0)).set 57 (.int 10000)).set 56 (.int 1)))), (6, .inl (cy 2, 30, .inl c3_16_9)), (5, .inl (cy 0, 30, .inl c2_16_8)), (4, .inl (cy 0, 30, .inl c1_16_7)), (9, .inl (cy 0, 120, .inl cd_48_15)), (8, .inl (cy 0, 120, .inl (fun _ => 0))), (12, .inl (cy 2, 5, .inl (fun _ => 0))), (11, .inl (cy 0, 5, .inl (fun _ => 0))), (10, .inl (cy 0, 5, .inl (fun _ => 0))), (7, .inl (cy 0, 30, .inl tt_48_14))])) ∨ (∃ (c1_30_26 : Nat → Int32) (c2_30_27 : Nat → Int32) (c3_30_28 : Nat → Int32) (tt_48_33 : Nat → Int32) (cd_48_34 : Nat → Int32), (((la * ((o1 + o2) + 0)) + 0) + 0 ≤ 6000) ∧ (o1 + o2 + o3 = 0 → ((la * ((o1 + o2) + 0)) + 0) + 0 = 0) ∧ (¬ ((nI n) ≤ 1)) ∧ ((nI n) ≤ 2) ∧ (r = (nI (((la * ((o1 + o2) + 0)) + 0) + 0))) ∧ (lu = [(3, .inl (cy 0, 5, .inl (fun _ => 0))), (0, .inr (12, ((((f0.set 56 (.int 0)).set 57 (.int 10000)).set 56 (.int 1)).set 56 (.int 2)))), (6, .inl (cy 2, 30, .inl c3_30_28)), (5, .inl (cy 0, 30, .inl c2_30_27)), (4, .inl (cy 0, 30, .inl c1_30_26)), (9, .inl (cy 0, 120, .inl cd_48_34)), (8, .inl (cy 0, 120, .inl (fun _ => 0))), (12, .inl (cy 2, 5, .inl (fun _ => 0))), (11, .inl (cy 0, 5, .inl (fun _ => 0))), (10, .inl (cy 0, 5, .inl (fun _ => 0))), (7, .inl (cy 0, 30, .inl tt_48_33))])) ∨ (∃ (c1_44_44 : Nat → Int32) (c2_44_45 : Nat → Int32) (c3_44_46 : Nat → Int32) (tt_48_50 : Nat → Int32) (cd_48_51 : Nat → Int32), ((((la * ((o1 + o2) + o3)) + 0) + 0) + 0 ≤ 6000) ∧ (o1 + o2 + o3 = 0 → (((la * ((o1 + o2) + o3)) + 0) + 0) + 0 = 0) ∧ (¬ ((nI n) ≤ 1)) ∧ (¬ ((nI n) ≤ 2)) ∧ (r = (nI ((((la * ((o1 + o2) + o3)) + 0) + 0) + 0))) ∧ (lu = [(3, .inl (cy 0, 5, .inl (fun _ => 0))), (0, .inr (12, (((((f0.set 56 (.int 0)).set 57 (.int 10000)).set 56 (.int 1)).set 56 (.int 2)).set 56 (.int 3)))), (6, .inl (cy 2, 30, .inl c3_44_46)), (5, .inl (cy 0, 30, .inl c2_44_45)), (4, .inl (cy 0, 30, .inl c1_44_44)), (9, .inl (cy 0, 120, .inl cd_48_51)), (8, .inl (cy 0, 120, .inl (fun _ => 0))), (12, .inl (cy 2, 5, .inl (fun _ => 0))), (11, .inl (cy 0, 5, .inl (fun _ => 0))), (10, .inl (cy 0, 5, .inl (fun _ => 0))), (7, .inl (cy 0, 30, .inl tt_48_50))]))) := by
  refine cM_of (Qc := fun A => cQi (fun r nw lu => (∃ (c1_16_7 : Nat → Int32) (c2_16_8 : Nat → Int32) (c3_16_9 : Nat → Int32) (tt_48_14 : Nat → Int32) (cd_48_15 : Nat → Int32), ((la * ((o1 + 0) + 0)) + 0 ≤ 6000) ∧ (o1 + o2 + o3 = 0 → (la * ((o1 + 0) + 0)) + 0 = 0) ∧ ((nI n) ≤ 1) ∧ ((nI n) ≤ 2) ∧ (r = (nI ((la * ((o1 + 0) + 0)) + 0))) ∧ (lu = [(3, .inl (cy 0, 5, .inl (fun _ => 0))), (0, .inr (12, (((f0.set 56 (.int 0)).set 57 (.int 10000)).set 56 (.int 1)))), (6, .inl (cy 2, 30, .inl c3_16_9)), (5, .inl (cy 0, 30, .inl c2_16_8)), (4, .inl (cy 0, 30, .inl c1_16_7)), (9, .inl (cy 0, 120, .inl cd_48_15)), (8, .inl (cy 0, 120, .inl (fun _ => 0))), (12, .inl (cy 2, 5, .inl (fun _ => 0))), (11, .inl (cy 0, 5, .inl (fun _ => 0))), (10, .inl (cy 0, 5, .inl (fun _ => 0))), (7, .inl (cy 0, 30, .inl tt_48_14))])) ∨ (∃ (c1_16_7 : Nat → Int32) (c2_16_8 : Nat → Int32) (c3_16_9 : Nat → Int32) (tt_48_14 : Nat → Int32) (cd_48_15 : Nat → Int32), ((la * ((o1 + 0) + o3)) + 0 ≤ 6000) ∧ (o1 + o2 + o3 = 0 → (la * ((o1 + 0) + o3)) + 0 = 0) ∧ ((nI n) ≤ 1) ∧ (¬ ((nI n) ≤ 2)) ∧ (r = (nI ((la * ((o1 + 0) + o3)) + 0))) ∧ (lu = [(3, .inl (cy 0, 5, .inl (fun _ => 0))), (0, .inr (12, (((f0.set 56 (.int 0)).set 57 (.int 10000)).set 56 (.int 1)))), (6, .inl (cy 2, 30, .inl c3_16_9)), (5, .inl (cy 0, 30, .inl c2_16_8)), (4, .inl (cy 0, 30, .inl c1_16_7)), (9, .inl (cy 0, 120, .inl cd_48_15)), (8, .inl (cy 0, 120, .inl (fun _ => 0))), (12, .inl (cy 2, 5, .inl (fun _ => 0))), (11, .inl (cy 0, 5, .inl (fun _ => 0))), (10, .inl (cy 0, 5, .inl (fun _ => 0))), (7, .inl (cy 0, 30, .inl tt_48_14))])) ∨ (∃ (c1_30_26 : Nat → Int32) (c2_30_27 : Nat → Int32) (c3_30_28 : Nat → Int32) (tt_48_33 : Nat → Int32) (cd_48_34 : Nat → Int32), (((la * ((o1 + o2) + 0)) + 0) + 0 ≤ 6000) ∧ (o1 + o2 + o3 = 0 → ((la * ((o1 + o2) + 0)) + 0) + 0 = 0) ∧ (¬ ((nI n) ≤ 1)) ∧ ((nI n) ≤ 2) ∧ (r = (nI (((la * ((o1 + o2) + 0)) + 0) + 0))) ∧ (lu = [(3, .inl (cy 0, 5, .inl (fun _ => 0))), (0, .inr (12, ((((f0.set 56 (.int 0)).set 57 (.int 10000)).set 56 (.int 1)).set 56 (.int 2)))), (6, .inl (cy 2, 30, .inl c3_30_28)), (5, .inl (cy 0, 30, .inl c2_30_27)), (4, .inl (cy 0, 30, .inl c1_30_26)), (9, .inl (cy 0, 120, .inl cd_48_34)), (8, .inl (cy 0, 120, .inl (fun _ => 0))), (12, .inl (cy 2, 5, .inl (fun _ => 0))), (11, .inl (cy 0, 5, .inl (fun _ => 0))), (10, .inl (cy 0, 5, .inl (fun _ => 0))), (7, .inl (cy 0, 30, .inl tt_48_33))])) ∨ (∃ (c1_44_44 : Nat → Int32) (c2_44_45 : Nat → Int32) (c3_44_46 : Nat → Int32) (tt_48_50 : Nat → Int32) (cd_48_51 : Nat → Int32), ((((la * ((o1 + o2) + o3)) + 0) + 0) + 0 ≤ 6000) ∧ (o1 + o2 + o3 = 0 → (((la * ((o1 + o2) + o3)) + 0) + 0) + 0 = 0) ∧ (¬ ((nI n) ≤ 1)) ∧ (¬ ((nI n) ≤ 2)) ∧ (r = (nI ((((la * ((o1 + o2) + o3)) + 0) + 0) + 0))) ∧ (lu = [(3, .inl (cy 0, 5, .inl (fun _ => 0))), (0, .inr (12, (((((f0.set 56 (.int 0)).set 57 (.int 10000)).set 56 (.int 1)).set 56 (.int 2)).set 56 (.int 3)))), (6, .inl (cy 2, 30, .inl c3_44_46)), (5, .inl (cy 0, 30, .inl c2_44_45)), (4, .inl (cy 0, 30, .inl c1_44_44)), (9, .inl (cy 0, 120, .inl cd_48_51)), (8, .inl (cy 0, 120, .inl (fun _ => 0))), (12, .inl (cy 2, 5, .inl (fun _ => 0))), (11, .inl (cy 0, 5, .inl (fun _ => 0))), (10, .inl (cy 0, 5, .inl (fun _ => 0))), (7, .inl (cy 0, 30, .inl tt_48_50))]))) D 13 0 ad g A) (cc := cX12_partyPays) (maxL := 11) (ret := (some .int)) (by decide) rfl (Nat.le_of_ble_eq_true rfl) ?_
  intro p e s m below meth c A hC hr hlk hnm hO ls hl
  have hC : CallFix p m c cX12_partyPays 11 s [.ref (ad 0), .int (nI n), .int s1, .int mi, .int (nI la), .int (nI o1), .int (nI o2), .int (nI o3)].toArray wq_c_X12_partyPays RX12 := hC
  obtain ⟨hx, hb, hml, hown, hts⟩ := id hC
  have hl : lv_has ls 11 [(0, .ref (ad 0)), (1, .int (nI n)), (2, .int s1), (3, .int mi), (4, .int (nI la)), (5, .int (nI o1)), (6, .int (nI o2)), (7, .int (nI o3))] := hl
  have i_X12 : ∀ w ∈ wsX120, w ∈ wq_c_X12_partyPays := fun w h => List.mem_cons_of_mem _ (List.mem_append_right _ h)
  refine lv_aload_n hx hb dX12_partyPays_0 rfl (lv_at hl 0 rfl) ?_
  refine cg_Vv (As := []) (rest := []) (mc := 0) (ms := 0) (rm := { frames := 2, cells := 0, slots := 0, locals := 42 }) hC hl.1 hO [0, 2, 3, 1] rfl (c_X12_layDay l D cy _ _ (f0 := f0) (xm := xm) (xl := xl) o0 f0_12 f0_36 f0_41 f0_44 f0_56 f0_57 a2 a3 a1) gq_c_X12_partyPays_c_X12_layDay_400 rfl rfl rfl 0 (by decide +kernel) ⟨Nat.le_of_ble_eq_true rfl, Nat.le_of_ble_eq_true rfl⟩ rfl (by decide) o0 rfl rfl (Nat.le_of_ble_eq_true rfl) dX12_partyPays_1 ⟨Nat.le_of_ble_eq_true rfl, Nat.le_of_ble_eq_true rfl⟩ (fun nw_1_1 l_1_2 H locs hw hO => ?_)
  obtain rfl := hw
  have hO : cO D cy A s.heap s 13 ad (cup [(3, .inl (cy 0, 5, .inl (fun _ => 0))), (0, .inr (12, ((f0.set 56 (.int 0)).set 57 (.int 10000))))] g) _ _ := hO
  refine lv_aload_n hx hb dX12_partyPays_4 rfl (lv_at hl 0 rfl) ?_
  refine cg_get hC hO 0 (by decide) rfl rfl i_X12 56 (by decide) (List.mem_of_getElem? (i := 7) rfl) (fs_ne (by decide) (fs_eq f0_56)) dX12_partyPays_5 ?_
  refine lv_istore (lv' := [(8, .int 0), (0, .ref (ad 0)), (1, .int (nI n)), (2, .int s1), (3, .int mi), (4, .int (nI la)), (5, .int (nI o1)), (6, .int (nI o2)), (7, .int (nI o3))]) hx hb dX12_partyPays_8 hl (by decide) rfl (fun ls hl => ?_)
  refine lv_aload_n hx hb dX12_partyPays_10 rfl (lv_at hl 1 rfl) ?_
  refine lv_iload_n hx hb dX12_partyPays_11 rfl (lv_at hl 4 rfl) ?_
  refine lv_iload hx hb dX12_partyPays_12 (lv_at hl 6 rfl) ?_
  refine lv_iadd hx hb dX12_partyPays_14 ?_
  refine lv_iload_n hx hb dX12_partyPays_15 rfl (lv_at hl 3 rfl) ?_
  refine cg_Vv (As := [.int (mi + (nI o1)), .int s1]) (rest := []) (mc := 0) (ms := 0) (rm := { frames := 0, cells := 0, slots := 0, locals := 0 }) hC hl.1 hO [0, 4, 5, 6] rfl (c_X12_add l D cy _ _ (f0 := ((f0.set 56 (.int 0)).set 57 (.int 10000))) (c901 := c4) (c903 := c5) (c900 := c6) (m := 0) (x1 := (mi + (nI o1))) (x2 := s1) rfl (fs_ne (by decide) (fs_ne (by decide) f0_42)) (fs_ne (by decide) (fs_ne (by decide) f0_43)) (fs_ne (by decide) (fs_ne (by decide) f0_54)) (fs_ne (by decide) (fs_eq f0_56)) a4 a5 a6 (by omega)) gq_c_X12_partyPays_c_X12_add_430 rfl rfl rfl 2 (by decide +kernel) ⟨Nat.le_of_ble_eq_true rfl, Nat.le_of_ble_eq_true rfl⟩ rfl (by decide) rfl rfl rfl (Nat.le_of_ble_eq_true rfl) dX12_partyPays_16 ⟨Nat.le_of_ble_eq_true rfl, Nat.le_of_ble_eq_true rfl⟩ (fun nw_16_4 l_16_5 H locs hw hO => ?_)
  obtain ⟨c1_16_7, c2_16_8, c3_16_9, rfl⟩ := hw
  have hO : cO D cy A s.heap s 13 ad (cup [(3, .inl (cy 0, 5, .inl (fun _ => 0))), (0, .inr (12, (((f0.set 56 (.int 0)).set 57 (.int 10000)).set 56 (.int 1)))), (6, .inl (cy 2, 30, .inl c3_16_9)), (5, .inl (cy 0, 30, .inl c2_16_8)), (4, .inl (cy 0, 30, .inl c1_16_7))] g) _ _ := hO
  refine lv_iload_n hx hb dX12_partyPays_19 rfl (lv_at hl 2 rfl) ?_
  refine lv_iconst (v := 1) hx hb dX12_partyPays_20 (by decide) ?_
  refine lv_icmp_le (tgt := 33) hx hb dX12_partyPays_21 (by decide) (fun h_21_10 => ?_) (fun h_21_10 => ?_)
  · have nh_21_10 : n ≤ 1 := (nI_leI (a := n) (b := 1) (by omega) (by omega)).mp h_21_10
    refine lv_iload_n hx hb dX12_partyPays_33 rfl (lv_at hl 2 rfl) ?_
    refine lv_iconst (v := 2) hx hb dX12_partyPays_34 (by decide) ?_
    refine lv_icmp_le (tgt := 47) hx hb dX12_partyPays_35 (by decide) (fun _ => ?_) (fun h => (show False from by have z : ¬ n ≤ 2 := fun q => h ((nI_leI (a := n) (b := 2) (by omega) (by omega)).mpr q); omega).elim)
    refine lv_aload_n hx hb dX12_partyPays_47 rfl (lv_at hl 1 rfl) ?_
    refine cg_Vv (As := []) (rest := []) (mc := 0) (ms := 0) (rm := { frames := 1, cells := 0, slots := 0, locals := 23 }) hC hl.1 hO [0, 4, 7, 6, 10, 11, 12, 8, 9, 1] rfl (c_X12_goesBy l D cy _ _ (f0 := (((f0.set 56 (.int 0)).set 57 (.int 10000)).set 56 (.int 1))) (c901 := c1_16_7) (c902 := c7) (c904 := c9) (c900 := c3_16_9) (m := (0 + 1)) rfl (fs_ne (by decide) (fs_ne (by decide) (fs_ne (by decide) f0_12))) (fs_ne (by decide) (fs_ne (by decide) (fs_ne (by decide) f0_36))) (fs_ne (by decide) (fs_ne (by decide) (fs_ne (by decide) f0_42))) (fs_ne (by decide) (fs_ne (by decide) (fs_ne (by decide) f0_47))) (fs_ne (by decide) (fs_ne (by decide) (fs_ne (by decide) f0_48))) (fs_ne (by decide) (fs_ne (by decide) (fs_ne (by decide) f0_49))) (fs_ne (by decide) (fs_ne (by decide) (fs_ne (by decide) f0_50))) (fs_ne (by decide) (fs_ne (by decide) (fs_ne (by decide) f0_53))) (fs_ne (by decide) (fs_ne (by decide) (fs_ne (by decide) f0_54))) (fs_ne (by decide) (fs_ne (by decide) (fs_ne (by decide) f0_55))) (fs_eq (fs_ne (by decide) (fs_eq f0_56))) rfl a7 rfl a10 a11 a12 a8 a9 a1 (by omega)) gq_c_X12_partyPays_c_X12_goesBy_403 rfl rfl rfl 0 (by decide +kernel) ⟨Nat.le_of_ble_eq_true rfl, Nat.le_of_ble_eq_true rfl⟩ rfl (by decide) rfl rfl rfl (Nat.le_of_ble_eq_true rfl) dX12_partyPays_48 ⟨Nat.le_of_ble_eq_true rfl, Nat.le_of_ble_eq_true rfl⟩ (fun nw_48_11 l_48_12 H locs hw hO => ?_)
    obtain ⟨tt_48_14, cd_48_15, rfl⟩ := hw
    have hO : cO D cy A s.heap s 13 ad (cup [(3, .inl (cy 0, 5, .inl (fun _ => 0))), (0, .inr (12, (((f0.set 56 (.int 0)).set 57 (.int 10000)).set 56 (.int 1)))), (6, .inl (cy 2, 30, .inl c3_16_9)), (5, .inl (cy 0, 30, .inl c2_16_8)), (4, .inl (cy 0, 30, .inl c1_16_7)), (9, .inl (cy 0, 120, .inl cd_48_15)), (8, .inl (cy 0, 120, .inl (fun _ => 0))), (12, .inl (cy 2, 5, .inl (fun _ => 0))), (11, .inl (cy 0, 5, .inl (fun _ => 0))), (10, .inl (cy 0, 5, .inl (fun _ => 0))), (7, .inl (cy 0, 30, .inl tt_48_14))] g) _ _ := hO
    refine lv_iload hx hb dX12_partyPays_51 (lv_at hl 5 rfl) ?_
    refine lv_iload hx hb dX12_partyPays_53 (lv_at hl 6 rfl) ?_
    refine lv_iload_n hx hb dX12_partyPays_55 rfl (lv_at hl 2 rfl) ?_
    refine lv_iconst (v := 1) hx hb dX12_partyPays_56 (by decide) ?_
    refine lv_icmp_le (tgt := 65) hx hb dX12_partyPays_57 (by decide) (fun _ => ?_) (fun h => absurd h_21_10 h)
    refine lv_iconst (v := 0) hx hb dX12_partyPays_65 (by decide) ?_
    refine lv_iadd hx hb dX12_partyPays_66 ?_
    refine cg_ev (v := (nI (o1 + 0))) (nI_add o1 0) ?_
    refine lv_iload_n hx hb dX12_partyPays_67 rfl (lv_at hl 2 rfl) ?_
    refine lv_iconst (v := 2) hx hb dX12_partyPays_68 (by decide) ?_
    refine lv_icmp_le (tgt := 77) hx hb dX12_partyPays_69 (by decide) (fun h_69_16 => ?_) (fun h_69_16 => ?_)
    · have nh_69_16 : n ≤ 2 := (nI_leI (a := n) (b := 2) (by omega) (by omega)).mp h_69_16
      refine lv_iconst (v := 0) hx hb dX12_partyPays_77 (by decide) ?_
      refine lv_iadd hx hb dX12_partyPays_78 ?_
      refine cg_ev (v := (nI ((o1 + 0) + 0))) (nI_add (o1 + 0) 0) ?_
      refine lv_imul hx hb dX12_partyPays_79 ?_
      refine cg_ev (v := (nI (la * ((o1 + 0) + 0)))) (pk_mul la ((o1 + 0) + 0)) ?_
      refine lv_istore (lv' := [(9, .int (nI (la * ((o1 + 0) + 0)))), (8, .int 0), (0, .ref (ad 0)), (1, .int (nI n)), (2, .int s1), (3, .int mi), (4, .int (nI la)), (5, .int (nI o1)), (6, .int (nI o2)), (7, .int (nI o3))]) hx hb dX12_partyPays_80 hl (by decide) rfl (fun ls hl => ?_)
      refine lv_iload hx hb dX12_partyPays_82 (lv_at hl 1 rfl) ?_
      refine lv_istore (lv' := [(10, .int 0), (9, .int (nI (la * ((o1 + 0) + 0)))), (8, .int 0), (0, .ref (ad 0)), (1, .int (nI n)), (2, .int s1), (3, .int mi), (4, .int (nI la)), (5, .int (nI o1)), (6, .int (nI o2)), (7, .int (nI o3))]) hx hb dX12_partyPays_84 hl (by decide) rfl (fun ls hl => ?_)
      refine lv_iload hx hb dX12_partyPays_86 (lv_at hl 0 rfl) ?_
      refine lv_aload_n hx hb dX12_partyPays_88 rfl (lv_at hl 3 rfl) ?_
      refine cg_get hC hO 0 (by decide) rfl rfl i_X12 56 (by decide) (List.mem_of_getElem? (i := 7) rfl) (fs_eq (fs_ne (by decide) (fs_eq f0_56))) dX12_partyPays_89 ?_
      refine lv_icmp_ge (tgt := 112) hx hb dX12_partyPays_92 (by decide) (fun h => absurd h (by decide)) (fun _ => ?_)
      refine lv_iload hx hb dX12_partyPays_95 (lv_at hl 1 rfl) ?_
      refine lv_aload_n hx hb dX12_partyPays_97 rfl (lv_at hl 3 rfl) ?_
      refine lv_iload hx hb dX12_partyPays_98 (lv_at hl 0 rfl) ?_
      refine cg_Vi (As := [.int 0]) (rest := [.int (nI (la * ((o1 + 0) + 0)))]) (mc := 0) (ms := 0) (rm := { frames := 1, cells := 0, slots := 0, locals := 20 }) hC hl.1 hO [0, 1] rfl (c_X12_paidBy l D cy _ _ (f0 := (((f0.set 56 (.int 0)).set 57 (.int 10000)).set 56 (.int 1))) (n := 0) rfl (fs_ne (by decide) (fs_ne (by decide) (fs_ne (by decide) f0_12))) (fs_ne (by decide) (fs_ne (by decide) (fs_ne (by decide) f0_36))) a1) gq_c_X12_partyPays_c_X12_paidBy_397 rfl rfl rfl 1 (by decide +kernel) ⟨Nat.le_of_ble_eq_true rfl, Nat.le_of_ble_eq_true rfl⟩ rfl (by decide) rfl rfl rfl (Nat.le_of_ble_eq_true rfl) dX12_partyPays_100 ⟨Nat.le_of_ble_eq_true rfl, Nat.le_of_ble_eq_true rfl⟩ (fun r_100_19 nw_100_17 l_100_18 H locs hw hO => ?_)
      obtain ⟨rfl, rfl⟩ := hw
      have hO : cO D cy A s.heap s 13 ad (cup [(3, .inl (cy 0, 5, .inl (fun _ => 0))), (0, .inr (12, (((f0.set 56 (.int 0)).set 57 (.int 10000)).set 56 (.int 1)))), (6, .inl (cy 2, 30, .inl c3_16_9)), (5, .inl (cy 0, 30, .inl c2_16_8)), (4, .inl (cy 0, 30, .inl c1_16_7)), (9, .inl (cy 0, 120, .inl cd_48_15)), (8, .inl (cy 0, 120, .inl (fun _ => 0))), (12, .inl (cy 2, 5, .inl (fun _ => 0))), (11, .inl (cy 0, 5, .inl (fun _ => 0))), (10, .inl (cy 0, 5, .inl (fun _ => 0))), (7, .inl (cy 0, 30, .inl tt_48_14))] g) _ _ := hO
      refine lv_iadd hx hb dX12_partyPays_103 ?_
      refine cg_ev (v := (nI ((la * ((o1 + 0) + 0)) + 0))) (nI_add (la * ((o1 + 0) + 0)) 0) ?_
      refine lv_istore (lv' := [(9, .int (nI ((la * ((o1 + 0) + 0)) + 0))), (10, .int 0), (8, .int 0), (0, .ref (ad 0)), (1, .int (nI n)), (2, .int s1), (3, .int mi), (4, .int (nI la)), (5, .int (nI o1)), (6, .int (nI o2)), (7, .int (nI o3))]) hx hb dX12_partyPays_104 hl (by decide) rfl (fun ls hl => ?_)
      refine lv_iinc (v := 1) (lv' := [(10, .int 1), (9, .int (nI ((la * ((o1 + 0) + 0)) + 0))), (8, .int 0), (0, .ref (ad 0)), (1, .int (nI n)), (2, .int s1), (3, .int mi), (4, .int (nI la)), (5, .int (nI o1)), (6, .int (nI o2)), (7, .int (nI o3))]) hx hb dX12_partyPays_106 hl (k := 1) rfl (by decide) (by decide) rfl (fun ls hl => ?_)
      refine lv_goto (tgt := 86) hx hb dX12_partyPays_109 (by decide) ?_
      refine lv_iload hx hb dX12_partyPays_86 (lv_at hl 0 rfl) ?_
      refine lv_aload_n hx hb dX12_partyPays_88 rfl (lv_at hl 3 rfl) ?_
      refine cg_get hC hO 0 (by decide) rfl rfl i_X12 56 (by decide) (List.mem_of_getElem? (i := 7) rfl) (fs_eq (fs_ne (by decide) (fs_eq f0_56))) dX12_partyPays_89 ?_
      refine lv_icmp_ge (tgt := 112) hx hb dX12_partyPays_92 (by decide) (fun _ => ?_) (fun h => absurd h (by decide))
      have hS : (la * ((o1 + 0) + 0)) + 0 ≤ 6000 := by have z := Nat.mul_le_mul hla (show ((o1 + 0) + 0) ≤ 60 by omega); omega
      have hZ : o1 + o2 + o3 = 0 → (la * ((o1 + 0) + 0)) + 0 = 0 := fun h => by have z : ((o1 + 0) + 0) = 0 := (by omega); rw [z]; simp
      refine lv_iload hx hb dX12_partyPays_112 (lv_at hl 1 rfl) ?_
      exact cg_iret (nw := fun _ => 0) hC hr hlk hO.same rfl (Nat.le_of_ble_eq_true rfl) (Nat.le_of_ble_eq_true rfl) (Or.inl ⟨c1_16_7, c2_16_8, c3_16_9, tt_48_14, cd_48_15, hS, hZ, h_21_10, h_69_16, rfl, rfl⟩) dX12_partyPays_114
    · have nh_69_16 : ¬ n ≤ 2 := fun z => h_69_16 ((nI_leI (a := n) (b := 2) (by omega) (by omega)).mpr z)
      refine lv_iload hx hb dX12_partyPays_72 (lv_at hl 8 rfl) ?_
      refine lv_goto (tgt := 78) hx hb dX12_partyPays_74 (by decide) ?_
      refine lv_iadd hx hb dX12_partyPays_78 ?_
      refine cg_ev (v := (nI ((o1 + 0) + o3))) (nI_add (o1 + 0) o3) ?_
      refine lv_imul hx hb dX12_partyPays_79 ?_
      refine cg_ev (v := (nI (la * ((o1 + 0) + o3)))) (pk_mul la ((o1 + 0) + o3)) ?_
      refine lv_istore (lv' := [(9, .int (nI (la * ((o1 + 0) + o3)))), (8, .int 0), (0, .ref (ad 0)), (1, .int (nI n)), (2, .int s1), (3, .int mi), (4, .int (nI la)), (5, .int (nI o1)), (6, .int (nI o2)), (7, .int (nI o3))]) hx hb dX12_partyPays_80 hl (by decide) rfl (fun ls hl => ?_)
      refine lv_iload hx hb dX12_partyPays_82 (lv_at hl 1 rfl) ?_
      refine lv_istore (lv' := [(10, .int 0), (9, .int (nI (la * ((o1 + 0) + o3)))), (8, .int 0), (0, .ref (ad 0)), (1, .int (nI n)), (2, .int s1), (3, .int mi), (4, .int (nI la)), (5, .int (nI o1)), (6, .int (nI o2)), (7, .int (nI o3))]) hx hb dX12_partyPays_84 hl (by decide) rfl (fun ls hl => ?_)
      refine lv_iload hx hb dX12_partyPays_86 (lv_at hl 0 rfl) ?_
      refine lv_aload_n hx hb dX12_partyPays_88 rfl (lv_at hl 3 rfl) ?_
      refine cg_get hC hO 0 (by decide) rfl rfl i_X12 56 (by decide) (List.mem_of_getElem? (i := 7) rfl) (fs_eq (fs_ne (by decide) (fs_eq f0_56))) dX12_partyPays_89 ?_
      refine lv_icmp_ge (tgt := 112) hx hb dX12_partyPays_92 (by decide) (fun h => absurd h (by decide)) (fun _ => ?_)
      refine lv_iload hx hb dX12_partyPays_95 (lv_at hl 1 rfl) ?_
      refine lv_aload_n hx hb dX12_partyPays_97 rfl (lv_at hl 3 rfl) ?_
      refine lv_iload hx hb dX12_partyPays_98 (lv_at hl 0 rfl) ?_
      refine cg_Vi (As := [.int 0]) (rest := [.int (nI (la * ((o1 + 0) + o3)))]) (mc := 0) (ms := 0) (rm := { frames := 1, cells := 0, slots := 0, locals := 20 }) hC hl.1 hO [0, 1] rfl (c_X12_paidBy l D cy _ _ (f0 := (((f0.set 56 (.int 0)).set 57 (.int 10000)).set 56 (.int 1))) (n := 0) rfl (fs_ne (by decide) (fs_ne (by decide) (fs_ne (by decide) f0_12))) (fs_ne (by decide) (fs_ne (by decide) (fs_ne (by decide) f0_36))) a1) gq_c_X12_partyPays_c_X12_paidBy_397 rfl rfl rfl 1 (by decide +kernel) ⟨Nat.le_of_ble_eq_true rfl, Nat.le_of_ble_eq_true rfl⟩ rfl (by decide) rfl rfl rfl (Nat.le_of_ble_eq_true rfl) dX12_partyPays_100 ⟨Nat.le_of_ble_eq_true rfl, Nat.le_of_ble_eq_true rfl⟩ (fun r_100_22 nw_100_20 l_100_21 H locs hw hO => ?_)
      obtain ⟨rfl, rfl⟩ := hw
      have hO : cO D cy A s.heap s 13 ad (cup [(3, .inl (cy 0, 5, .inl (fun _ => 0))), (0, .inr (12, (((f0.set 56 (.int 0)).set 57 (.int 10000)).set 56 (.int 1)))), (6, .inl (cy 2, 30, .inl c3_16_9)), (5, .inl (cy 0, 30, .inl c2_16_8)), (4, .inl (cy 0, 30, .inl c1_16_7)), (9, .inl (cy 0, 120, .inl cd_48_15)), (8, .inl (cy 0, 120, .inl (fun _ => 0))), (12, .inl (cy 2, 5, .inl (fun _ => 0))), (11, .inl (cy 0, 5, .inl (fun _ => 0))), (10, .inl (cy 0, 5, .inl (fun _ => 0))), (7, .inl (cy 0, 30, .inl tt_48_14))] g) _ _ := hO
      refine lv_iadd hx hb dX12_partyPays_103 ?_
      refine cg_ev (v := (nI ((la * ((o1 + 0) + o3)) + 0))) (nI_add (la * ((o1 + 0) + o3)) 0) ?_
      refine lv_istore (lv' := [(9, .int (nI ((la * ((o1 + 0) + o3)) + 0))), (10, .int 0), (8, .int 0), (0, .ref (ad 0)), (1, .int (nI n)), (2, .int s1), (3, .int mi), (4, .int (nI la)), (5, .int (nI o1)), (6, .int (nI o2)), (7, .int (nI o3))]) hx hb dX12_partyPays_104 hl (by decide) rfl (fun ls hl => ?_)
      refine lv_iinc (v := 1) (lv' := [(10, .int 1), (9, .int (nI ((la * ((o1 + 0) + o3)) + 0))), (8, .int 0), (0, .ref (ad 0)), (1, .int (nI n)), (2, .int s1), (3, .int mi), (4, .int (nI la)), (5, .int (nI o1)), (6, .int (nI o2)), (7, .int (nI o3))]) hx hb dX12_partyPays_106 hl (k := 1) rfl (by decide) (by decide) rfl (fun ls hl => ?_)
      refine lv_goto (tgt := 86) hx hb dX12_partyPays_109 (by decide) ?_
      refine lv_iload hx hb dX12_partyPays_86 (lv_at hl 0 rfl) ?_
      refine lv_aload_n hx hb dX12_partyPays_88 rfl (lv_at hl 3 rfl) ?_
      refine cg_get hC hO 0 (by decide) rfl rfl i_X12 56 (by decide) (List.mem_of_getElem? (i := 7) rfl) (fs_eq (fs_ne (by decide) (fs_eq f0_56))) dX12_partyPays_89 ?_
      refine lv_icmp_ge (tgt := 112) hx hb dX12_partyPays_92 (by decide) (fun _ => ?_) (fun h => absurd h (by decide))
      have hS : (la * ((o1 + 0) + o3)) + 0 ≤ 6000 := by have z := Nat.mul_le_mul hla (show ((o1 + 0) + o3) ≤ 60 by omega); omega
      have hZ : o1 + o2 + o3 = 0 → (la * ((o1 + 0) + o3)) + 0 = 0 := fun h => by have z : ((o1 + 0) + o3) = 0 := (by omega); rw [z]; simp
      refine lv_iload hx hb dX12_partyPays_112 (lv_at hl 1 rfl) ?_
      exact cg_iret (nw := fun _ => 0) hC hr hlk hO.same rfl (Nat.le_of_ble_eq_true rfl) (Nat.le_of_ble_eq_true rfl) (Or.inr (Or.inl ⟨c1_16_7, c2_16_8, c3_16_9, tt_48_14, cd_48_15, hS, hZ, h_21_10, h_69_16, rfl, rfl⟩)) dX12_partyPays_114
  · have nh_21_10 : ¬ n ≤ 1 := fun z => h_21_10 ((nI_leI (a := n) (b := 1) (by omega) (by omega)).mpr z)
    refine lv_aload_n hx hb dX12_partyPays_24 rfl (lv_at hl 1 rfl) ?_
    refine lv_iload_n hx hb dX12_partyPays_25 rfl (lv_at hl 4 rfl) ?_
    refine lv_iload hx hb dX12_partyPays_26 (lv_at hl 7 rfl) ?_
    refine lv_iadd hx hb dX12_partyPays_28 ?_
    refine lv_iload_n hx hb dX12_partyPays_29 rfl (lv_at hl 3 rfl) ?_
    refine cg_Vv (As := [.int (mi + (nI o2)), .int s1]) (rest := []) (mc := 0) (ms := 0) (rm := { frames := 0, cells := 0, slots := 0, locals := 0 }) hC hl.1 hO [0, 4, 5, 6] rfl (c_X12_add l D cy _ _ (f0 := (((f0.set 56 (.int 0)).set 57 (.int 10000)).set 56 (.int 1))) (c901 := c1_16_7) (c903 := c2_16_8) (c900 := c3_16_9) (m := (0 + 1)) (x1 := (mi + (nI o2))) (x2 := s1) rfl (fs_ne (by decide) (fs_ne (by decide) (fs_ne (by decide) f0_42))) (fs_ne (by decide) (fs_ne (by decide) (fs_ne (by decide) f0_43))) (fs_ne (by decide) (fs_ne (by decide) (fs_ne (by decide) f0_54))) (fs_eq (fs_ne (by decide) (fs_eq f0_56))) rfl rfl rfl (by omega)) gq_c_X12_partyPays_c_X12_add_430 rfl rfl rfl 2 (by decide +kernel) ⟨Nat.le_of_ble_eq_true rfl, Nat.le_of_ble_eq_true rfl⟩ rfl (by decide) rfl rfl rfl (Nat.le_of_ble_eq_true rfl) dX12_partyPays_30 ⟨Nat.le_of_ble_eq_true rfl, Nat.le_of_ble_eq_true rfl⟩ (fun nw_30_23 l_30_24 H locs hw hO => ?_)
    obtain ⟨c1_30_26, c2_30_27, c3_30_28, rfl⟩ := hw
    have hO : cO D cy A s.heap s 13 ad (cup [(3, .inl (cy 0, 5, .inl (fun _ => 0))), (0, .inr (12, ((((f0.set 56 (.int 0)).set 57 (.int 10000)).set 56 (.int 1)).set 56 (.int 2)))), (6, .inl (cy 2, 30, .inl c3_30_28)), (5, .inl (cy 0, 30, .inl c2_30_27)), (4, .inl (cy 0, 30, .inl c1_30_26))] g) _ _ := hO
    refine lv_iload_n hx hb dX12_partyPays_33 rfl (lv_at hl 2 rfl) ?_
    refine lv_iconst (v := 2) hx hb dX12_partyPays_34 (by decide) ?_
    refine lv_icmp_le (tgt := 47) hx hb dX12_partyPays_35 (by decide) (fun h_35_29 => ?_) (fun h_35_29 => ?_)
    · have nh_35_29 : n ≤ 2 := (nI_leI (a := n) (b := 2) (by omega) (by omega)).mp h_35_29
      refine lv_aload_n hx hb dX12_partyPays_47 rfl (lv_at hl 1 rfl) ?_
      refine cg_Vv (As := []) (rest := []) (mc := 0) (ms := 0) (rm := { frames := 1, cells := 0, slots := 0, locals := 23 }) hC hl.1 hO [0, 4, 7, 6, 10, 11, 12, 8, 9, 1] rfl (c_X12_goesBy l D cy _ _ (f0 := ((((f0.set 56 (.int 0)).set 57 (.int 10000)).set 56 (.int 1)).set 56 (.int 2))) (c901 := c1_30_26) (c902 := c7) (c904 := c9) (c900 := c3_30_28) (m := ((0 + 1) + 1)) rfl (fs_ne (by decide) (fs_ne (by decide) (fs_ne (by decide) (fs_ne (by decide) f0_12)))) (fs_ne (by decide) (fs_ne (by decide) (fs_ne (by decide) (fs_ne (by decide) f0_36)))) (fs_ne (by decide) (fs_ne (by decide) (fs_ne (by decide) (fs_ne (by decide) f0_42)))) (fs_ne (by decide) (fs_ne (by decide) (fs_ne (by decide) (fs_ne (by decide) f0_47)))) (fs_ne (by decide) (fs_ne (by decide) (fs_ne (by decide) (fs_ne (by decide) f0_48)))) (fs_ne (by decide) (fs_ne (by decide) (fs_ne (by decide) (fs_ne (by decide) f0_49)))) (fs_ne (by decide) (fs_ne (by decide) (fs_ne (by decide) (fs_ne (by decide) f0_50)))) (fs_ne (by decide) (fs_ne (by decide) (fs_ne (by decide) (fs_ne (by decide) f0_53)))) (fs_ne (by decide) (fs_ne (by decide) (fs_ne (by decide) (fs_ne (by decide) f0_54)))) (fs_ne (by decide) (fs_ne (by decide) (fs_ne (by decide) (fs_ne (by decide) f0_55)))) (fs_eq (fs_eq (fs_ne (by decide) (fs_eq f0_56)))) rfl a7 rfl a10 a11 a12 a8 a9 a1 (by omega)) gq_c_X12_partyPays_c_X12_goesBy_403 rfl rfl rfl 0 (by decide +kernel) ⟨Nat.le_of_ble_eq_true rfl, Nat.le_of_ble_eq_true rfl⟩ rfl (by decide) rfl rfl rfl (Nat.le_of_ble_eq_true rfl) dX12_partyPays_48 ⟨Nat.le_of_ble_eq_true rfl, Nat.le_of_ble_eq_true rfl⟩ (fun nw_48_30 l_48_31 H locs hw hO => ?_)
      obtain ⟨tt_48_33, cd_48_34, rfl⟩ := hw
      have hO : cO D cy A s.heap s 13 ad (cup [(3, .inl (cy 0, 5, .inl (fun _ => 0))), (0, .inr (12, ((((f0.set 56 (.int 0)).set 57 (.int 10000)).set 56 (.int 1)).set 56 (.int 2)))), (6, .inl (cy 2, 30, .inl c3_30_28)), (5, .inl (cy 0, 30, .inl c2_30_27)), (4, .inl (cy 0, 30, .inl c1_30_26)), (9, .inl (cy 0, 120, .inl cd_48_34)), (8, .inl (cy 0, 120, .inl (fun _ => 0))), (12, .inl (cy 2, 5, .inl (fun _ => 0))), (11, .inl (cy 0, 5, .inl (fun _ => 0))), (10, .inl (cy 0, 5, .inl (fun _ => 0))), (7, .inl (cy 0, 30, .inl tt_48_33))] g) _ _ := hO
      refine lv_iload hx hb dX12_partyPays_51 (lv_at hl 5 rfl) ?_
      refine lv_iload hx hb dX12_partyPays_53 (lv_at hl 6 rfl) ?_
      refine lv_iload_n hx hb dX12_partyPays_55 rfl (lv_at hl 2 rfl) ?_
      refine lv_iconst (v := 1) hx hb dX12_partyPays_56 (by decide) ?_
      refine lv_icmp_le (tgt := 65) hx hb dX12_partyPays_57 (by decide) (fun h => absurd h h_21_10) (fun _ => ?_)
      refine lv_iload hx hb dX12_partyPays_60 (lv_at hl 7 rfl) ?_
      refine lv_goto (tgt := 66) hx hb dX12_partyPays_62 (by decide) ?_
      refine lv_iadd hx hb dX12_partyPays_66 ?_
      refine cg_ev (v := (nI (o1 + o2))) (nI_add o1 o2) ?_
      refine lv_iload_n hx hb dX12_partyPays_67 rfl (lv_at hl 2 rfl) ?_
      refine lv_iconst (v := 2) hx hb dX12_partyPays_68 (by decide) ?_
      refine lv_icmp_le (tgt := 77) hx hb dX12_partyPays_69 (by decide) (fun _ => ?_) (fun h => absurd h_35_29 h)
      refine lv_iconst (v := 0) hx hb dX12_partyPays_77 (by decide) ?_
      refine lv_iadd hx hb dX12_partyPays_78 ?_
      refine cg_ev (v := (nI ((o1 + o2) + 0))) (nI_add (o1 + o2) 0) ?_
      refine lv_imul hx hb dX12_partyPays_79 ?_
      refine cg_ev (v := (nI (la * ((o1 + o2) + 0)))) (pk_mul la ((o1 + o2) + 0)) ?_
      refine lv_istore (lv' := [(9, .int (nI (la * ((o1 + o2) + 0)))), (8, .int 0), (0, .ref (ad 0)), (1, .int (nI n)), (2, .int s1), (3, .int mi), (4, .int (nI la)), (5, .int (nI o1)), (6, .int (nI o2)), (7, .int (nI o3))]) hx hb dX12_partyPays_80 hl (by decide) rfl (fun ls hl => ?_)
      refine lv_iload hx hb dX12_partyPays_82 (lv_at hl 1 rfl) ?_
      refine lv_istore (lv' := [(10, .int 0), (9, .int (nI (la * ((o1 + o2) + 0)))), (8, .int 0), (0, .ref (ad 0)), (1, .int (nI n)), (2, .int s1), (3, .int mi), (4, .int (nI la)), (5, .int (nI o1)), (6, .int (nI o2)), (7, .int (nI o3))]) hx hb dX12_partyPays_84 hl (by decide) rfl (fun ls hl => ?_)
      refine lv_iload hx hb dX12_partyPays_86 (lv_at hl 0 rfl) ?_
      refine lv_aload_n hx hb dX12_partyPays_88 rfl (lv_at hl 3 rfl) ?_
      refine cg_get hC hO 0 (by decide) rfl rfl i_X12 56 (by decide) (List.mem_of_getElem? (i := 7) rfl) (fs_eq (fs_eq (fs_ne (by decide) (fs_eq f0_56)))) dX12_partyPays_89 ?_
      refine lv_icmp_ge (tgt := 112) hx hb dX12_partyPays_92 (by decide) (fun h => absurd h (by decide)) (fun _ => ?_)
      refine lv_iload hx hb dX12_partyPays_95 (lv_at hl 1 rfl) ?_
      refine lv_aload_n hx hb dX12_partyPays_97 rfl (lv_at hl 3 rfl) ?_
      refine lv_iload hx hb dX12_partyPays_98 (lv_at hl 0 rfl) ?_
      refine cg_Vi (As := [.int 0]) (rest := [.int (nI (la * ((o1 + o2) + 0)))]) (mc := 0) (ms := 0) (rm := { frames := 1, cells := 0, slots := 0, locals := 20 }) hC hl.1 hO [0, 1] rfl (c_X12_paidBy l D cy _ _ (f0 := ((((f0.set 56 (.int 0)).set 57 (.int 10000)).set 56 (.int 1)).set 56 (.int 2))) (n := 0) rfl (fs_ne (by decide) (fs_ne (by decide) (fs_ne (by decide) (fs_ne (by decide) f0_12)))) (fs_ne (by decide) (fs_ne (by decide) (fs_ne (by decide) (fs_ne (by decide) f0_36)))) a1) gq_c_X12_partyPays_c_X12_paidBy_397 rfl rfl rfl 1 (by decide +kernel) ⟨Nat.le_of_ble_eq_true rfl, Nat.le_of_ble_eq_true rfl⟩ rfl (by decide) rfl rfl rfl (Nat.le_of_ble_eq_true rfl) dX12_partyPays_100 ⟨Nat.le_of_ble_eq_true rfl, Nat.le_of_ble_eq_true rfl⟩ (fun r_100_37 nw_100_35 l_100_36 H locs hw hO => ?_)
      obtain ⟨rfl, rfl⟩ := hw
      have hO : cO D cy A s.heap s 13 ad (cup [(3, .inl (cy 0, 5, .inl (fun _ => 0))), (0, .inr (12, ((((f0.set 56 (.int 0)).set 57 (.int 10000)).set 56 (.int 1)).set 56 (.int 2)))), (6, .inl (cy 2, 30, .inl c3_30_28)), (5, .inl (cy 0, 30, .inl c2_30_27)), (4, .inl (cy 0, 30, .inl c1_30_26)), (9, .inl (cy 0, 120, .inl cd_48_34)), (8, .inl (cy 0, 120, .inl (fun _ => 0))), (12, .inl (cy 2, 5, .inl (fun _ => 0))), (11, .inl (cy 0, 5, .inl (fun _ => 0))), (10, .inl (cy 0, 5, .inl (fun _ => 0))), (7, .inl (cy 0, 30, .inl tt_48_33))] g) _ _ := hO
      refine lv_iadd hx hb dX12_partyPays_103 ?_
      refine cg_ev (v := (nI ((la * ((o1 + o2) + 0)) + 0))) (nI_add (la * ((o1 + o2) + 0)) 0) ?_
      refine lv_istore (lv' := [(9, .int (nI ((la * ((o1 + o2) + 0)) + 0))), (10, .int 0), (8, .int 0), (0, .ref (ad 0)), (1, .int (nI n)), (2, .int s1), (3, .int mi), (4, .int (nI la)), (5, .int (nI o1)), (6, .int (nI o2)), (7, .int (nI o3))]) hx hb dX12_partyPays_104 hl (by decide) rfl (fun ls hl => ?_)
      refine lv_iinc (v := 1) (lv' := [(10, .int 1), (9, .int (nI ((la * ((o1 + o2) + 0)) + 0))), (8, .int 0), (0, .ref (ad 0)), (1, .int (nI n)), (2, .int s1), (3, .int mi), (4, .int (nI la)), (5, .int (nI o1)), (6, .int (nI o2)), (7, .int (nI o3))]) hx hb dX12_partyPays_106 hl (k := 1) rfl (by decide) (by decide) rfl (fun ls hl => ?_)
      refine lv_goto (tgt := 86) hx hb dX12_partyPays_109 (by decide) ?_
      refine lv_iload hx hb dX12_partyPays_86 (lv_at hl 0 rfl) ?_
      refine lv_aload_n hx hb dX12_partyPays_88 rfl (lv_at hl 3 rfl) ?_
      refine cg_get hC hO 0 (by decide) rfl rfl i_X12 56 (by decide) (List.mem_of_getElem? (i := 7) rfl) (fs_eq (fs_eq (fs_ne (by decide) (fs_eq f0_56)))) dX12_partyPays_89 ?_
      refine lv_icmp_ge (tgt := 112) hx hb dX12_partyPays_92 (by decide) (fun h => absurd h (by decide)) (fun _ => ?_)
      refine lv_iload hx hb dX12_partyPays_95 (lv_at hl 1 rfl) ?_
      refine lv_aload_n hx hb dX12_partyPays_97 rfl (lv_at hl 3 rfl) ?_
      refine lv_iload hx hb dX12_partyPays_98 (lv_at hl 0 rfl) ?_
      refine cg_Vi (As := [.int 1]) (rest := [.int (nI ((la * ((o1 + o2) + 0)) + 0))]) (mc := 0) (ms := 0) (rm := { frames := 1, cells := 0, slots := 0, locals := 20 }) hC hl.1 hO [0, 1] rfl (c_X12_paidBy l D cy _ _ (f0 := ((((f0.set 56 (.int 0)).set 57 (.int 10000)).set 56 (.int 1)).set 56 (.int 2))) (n := 1) rfl (fs_ne (by decide) (fs_ne (by decide) (fs_ne (by decide) (fs_ne (by decide) f0_12)))) (fs_ne (by decide) (fs_ne (by decide) (fs_ne (by decide) (fs_ne (by decide) f0_36)))) a1) gq_c_X12_partyPays_c_X12_paidBy_397 rfl rfl rfl 1 (by decide +kernel) ⟨Nat.le_of_ble_eq_true rfl, Nat.le_of_ble_eq_true rfl⟩ rfl (by decide) rfl rfl rfl (Nat.le_of_ble_eq_true rfl) dX12_partyPays_100 ⟨Nat.le_of_ble_eq_true rfl, Nat.le_of_ble_eq_true rfl⟩ (fun r_100_40 nw_100_38 l_100_39 H locs hw hO => ?_)
      obtain ⟨rfl, rfl⟩ := hw
      have hO : cO D cy A s.heap s 13 ad (cup [(3, .inl (cy 0, 5, .inl (fun _ => 0))), (0, .inr (12, ((((f0.set 56 (.int 0)).set 57 (.int 10000)).set 56 (.int 1)).set 56 (.int 2)))), (6, .inl (cy 2, 30, .inl c3_30_28)), (5, .inl (cy 0, 30, .inl c2_30_27)), (4, .inl (cy 0, 30, .inl c1_30_26)), (9, .inl (cy 0, 120, .inl cd_48_34)), (8, .inl (cy 0, 120, .inl (fun _ => 0))), (12, .inl (cy 2, 5, .inl (fun _ => 0))), (11, .inl (cy 0, 5, .inl (fun _ => 0))), (10, .inl (cy 0, 5, .inl (fun _ => 0))), (7, .inl (cy 0, 30, .inl tt_48_33))] g) _ _ := hO
      refine lv_iadd hx hb dX12_partyPays_103 ?_
      refine cg_ev (v := (nI (((la * ((o1 + o2) + 0)) + 0) + 0))) (nI_add ((la * ((o1 + o2) + 0)) + 0) 0) ?_
      refine lv_istore (lv' := [(9, .int (nI (((la * ((o1 + o2) + 0)) + 0) + 0))), (10, .int 1), (8, .int 0), (0, .ref (ad 0)), (1, .int (nI n)), (2, .int s1), (3, .int mi), (4, .int (nI la)), (5, .int (nI o1)), (6, .int (nI o2)), (7, .int (nI o3))]) hx hb dX12_partyPays_104 hl (by decide) rfl (fun ls hl => ?_)
      refine lv_iinc (v := 2) (lv' := [(10, .int 2), (9, .int (nI (((la * ((o1 + o2) + 0)) + 0) + 0))), (8, .int 0), (0, .ref (ad 0)), (1, .int (nI n)), (2, .int s1), (3, .int mi), (4, .int (nI la)), (5, .int (nI o1)), (6, .int (nI o2)), (7, .int (nI o3))]) hx hb dX12_partyPays_106 hl (k := 1) rfl (by decide) (by decide) rfl (fun ls hl => ?_)
      refine lv_goto (tgt := 86) hx hb dX12_partyPays_109 (by decide) ?_
      refine lv_iload hx hb dX12_partyPays_86 (lv_at hl 0 rfl) ?_
      refine lv_aload_n hx hb dX12_partyPays_88 rfl (lv_at hl 3 rfl) ?_
      refine cg_get hC hO 0 (by decide) rfl rfl i_X12 56 (by decide) (List.mem_of_getElem? (i := 7) rfl) (fs_eq (fs_eq (fs_ne (by decide) (fs_eq f0_56)))) dX12_partyPays_89 ?_
      refine lv_icmp_ge (tgt := 112) hx hb dX12_partyPays_92 (by decide) (fun _ => ?_) (fun h => absurd h (by decide))
      have hS : ((la * ((o1 + o2) + 0)) + 0) + 0 ≤ 6000 := by have z := Nat.mul_le_mul hla (show ((o1 + o2) + 0) ≤ 60 by omega); omega
      have hZ : o1 + o2 + o3 = 0 → ((la * ((o1 + o2) + 0)) + 0) + 0 = 0 := fun h => by have z : ((o1 + o2) + 0) = 0 := (by omega); rw [z]; simp
      refine lv_iload hx hb dX12_partyPays_112 (lv_at hl 1 rfl) ?_
      exact cg_iret (nw := fun _ => 0) hC hr hlk hO.same rfl (Nat.le_of_ble_eq_true rfl) (Nat.le_of_ble_eq_true rfl) (Or.inr (Or.inr (Or.inl ⟨c1_30_26, c2_30_27, c3_30_28, tt_48_33, cd_48_34, hS, hZ, h_21_10, h_35_29, rfl, rfl⟩))) dX12_partyPays_114
    · have nh_35_29 : ¬ n ≤ 2 := fun z => h_35_29 ((nI_leI (a := n) (b := 2) (by omega) (by omega)).mpr z)
      refine lv_aload_n hx hb dX12_partyPays_38 rfl (lv_at hl 1 rfl) ?_
      refine lv_iload_n hx hb dX12_partyPays_39 rfl (lv_at hl 4 rfl) ?_
      refine lv_iload hx hb dX12_partyPays_40 (lv_at hl 8 rfl) ?_
      refine lv_iadd hx hb dX12_partyPays_42 ?_
      refine lv_iload_n hx hb dX12_partyPays_43 rfl (lv_at hl 3 rfl) ?_
      refine cg_Vv (As := [.int (mi + (nI o3)), .int s1]) (rest := []) (mc := 0) (ms := 0) (rm := { frames := 0, cells := 0, slots := 0, locals := 0 }) hC hl.1 hO [0, 4, 5, 6] rfl (c_X12_add l D cy _ _ (f0 := ((((f0.set 56 (.int 0)).set 57 (.int 10000)).set 56 (.int 1)).set 56 (.int 2))) (c901 := c1_30_26) (c903 := c2_30_27) (c900 := c3_30_28) (m := ((0 + 1) + 1)) (x1 := (mi + (nI o3))) (x2 := s1) rfl (fs_ne (by decide) (fs_ne (by decide) (fs_ne (by decide) (fs_ne (by decide) f0_42)))) (fs_ne (by decide) (fs_ne (by decide) (fs_ne (by decide) (fs_ne (by decide) f0_43)))) (fs_ne (by decide) (fs_ne (by decide) (fs_ne (by decide) (fs_ne (by decide) f0_54)))) (fs_eq (fs_eq (fs_ne (by decide) (fs_eq f0_56)))) rfl rfl rfl (by omega)) gq_c_X12_partyPays_c_X12_add_430 rfl rfl rfl 2 (by decide +kernel) ⟨Nat.le_of_ble_eq_true rfl, Nat.le_of_ble_eq_true rfl⟩ rfl (by decide) rfl rfl rfl (Nat.le_of_ble_eq_true rfl) dX12_partyPays_44 ⟨Nat.le_of_ble_eq_true rfl, Nat.le_of_ble_eq_true rfl⟩ (fun nw_44_41 l_44_42 H locs hw hO => ?_)
      obtain ⟨c1_44_44, c2_44_45, c3_44_46, rfl⟩ := hw
      have hO : cO D cy A s.heap s 13 ad (cup [(3, .inl (cy 0, 5, .inl (fun _ => 0))), (0, .inr (12, (((((f0.set 56 (.int 0)).set 57 (.int 10000)).set 56 (.int 1)).set 56 (.int 2)).set 56 (.int 3)))), (6, .inl (cy 2, 30, .inl c3_44_46)), (5, .inl (cy 0, 30, .inl c2_44_45)), (4, .inl (cy 0, 30, .inl c1_44_44))] g) _ _ := hO
      refine lv_aload_n hx hb dX12_partyPays_47 rfl (lv_at hl 1 rfl) ?_
      refine cg_Vv (As := []) (rest := []) (mc := 0) (ms := 0) (rm := { frames := 1, cells := 0, slots := 0, locals := 23 }) hC hl.1 hO [0, 4, 7, 6, 10, 11, 12, 8, 9, 1] rfl (c_X12_goesBy l D cy _ _ (f0 := (((((f0.set 56 (.int 0)).set 57 (.int 10000)).set 56 (.int 1)).set 56 (.int 2)).set 56 (.int 3))) (c901 := c1_44_44) (c902 := c7) (c904 := c9) (c900 := c3_44_46) (m := (((0 + 1) + 1) + 1)) rfl (fs_ne (by decide) (fs_ne (by decide) (fs_ne (by decide) (fs_ne (by decide) (fs_ne (by decide) f0_12))))) (fs_ne (by decide) (fs_ne (by decide) (fs_ne (by decide) (fs_ne (by decide) (fs_ne (by decide) f0_36))))) (fs_ne (by decide) (fs_ne (by decide) (fs_ne (by decide) (fs_ne (by decide) (fs_ne (by decide) f0_42))))) (fs_ne (by decide) (fs_ne (by decide) (fs_ne (by decide) (fs_ne (by decide) (fs_ne (by decide) f0_47))))) (fs_ne (by decide) (fs_ne (by decide) (fs_ne (by decide) (fs_ne (by decide) (fs_ne (by decide) f0_48))))) (fs_ne (by decide) (fs_ne (by decide) (fs_ne (by decide) (fs_ne (by decide) (fs_ne (by decide) f0_49))))) (fs_ne (by decide) (fs_ne (by decide) (fs_ne (by decide) (fs_ne (by decide) (fs_ne (by decide) f0_50))))) (fs_ne (by decide) (fs_ne (by decide) (fs_ne (by decide) (fs_ne (by decide) (fs_ne (by decide) f0_53))))) (fs_ne (by decide) (fs_ne (by decide) (fs_ne (by decide) (fs_ne (by decide) (fs_ne (by decide) f0_54))))) (fs_ne (by decide) (fs_ne (by decide) (fs_ne (by decide) (fs_ne (by decide) (fs_ne (by decide) f0_55))))) (fs_eq (fs_eq (fs_eq (fs_ne (by decide) (fs_eq f0_56))))) rfl a7 rfl a10 a11 a12 a8 a9 a1 (by omega)) gq_c_X12_partyPays_c_X12_goesBy_403 rfl rfl rfl 0 (by decide +kernel) ⟨Nat.le_of_ble_eq_true rfl, Nat.le_of_ble_eq_true rfl⟩ rfl (by decide) rfl rfl rfl (Nat.le_of_ble_eq_true rfl) dX12_partyPays_48 ⟨Nat.le_of_ble_eq_true rfl, Nat.le_of_ble_eq_true rfl⟩ (fun nw_48_47 l_48_48 H locs hw hO => ?_)
      obtain ⟨tt_48_50, cd_48_51, rfl⟩ := hw
      have hO : cO D cy A s.heap s 13 ad (cup [(3, .inl (cy 0, 5, .inl (fun _ => 0))), (0, .inr (12, (((((f0.set 56 (.int 0)).set 57 (.int 10000)).set 56 (.int 1)).set 56 (.int 2)).set 56 (.int 3)))), (6, .inl (cy 2, 30, .inl c3_44_46)), (5, .inl (cy 0, 30, .inl c2_44_45)), (4, .inl (cy 0, 30, .inl c1_44_44)), (9, .inl (cy 0, 120, .inl cd_48_51)), (8, .inl (cy 0, 120, .inl (fun _ => 0))), (12, .inl (cy 2, 5, .inl (fun _ => 0))), (11, .inl (cy 0, 5, .inl (fun _ => 0))), (10, .inl (cy 0, 5, .inl (fun _ => 0))), (7, .inl (cy 0, 30, .inl tt_48_50))] g) _ _ := hO
      refine lv_iload hx hb dX12_partyPays_51 (lv_at hl 5 rfl) ?_
      refine lv_iload hx hb dX12_partyPays_53 (lv_at hl 6 rfl) ?_
      refine lv_iload_n hx hb dX12_partyPays_55 rfl (lv_at hl 2 rfl) ?_
      refine lv_iconst (v := 1) hx hb dX12_partyPays_56 (by decide) ?_
      refine lv_icmp_le (tgt := 65) hx hb dX12_partyPays_57 (by decide) (fun h => absurd h h_21_10) (fun _ => ?_)
      refine lv_iload hx hb dX12_partyPays_60 (lv_at hl 7 rfl) ?_
      refine lv_goto (tgt := 66) hx hb dX12_partyPays_62 (by decide) ?_
      refine lv_iadd hx hb dX12_partyPays_66 ?_
      refine cg_ev (v := (nI (o1 + o2))) (nI_add o1 o2) ?_
      refine lv_iload_n hx hb dX12_partyPays_67 rfl (lv_at hl 2 rfl) ?_
      refine lv_iconst (v := 2) hx hb dX12_partyPays_68 (by decide) ?_
      refine lv_icmp_le (tgt := 77) hx hb dX12_partyPays_69 (by decide) (fun h => absurd h h_35_29) (fun _ => ?_)
      refine lv_iload hx hb dX12_partyPays_72 (lv_at hl 8 rfl) ?_
      refine lv_goto (tgt := 78) hx hb dX12_partyPays_74 (by decide) ?_
      refine lv_iadd hx hb dX12_partyPays_78 ?_
      refine cg_ev (v := (nI ((o1 + o2) + o3))) (nI_add (o1 + o2) o3) ?_
      refine lv_imul hx hb dX12_partyPays_79 ?_
      refine cg_ev (v := (nI (la * ((o1 + o2) + o3)))) (pk_mul la ((o1 + o2) + o3)) ?_
      refine lv_istore (lv' := [(9, .int (nI (la * ((o1 + o2) + o3)))), (8, .int 0), (0, .ref (ad 0)), (1, .int (nI n)), (2, .int s1), (3, .int mi), (4, .int (nI la)), (5, .int (nI o1)), (6, .int (nI o2)), (7, .int (nI o3))]) hx hb dX12_partyPays_80 hl (by decide) rfl (fun ls hl => ?_)
      refine lv_iload hx hb dX12_partyPays_82 (lv_at hl 1 rfl) ?_
      refine lv_istore (lv' := [(10, .int 0), (9, .int (nI (la * ((o1 + o2) + o3)))), (8, .int 0), (0, .ref (ad 0)), (1, .int (nI n)), (2, .int s1), (3, .int mi), (4, .int (nI la)), (5, .int (nI o1)), (6, .int (nI o2)), (7, .int (nI o3))]) hx hb dX12_partyPays_84 hl (by decide) rfl (fun ls hl => ?_)
      refine lv_iload hx hb dX12_partyPays_86 (lv_at hl 0 rfl) ?_
      refine lv_aload_n hx hb dX12_partyPays_88 rfl (lv_at hl 3 rfl) ?_
      refine cg_get hC hO 0 (by decide) rfl rfl i_X12 56 (by decide) (List.mem_of_getElem? (i := 7) rfl) (fs_eq (fs_eq (fs_eq (fs_ne (by decide) (fs_eq f0_56))))) dX12_partyPays_89 ?_
      refine lv_icmp_ge (tgt := 112) hx hb dX12_partyPays_92 (by decide) (fun h => absurd h (by decide)) (fun _ => ?_)
      refine lv_iload hx hb dX12_partyPays_95 (lv_at hl 1 rfl) ?_
      refine lv_aload_n hx hb dX12_partyPays_97 rfl (lv_at hl 3 rfl) ?_
      refine lv_iload hx hb dX12_partyPays_98 (lv_at hl 0 rfl) ?_
      refine cg_Vi (As := [.int 0]) (rest := [.int (nI (la * ((o1 + o2) + o3)))]) (mc := 0) (ms := 0) (rm := { frames := 1, cells := 0, slots := 0, locals := 20 }) hC hl.1 hO [0, 1] rfl (c_X12_paidBy l D cy _ _ (f0 := (((((f0.set 56 (.int 0)).set 57 (.int 10000)).set 56 (.int 1)).set 56 (.int 2)).set 56 (.int 3))) (n := 0) rfl (fs_ne (by decide) (fs_ne (by decide) (fs_ne (by decide) (fs_ne (by decide) (fs_ne (by decide) f0_12))))) (fs_ne (by decide) (fs_ne (by decide) (fs_ne (by decide) (fs_ne (by decide) (fs_ne (by decide) f0_36))))) a1) gq_c_X12_partyPays_c_X12_paidBy_397 rfl rfl rfl 1 (by decide +kernel) ⟨Nat.le_of_ble_eq_true rfl, Nat.le_of_ble_eq_true rfl⟩ rfl (by decide) rfl rfl rfl (Nat.le_of_ble_eq_true rfl) dX12_partyPays_100 ⟨Nat.le_of_ble_eq_true rfl, Nat.le_of_ble_eq_true rfl⟩ (fun r_100_54 nw_100_52 l_100_53 H locs hw hO => ?_)
      obtain ⟨rfl, rfl⟩ := hw
      have hO : cO D cy A s.heap s 13 ad (cup [(3, .inl (cy 0, 5, .inl (fun _ => 0))), (0, .inr (12, (((((f0.set 56 (.int 0)).set 57 (.int 10000)).set 56 (.int 1)).set 56 (.int 2)).set 56 (.int 3)))), (6, .inl (cy 2, 30, .inl c3_44_46)), (5, .inl (cy 0, 30, .inl c2_44_45)), (4, .inl (cy 0, 30, .inl c1_44_44)), (9, .inl (cy 0, 120, .inl cd_48_51)), (8, .inl (cy 0, 120, .inl (fun _ => 0))), (12, .inl (cy 2, 5, .inl (fun _ => 0))), (11, .inl (cy 0, 5, .inl (fun _ => 0))), (10, .inl (cy 0, 5, .inl (fun _ => 0))), (7, .inl (cy 0, 30, .inl tt_48_50))] g) _ _ := hO
      refine lv_iadd hx hb dX12_partyPays_103 ?_
      refine cg_ev (v := (nI ((la * ((o1 + o2) + o3)) + 0))) (nI_add (la * ((o1 + o2) + o3)) 0) ?_
      refine lv_istore (lv' := [(9, .int (nI ((la * ((o1 + o2) + o3)) + 0))), (10, .int 0), (8, .int 0), (0, .ref (ad 0)), (1, .int (nI n)), (2, .int s1), (3, .int mi), (4, .int (nI la)), (5, .int (nI o1)), (6, .int (nI o2)), (7, .int (nI o3))]) hx hb dX12_partyPays_104 hl (by decide) rfl (fun ls hl => ?_)
      refine lv_iinc (v := 1) (lv' := [(10, .int 1), (9, .int (nI ((la * ((o1 + o2) + o3)) + 0))), (8, .int 0), (0, .ref (ad 0)), (1, .int (nI n)), (2, .int s1), (3, .int mi), (4, .int (nI la)), (5, .int (nI o1)), (6, .int (nI o2)), (7, .int (nI o3))]) hx hb dX12_partyPays_106 hl (k := 1) rfl (by decide) (by decide) rfl (fun ls hl => ?_)
      refine lv_goto (tgt := 86) hx hb dX12_partyPays_109 (by decide) ?_
      refine lv_iload hx hb dX12_partyPays_86 (lv_at hl 0 rfl) ?_
      refine lv_aload_n hx hb dX12_partyPays_88 rfl (lv_at hl 3 rfl) ?_
      refine cg_get hC hO 0 (by decide) rfl rfl i_X12 56 (by decide) (List.mem_of_getElem? (i := 7) rfl) (fs_eq (fs_eq (fs_eq (fs_ne (by decide) (fs_eq f0_56))))) dX12_partyPays_89 ?_
      refine lv_icmp_ge (tgt := 112) hx hb dX12_partyPays_92 (by decide) (fun h => absurd h (by decide)) (fun _ => ?_)
      refine lv_iload hx hb dX12_partyPays_95 (lv_at hl 1 rfl) ?_
      refine lv_aload_n hx hb dX12_partyPays_97 rfl (lv_at hl 3 rfl) ?_
      refine lv_iload hx hb dX12_partyPays_98 (lv_at hl 0 rfl) ?_
      refine cg_Vi (As := [.int 1]) (rest := [.int (nI ((la * ((o1 + o2) + o3)) + 0))]) (mc := 0) (ms := 0) (rm := { frames := 1, cells := 0, slots := 0, locals := 20 }) hC hl.1 hO [0, 1] rfl (c_X12_paidBy l D cy _ _ (f0 := (((((f0.set 56 (.int 0)).set 57 (.int 10000)).set 56 (.int 1)).set 56 (.int 2)).set 56 (.int 3))) (n := 1) rfl (fs_ne (by decide) (fs_ne (by decide) (fs_ne (by decide) (fs_ne (by decide) (fs_ne (by decide) f0_12))))) (fs_ne (by decide) (fs_ne (by decide) (fs_ne (by decide) (fs_ne (by decide) (fs_ne (by decide) f0_36))))) a1) gq_c_X12_partyPays_c_X12_paidBy_397 rfl rfl rfl 1 (by decide +kernel) ⟨Nat.le_of_ble_eq_true rfl, Nat.le_of_ble_eq_true rfl⟩ rfl (by decide) rfl rfl rfl (Nat.le_of_ble_eq_true rfl) dX12_partyPays_100 ⟨Nat.le_of_ble_eq_true rfl, Nat.le_of_ble_eq_true rfl⟩ (fun r_100_57 nw_100_55 l_100_56 H locs hw hO => ?_)
      obtain ⟨rfl, rfl⟩ := hw
      have hO : cO D cy A s.heap s 13 ad (cup [(3, .inl (cy 0, 5, .inl (fun _ => 0))), (0, .inr (12, (((((f0.set 56 (.int 0)).set 57 (.int 10000)).set 56 (.int 1)).set 56 (.int 2)).set 56 (.int 3)))), (6, .inl (cy 2, 30, .inl c3_44_46)), (5, .inl (cy 0, 30, .inl c2_44_45)), (4, .inl (cy 0, 30, .inl c1_44_44)), (9, .inl (cy 0, 120, .inl cd_48_51)), (8, .inl (cy 0, 120, .inl (fun _ => 0))), (12, .inl (cy 2, 5, .inl (fun _ => 0))), (11, .inl (cy 0, 5, .inl (fun _ => 0))), (10, .inl (cy 0, 5, .inl (fun _ => 0))), (7, .inl (cy 0, 30, .inl tt_48_50))] g) _ _ := hO
      refine lv_iadd hx hb dX12_partyPays_103 ?_
      refine cg_ev (v := (nI (((la * ((o1 + o2) + o3)) + 0) + 0))) (nI_add ((la * ((o1 + o2) + o3)) + 0) 0) ?_
      refine lv_istore (lv' := [(9, .int (nI (((la * ((o1 + o2) + o3)) + 0) + 0))), (10, .int 1), (8, .int 0), (0, .ref (ad 0)), (1, .int (nI n)), (2, .int s1), (3, .int mi), (4, .int (nI la)), (5, .int (nI o1)), (6, .int (nI o2)), (7, .int (nI o3))]) hx hb dX12_partyPays_104 hl (by decide) rfl (fun ls hl => ?_)
      refine lv_iinc (v := 2) (lv' := [(10, .int 2), (9, .int (nI (((la * ((o1 + o2) + o3)) + 0) + 0))), (8, .int 0), (0, .ref (ad 0)), (1, .int (nI n)), (2, .int s1), (3, .int mi), (4, .int (nI la)), (5, .int (nI o1)), (6, .int (nI o2)), (7, .int (nI o3))]) hx hb dX12_partyPays_106 hl (k := 1) rfl (by decide) (by decide) rfl (fun ls hl => ?_)
      refine lv_goto (tgt := 86) hx hb dX12_partyPays_109 (by decide) ?_
      refine lv_iload hx hb dX12_partyPays_86 (lv_at hl 0 rfl) ?_
      refine lv_aload_n hx hb dX12_partyPays_88 rfl (lv_at hl 3 rfl) ?_
      refine cg_get hC hO 0 (by decide) rfl rfl i_X12 56 (by decide) (List.mem_of_getElem? (i := 7) rfl) (fs_eq (fs_eq (fs_eq (fs_ne (by decide) (fs_eq f0_56))))) dX12_partyPays_89 ?_
      refine lv_icmp_ge (tgt := 112) hx hb dX12_partyPays_92 (by decide) (fun h => absurd h (by decide)) (fun _ => ?_)
      refine lv_iload hx hb dX12_partyPays_95 (lv_at hl 1 rfl) ?_
      refine lv_aload_n hx hb dX12_partyPays_97 rfl (lv_at hl 3 rfl) ?_
      refine lv_iload hx hb dX12_partyPays_98 (lv_at hl 0 rfl) ?_
      refine cg_Vi (As := [.int 2]) (rest := [.int (nI (((la * ((o1 + o2) + o3)) + 0) + 0))]) (mc := 0) (ms := 0) (rm := { frames := 1, cells := 0, slots := 0, locals := 20 }) hC hl.1 hO [0, 1] rfl (c_X12_paidBy l D cy _ _ (f0 := (((((f0.set 56 (.int 0)).set 57 (.int 10000)).set 56 (.int 1)).set 56 (.int 2)).set 56 (.int 3))) (n := 2) rfl (fs_ne (by decide) (fs_ne (by decide) (fs_ne (by decide) (fs_ne (by decide) (fs_ne (by decide) f0_12))))) (fs_ne (by decide) (fs_ne (by decide) (fs_ne (by decide) (fs_ne (by decide) (fs_ne (by decide) f0_36))))) a1) gq_c_X12_partyPays_c_X12_paidBy_397 rfl rfl rfl 1 (by decide +kernel) ⟨Nat.le_of_ble_eq_true rfl, Nat.le_of_ble_eq_true rfl⟩ rfl (by decide) rfl rfl rfl (Nat.le_of_ble_eq_true rfl) dX12_partyPays_100 ⟨Nat.le_of_ble_eq_true rfl, Nat.le_of_ble_eq_true rfl⟩ (fun r_100_60 nw_100_58 l_100_59 H locs hw hO => ?_)
      obtain ⟨rfl, rfl⟩ := hw
      have hO : cO D cy A s.heap s 13 ad (cup [(3, .inl (cy 0, 5, .inl (fun _ => 0))), (0, .inr (12, (((((f0.set 56 (.int 0)).set 57 (.int 10000)).set 56 (.int 1)).set 56 (.int 2)).set 56 (.int 3)))), (6, .inl (cy 2, 30, .inl c3_44_46)), (5, .inl (cy 0, 30, .inl c2_44_45)), (4, .inl (cy 0, 30, .inl c1_44_44)), (9, .inl (cy 0, 120, .inl cd_48_51)), (8, .inl (cy 0, 120, .inl (fun _ => 0))), (12, .inl (cy 2, 5, .inl (fun _ => 0))), (11, .inl (cy 0, 5, .inl (fun _ => 0))), (10, .inl (cy 0, 5, .inl (fun _ => 0))), (7, .inl (cy 0, 30, .inl tt_48_50))] g) _ _ := hO
      refine lv_iadd hx hb dX12_partyPays_103 ?_
      refine cg_ev (v := (nI ((((la * ((o1 + o2) + o3)) + 0) + 0) + 0))) (nI_add (((la * ((o1 + o2) + o3)) + 0) + 0) 0) ?_
      refine lv_istore (lv' := [(9, .int (nI ((((la * ((o1 + o2) + o3)) + 0) + 0) + 0))), (10, .int 2), (8, .int 0), (0, .ref (ad 0)), (1, .int (nI n)), (2, .int s1), (3, .int mi), (4, .int (nI la)), (5, .int (nI o1)), (6, .int (nI o2)), (7, .int (nI o3))]) hx hb dX12_partyPays_104 hl (by decide) rfl (fun ls hl => ?_)
      refine lv_iinc (v := 3) (lv' := [(10, .int 3), (9, .int (nI ((((la * ((o1 + o2) + o3)) + 0) + 0) + 0))), (8, .int 0), (0, .ref (ad 0)), (1, .int (nI n)), (2, .int s1), (3, .int mi), (4, .int (nI la)), (5, .int (nI o1)), (6, .int (nI o2)), (7, .int (nI o3))]) hx hb dX12_partyPays_106 hl (k := 1) rfl (by decide) (by decide) rfl (fun ls hl => ?_)
      refine lv_goto (tgt := 86) hx hb dX12_partyPays_109 (by decide) ?_
      refine lv_iload hx hb dX12_partyPays_86 (lv_at hl 0 rfl) ?_
      refine lv_aload_n hx hb dX12_partyPays_88 rfl (lv_at hl 3 rfl) ?_
      refine cg_get hC hO 0 (by decide) rfl rfl i_X12 56 (by decide) (List.mem_of_getElem? (i := 7) rfl) (fs_eq (fs_eq (fs_eq (fs_ne (by decide) (fs_eq f0_56))))) dX12_partyPays_89 ?_
      refine lv_icmp_ge (tgt := 112) hx hb dX12_partyPays_92 (by decide) (fun _ => ?_) (fun h => absurd h (by decide))
      have hS : (((la * ((o1 + o2) + o3)) + 0) + 0) + 0 ≤ 6000 := by have z := Nat.mul_le_mul hla (show ((o1 + o2) + o3) ≤ 60 by omega); omega
      have hZ : o1 + o2 + o3 = 0 → (((la * ((o1 + o2) + o3)) + 0) + 0) + 0 = 0 := fun h => by have z : ((o1 + o2) + o3) = 0 := (by omega); rw [z]; simp
      refine lv_iload hx hb dX12_partyPays_112 (lv_at hl 1 rfl) ?_
      exact cg_iret (nw := fun _ => 0) hC hr hlk hO.same rfl (Nat.le_of_ble_eq_true rfl) (Nat.le_of_ble_eq_true rfl) (Or.inr (Or.inr (Or.inr ⟨c1_44_44, c2_44_45, c3_44_46, tt_48_50, cd_48_51, hS, hZ, h_21_10, h_35_29, rfl, rfl⟩))) dX12_partyPays_114

theorem dX12_party_0 : decode cX12_party 0 = .ok (.aload_n 0, 1) := by decide +kernel
theorem dX12_party_1 : decode cX12_party 1 = .ok (.iconst 0, 1) := by decide +kernel
theorem dX12_party_2 : decode cX12_party 2 = .ok (.putfield 295, 3) := by decide +kernel
theorem dX12_party_5 : decode cX12_party 5 = .ok (.iload_n 1, 1) := by decide +kernel
theorem dX12_party_6 : decode cX12_party 6 = .ok (.iconst 1, 1) := by decide +kernel
theorem dX12_party_7 : decode cX12_party 7 = .ok (.iconst 3, 1) := by decide +kernel
theorem dX12_party_8 : decode cX12_party 8 = .ok (.invokestatic 366, 3) := by decide +kernel
theorem dX12_party_11 : decode cX12_party 11 = .ok (.ifCond .eq 59, 3) := by decide +kernel
theorem dX12_party_14 : decode cX12_party 14 = .ok (.iload_n 2, 1) := by decide +kernel
theorem dX12_party_15 : decode cX12_party 15 = .ok (.iconst 1, 1) := by decide +kernel
theorem dX12_party_16 : decode cX12_party 16 = .ok (.bipush 99, 2) := by decide +kernel
theorem dX12_party_18 : decode cX12_party 18 = .ok (.invokestatic 366, 3) := by decide +kernel
theorem dX12_party_21 : decode cX12_party 21 = .ok (.ifCond .eq 49, 3) := by decide +kernel
theorem dX12_party_24 : decode cX12_party 24 = .ok (.iload_n 3, 1) := by decide +kernel
theorem dX12_party_25 : decode cX12_party 25 = .ok (.iconst 0, 1) := by decide +kernel
theorem dX12_party_26 : decode cX12_party 26 = .ok (.sipush 600, 3) := by decide +kernel
theorem dX12_party_29 : decode cX12_party 29 = .ok (.invokestatic 366, 3) := by decide +kernel
theorem dX12_party_32 : decode cX12_party 32 = .ok (.ifCond .eq 38, 3) := by decide +kernel
theorem dX12_party_35 : decode cX12_party 35 = .ok (.iload 4, 2) := by decide +kernel
theorem dX12_party_37 : decode cX12_party 37 = .ok (.iconst 0, 1) := by decide +kernel
theorem dX12_party_38 : decode cX12_party 38 = .ok (.bipush 20, 2) := by decide +kernel
theorem dX12_party_40 : decode cX12_party 40 = .ok (.invokestatic 366, 3) := by decide +kernel
theorem dX12_party_43 : decode cX12_party 43 = .ok (.ifCond .eq 27, 3) := by decide +kernel
theorem dX12_party_46 : decode cX12_party 46 = .ok (.iload 5, 2) := by decide +kernel
theorem dX12_party_48 : decode cX12_party 48 = .ok (.iconst 0, 1) := by decide +kernel
theorem dX12_party_49 : decode cX12_party 49 = .ok (.bipush 99, 2) := by decide +kernel
theorem dX12_party_51 : decode cX12_party 51 = .ok (.invokestatic 366, 3) := by decide +kernel
theorem dX12_party_54 : decode cX12_party 54 = .ok (.ifCond .eq 16, 3) := by decide +kernel
theorem dX12_party_57 : decode cX12_party 57 = .ok (.aload_n 0, 1) := by decide +kernel
theorem dX12_party_58 : decode cX12_party 58 = .ok (.getfield 98, 3) := by decide +kernel
theorem dX12_party_61 : decode cX12_party 61 = .ok (.iconst 0, 1) := by decide +kernel
theorem dX12_party_62 : decode cX12_party 62 = .ok (.iaload, 1) := by decide +kernel
theorem dX12_party_63 : decode cX12_party 63 = .ok (.iload_n 1, 1) := by decide +kernel
theorem dX12_party_64 : decode cX12_party 64 = .ok (.iadd, 1) := by decide +kernel
theorem dX12_party_65 : decode cX12_party 65 = .ok (.bipush 24, 2) := by decide +kernel
theorem dX12_party_67 : decode cX12_party 67 = .ok (.if_icmp .le 5, 3) := by decide +kernel
theorem dX12_party_70 : decode cX12_party 70 = .ok (.iconst (-1), 1) := by decide +kernel
theorem dX12_party_71 : decode cX12_party 71 = .ok (.ireturn, 1) := by decide +kernel
theorem dX12_party_72 : decode cX12_party 72 = .ok (.iconst (-1), 1) := by decide +kernel
theorem dX12_party_73 : decode cX12_party 73 = .ok (.istore 6, 2) := by decide +kernel
theorem dX12_party_75 : decode cX12_party 75 = .ok (.iconst 0, 1) := by decide +kernel
theorem dX12_party_76 : decode cX12_party 76 = .ok (.istore 7, 2) := by decide +kernel
theorem dX12_party_78 : decode cX12_party 78 = .ok (.iload 7, 2) := by decide +kernel
theorem dX12_party_80 : decode cX12_party 80 = .ok (.iload 4, 2) := by decide +kernel
theorem dX12_party_82 : decode cX12_party 82 = .ok (.if_icmp .gt 123, 3) := by decide +kernel
theorem dX12_party_85 : decode cX12_party 85 = .ok (.iload 7, 2) := by decide +kernel
theorem dX12_party_87 : decode cX12_party 87 = .ok (.istore 8, 2) := by decide +kernel
theorem dX12_party_89 : decode cX12_party 89 = .ok (.iload 8, 2) := by decide +kernel
theorem dX12_party_91 : decode cX12_party 91 = .ok (.iload_n 1, 1) := by decide +kernel
theorem dX12_party_92 : decode cX12_party 92 = .ok (.iconst 1, 1) := by decide +kernel
theorem dX12_party_93 : decode cX12_party 93 = .ok (.if_icmp .le 8, 3) := by decide +kernel
theorem dX12_party_96 : decode cX12_party 96 = .ok (.iload 4, 2) := by decide +kernel
theorem dX12_party_98 : decode cX12_party 98 = .ok (.goto 5, 3) := by decide +kernel
theorem dX12_party_101 : decode cX12_party 101 = .ok (.iload 7, 2) := by decide +kernel
theorem dX12_party_103 : decode cX12_party 103 = .ok (.if_icmp .gt 96, 3) := by decide +kernel
theorem dX12_party_106 : decode cX12_party 106 = .ok (.iload 8, 2) := by decide +kernel
theorem dX12_party_108 : decode cX12_party 108 = .ok (.istore 9, 2) := by decide +kernel
theorem dX12_party_110 : decode cX12_party 110 = .ok (.iload 9, 2) := by decide +kernel
theorem dX12_party_112 : decode cX12_party 112 = .ok (.iload_n 1, 1) := by decide +kernel
theorem dX12_party_113 : decode cX12_party 113 = .ok (.iconst 2, 1) := by decide +kernel
theorem dX12_party_114 : decode cX12_party 114 = .ok (.if_icmp .le 8, 3) := by decide +kernel
theorem dX12_party_117 : decode cX12_party 117 = .ok (.iload 4, 2) := by decide +kernel
theorem dX12_party_119 : decode cX12_party 119 = .ok (.goto 5, 3) := by decide +kernel
theorem dX12_party_122 : decode cX12_party 122 = .ok (.iload 8, 2) := by decide +kernel
theorem dX12_party_124 : decode cX12_party 124 = .ok (.if_icmp .gt 69, 3) := by decide +kernel
theorem dX12_party_127 : decode cX12_party 127 = .ok (.aload_n 0, 1) := by decide +kernel
theorem dX12_party_128 : decode cX12_party 128 = .ok (.iload_n 1, 1) := by decide +kernel
theorem dX12_party_129 : decode cX12_party 129 = .ok (.iload_n 2, 1) := by decide +kernel
theorem dX12_party_130 : decode cX12_party 130 = .ok (.iload_n 3, 1) := by decide +kernel
theorem dX12_party_131 : decode cX12_party 131 = .ok (.iload 5, 2) := by decide +kernel
theorem dX12_party_133 : decode cX12_party 133 = .ok (.iload 7, 2) := by decide +kernel
theorem dX12_party_135 : decode cX12_party 135 = .ok (.iload 8, 2) := by decide +kernel
theorem dX12_party_137 : decode cX12_party 137 = .ok (.iload 9, 2) := by decide +kernel
theorem dX12_party_139 : decode cX12_party 139 = .ok (.invokevirtual 433, 3) := by decide +kernel
theorem dX12_party_142 : decode cX12_party 142 = .ok (.istore 10, 2) := by decide +kernel
theorem dX12_party_144 : decode cX12_party 144 = .ok (.iload 6, 2) := by decide +kernel
theorem dX12_party_146 : decode cX12_party 146 = .ok (.ifCond .lt 13, 3) := by decide +kernel
theorem dX12_party_149 : decode cX12_party 149 = .ok (.iload 10, 2) := by decide +kernel
theorem dX12_party_151 : decode cX12_party 151 = .ok (.iload 6, 2) := by decide +kernel
theorem dX12_party_153 : decode cX12_party 153 = .ok (.if_icmp .lt 6, 3) := by decide +kernel
theorem dX12_party_156 : decode cX12_party 156 = .ok (.goto 31, 3) := by decide +kernel
theorem dX12_party_159 : decode cX12_party 159 = .ok (.iload 10, 2) := by decide +kernel
theorem dX12_party_161 : decode cX12_party 161 = .ok (.istore 6, 2) := by decide +kernel
theorem dX12_party_163 : decode cX12_party 163 = .ok (.aload_n 0, 1) := by decide +kernel
theorem dX12_party_164 : decode cX12_party 164 = .ok (.getfield 146, 3) := by decide +kernel
theorem dX12_party_167 : decode cX12_party 167 = .ok (.iconst 0, 1) := by decide +kernel
theorem dX12_party_168 : decode cX12_party 168 = .ok (.iload 7, 2) := by decide +kernel
theorem dX12_party_170 : decode cX12_party 170 = .ok (.iastore, 1) := by decide +kernel
theorem dX12_party_171 : decode cX12_party 171 = .ok (.aload_n 0, 1) := by decide +kernel
theorem dX12_party_172 : decode cX12_party 172 = .ok (.getfield 146, 3) := by decide +kernel
theorem dX12_party_175 : decode cX12_party 175 = .ok (.iconst 1, 1) := by decide +kernel
theorem dX12_party_176 : decode cX12_party 176 = .ok (.iload 8, 2) := by decide +kernel
theorem dX12_party_178 : decode cX12_party 178 = .ok (.iastore, 1) := by decide +kernel
theorem dX12_party_179 : decode cX12_party 179 = .ok (.aload_n 0, 1) := by decide +kernel
theorem dX12_party_180 : decode cX12_party 180 = .ok (.getfield 146, 3) := by decide +kernel
theorem dX12_party_183 : decode cX12_party 183 = .ok (.iconst 2, 1) := by decide +kernel
theorem dX12_party_184 : decode cX12_party 184 = .ok (.iload 9, 2) := by decide +kernel
theorem dX12_party_186 : decode cX12_party 186 = .ok (.iastore, 1) := by decide +kernel
theorem dX12_party_187 : decode cX12_party 187 = .ok (.iinc 9 1, 3) := by decide +kernel
theorem dX12_party_190 : decode cX12_party 190 = .ok (.goto (-80), 3) := by decide +kernel
theorem dX12_party_193 : decode cX12_party 193 = .ok (.iinc 8 1, 3) := by decide +kernel
theorem dX12_party_196 : decode cX12_party 196 = .ok (.goto (-107), 3) := by decide +kernel
theorem dX12_party_199 : decode cX12_party 199 = .ok (.iinc 7 1, 3) := by decide +kernel
theorem dX12_party_202 : decode cX12_party 202 = .ok (.goto (-124), 3) := by decide +kernel
theorem dX12_party_205 : decode cX12_party 205 = .ok (.aload_n 0, 1) := by decide +kernel
theorem dX12_party_206 : decode cX12_party 206 = .ok (.iload_n 1, 1) := by decide +kernel
theorem dX12_party_207 : decode cX12_party 207 = .ok (.putfield 295, 3) := by decide +kernel
theorem dX12_party_210 : decode cX12_party 210 = .ok (.iload 6, 2) := by decide +kernel
theorem dX12_party_212 : decode cX12_party 212 = .ok (.ireturn, 1) := by decide +kernel
def wq_c_X12_party : List Cond := Cond.code yX12_party cX12_party 11 (some .int) :: (([Cond.fieldLink RX12 295 "CrowTollModel" "laid" "I", Cond.methodLink RX12 366 yX12_isIn, Cond.static yX12_isIn, Cond.initialized RX12, Cond.code yX12_isIn cX12_isIn 3 (some .boolean), Cond.fieldLink RX12 98 "CrowTollModel" "state" "[I", Cond.methodLink RX12 433 yX12_partyPays, Cond.instanceMethod yX12_partyPays, Cond.selects RX12 yX12_partyPays yX12_partyPays, Cond.code yX12_partyPays cX12_partyPays 11 (some .int), Cond.methodLink RX12 400 yX12_layDay, Cond.instanceMethod yX12_layDay, Cond.selects RX12 yX12_layDay yX12_layDay, Cond.code yX12_layDay cX12_layDay 2 none, Cond.fieldLink RX12 379 "CrowTollModel" "dMany" "I", Cond.fieldLink RX12 382 "CrowTollModel" "dLimit" "I", Cond.fieldLink RX12 107 "CrowTollModel" "dFar" "[I", Cond.methodLink RX12 385 yX12_laySeats, Cond.instanceMethod yX12_laySeats, Cond.selects RX12 yX12_laySeats yX12_laySeats, Cond.code yX12_laySeats cX12_laySeats 3 none, Cond.methodLink RX12 370 yX12_postMany, Cond.instanceMethod yX12_postMany, Cond.selects RX12 yX12_postMany yX12_postMany, Cond.code yX12_postMany cX12_postMany 1 (some .int), Cond.fieldLink RX12 24 "CrowTollModel" "posts" "[I", Cond.fieldLink RX12 286 "CrowTollModel" "bank" "I", Cond.methodLink RX12 430 yX12_add, Cond.instanceMethod yX12_add, Cond.selects RX12 yX12_add yX12_add, Cond.code yX12_add cX12_add 3 none, Cond.fieldLink RX12 101 "CrowTollModel" "dMinute" "[I", Cond.fieldLink RX12 104 "CrowTollModel" "dSacks" "[I", Cond.fieldLink RX12 137 "CrowTollModel" "dComes" "[Z", Cond.methodLink RX12 403 yX12_goesBy, Cond.instanceMethod yX12_goesBy, Cond.selects RX12 yX12_goesBy yX12_goesBy, Cond.code yX12_goesBy cX12_goesBy 4 none, Cond.methodLink RX12 388 yX12_layTurns, Cond.instanceMethod yX12_layTurns, Cond.selects RX12 yX12_layTurns yX12_layTurns, Cond.code yX12_layTurns cX12_layTurns 4 (some .int), Cond.fieldLink RX12 116 "CrowTollModel" "turnOf" "[I", Cond.fieldLink RX12 125 "CrowTollModel" "count" "[I", Cond.fieldLink RX12 134 "CrowTollModel" "countedAll" "[I", Cond.fieldLink RX12 140 "CrowTollModel" "hasCounted" "[Z", Cond.fieldLink RX12 119 "CrowTollModel" "paid" "[I", Cond.fieldLink RX12 122 "CrowTollModel" "counted" "[I", Cond.methodLink RX12 397 yX12_paidBy, Cond.instanceMethod yX12_paidBy, Cond.selects RX12 yX12_paidBy yX12_paidBy, Cond.code yX12_paidBy cX12_paidBy 4 (some .int), Cond.fieldLink RX12 146 "CrowTollModel" "laidRow" "[I"] : List Cond) ++ wsX120)
set_option maxRecDepth 20000 in
theorem gr_c_X12_party_c_X12_isIn : GoodIn wq_c_X12_party wq_c_X12_isIn := List.forall_mem_cons.mpr ⟨⟨(List.mem_of_getElem? (i := 5) rfl), good_of_word rfl⟩, (fun _ h => absurd h List.not_mem_nil)⟩
set_option maxRecDepth 20000 in
theorem gq_c_X12_party_c_X12_isIn_366 : GoodIn wq_c_X12_party (va_wsS RX12 366 yX12_isIn wq_c_X12_isIn) := goodIn_app (List.forall_mem_cons.mpr ⟨⟨(List.mem_of_getElem? (i := 2) rfl), good_of_word rfl⟩, List.forall_mem_cons.mpr ⟨⟨(List.mem_of_getElem? (i := 3) rfl), good_of_word rfl⟩, List.forall_mem_cons.mpr ⟨⟨(List.mem_of_getElem? (i := 4) rfl), good_of_word rfl⟩, (fun _ h => absurd h List.not_mem_nil)⟩⟩⟩) gr_c_X12_party_c_X12_isIn
set_option maxRecDepth 20000 in
theorem gr_c_X12_party_c_X12_partyPays : GoodIn wq_c_X12_party wq_c_X12_partyPays := List.forall_mem_cons.mpr ⟨⟨(List.mem_of_getElem? (i := 10) rfl), good_of_word rfl⟩, List.forall_mem_append.mpr ⟨List.forall_mem_cons.mpr ⟨⟨(List.mem_of_getElem? (i := 11) rfl), good_of_word rfl⟩, List.forall_mem_cons.mpr ⟨⟨(List.mem_of_getElem? (i := 12) rfl), good_of_word rfl⟩, List.forall_mem_cons.mpr ⟨⟨(List.mem_of_getElem? (i := 13) rfl), good_of_word rfl⟩, List.forall_mem_cons.mpr ⟨⟨(List.mem_of_getElem? (i := 4) rfl), good_of_word rfl⟩, List.forall_mem_cons.mpr ⟨⟨(List.mem_of_getElem? (i := 14) rfl), good_of_word rfl⟩, List.forall_mem_cons.mpr ⟨⟨(List.mem_of_getElem? (i := 6) rfl), good_of_word rfl⟩, List.forall_mem_cons.mpr ⟨⟨(List.mem_of_getElem? (i := 15) rfl), good_of_word rfl⟩, List.forall_mem_cons.mpr ⟨⟨(List.mem_of_getElem? (i := 16) rfl), good_of_word rfl⟩, List.forall_mem_cons.mpr ⟨⟨(List.mem_of_getElem? (i := 17) rfl), good_of_word rfl⟩, List.forall_mem_cons.mpr ⟨⟨(List.mem_of_getElem? (i := 18) rfl), good_of_word rfl⟩, List.forall_mem_cons.mpr ⟨⟨(List.mem_of_getElem? (i := 19) rfl), good_of_word rfl⟩, List.forall_mem_cons.mpr ⟨⟨(List.mem_of_getElem? (i := 20) rfl), good_of_word rfl⟩, List.forall_mem_cons.mpr ⟨⟨(List.mem_of_getElem? (i := 21) rfl), good_of_word rfl⟩, List.forall_mem_cons.mpr ⟨⟨(List.mem_of_getElem? (i := 22) rfl), good_of_word rfl⟩, List.forall_mem_cons.mpr ⟨⟨(List.mem_of_getElem? (i := 23) rfl), good_of_word rfl⟩, List.forall_mem_cons.mpr ⟨⟨(List.mem_of_getElem? (i := 24) rfl), good_of_word rfl⟩, List.forall_mem_cons.mpr ⟨⟨(List.mem_of_getElem? (i := 25) rfl), good_of_word rfl⟩, List.forall_mem_cons.mpr ⟨⟨(List.mem_of_getElem? (i := 26) rfl), good_of_word rfl⟩, List.forall_mem_cons.mpr ⟨⟨(List.mem_of_getElem? (i := 27) rfl), good_of_word rfl⟩, List.forall_mem_cons.mpr ⟨⟨(List.mem_of_getElem? (i := 28) rfl), good_of_word rfl⟩, List.forall_mem_cons.mpr ⟨⟨(List.mem_of_getElem? (i := 29) rfl), good_of_word rfl⟩, List.forall_mem_cons.mpr ⟨⟨(List.mem_of_getElem? (i := 30) rfl), good_of_word rfl⟩, List.forall_mem_cons.mpr ⟨⟨(List.mem_of_getElem? (i := 31) rfl), good_of_word rfl⟩, List.forall_mem_cons.mpr ⟨⟨(List.mem_of_getElem? (i := 32) rfl), good_of_word rfl⟩, List.forall_mem_cons.mpr ⟨⟨(List.mem_of_getElem? (i := 33) rfl), good_of_word rfl⟩, List.forall_mem_cons.mpr ⟨⟨(List.mem_of_getElem? (i := 34) rfl), good_of_word rfl⟩, List.forall_mem_cons.mpr ⟨⟨(List.mem_of_getElem? (i := 35) rfl), good_of_word rfl⟩, List.forall_mem_cons.mpr ⟨⟨(List.mem_of_getElem? (i := 36) rfl), good_of_word rfl⟩, List.forall_mem_cons.mpr ⟨⟨(List.mem_of_getElem? (i := 37) rfl), good_of_word rfl⟩, List.forall_mem_cons.mpr ⟨⟨(List.mem_of_getElem? (i := 38) rfl), good_of_word rfl⟩, List.forall_mem_cons.mpr ⟨⟨(List.mem_of_getElem? (i := 39) rfl), good_of_word rfl⟩, List.forall_mem_cons.mpr ⟨⟨(List.mem_of_getElem? (i := 40) rfl), good_of_word rfl⟩, List.forall_mem_cons.mpr ⟨⟨(List.mem_of_getElem? (i := 41) rfl), good_of_word rfl⟩, List.forall_mem_cons.mpr ⟨⟨(List.mem_of_getElem? (i := 42) rfl), good_of_word rfl⟩, List.forall_mem_cons.mpr ⟨⟨(List.mem_of_getElem? (i := 43) rfl), good_of_word rfl⟩, List.forall_mem_cons.mpr ⟨⟨(List.mem_of_getElem? (i := 44) rfl), good_of_word rfl⟩, List.forall_mem_cons.mpr ⟨⟨(List.mem_of_getElem? (i := 45) rfl), good_of_word rfl⟩, List.forall_mem_cons.mpr ⟨⟨(List.mem_of_getElem? (i := 46) rfl), good_of_word rfl⟩, List.forall_mem_cons.mpr ⟨⟨(List.mem_of_getElem? (i := 47) rfl), good_of_word rfl⟩, List.forall_mem_cons.mpr ⟨⟨(List.mem_of_getElem? (i := 48) rfl), good_of_word rfl⟩, List.forall_mem_cons.mpr ⟨⟨(List.mem_of_getElem? (i := 49) rfl), good_of_word rfl⟩, List.forall_mem_cons.mpr ⟨⟨(List.mem_of_getElem? (i := 50) rfl), good_of_word rfl⟩, List.forall_mem_cons.mpr ⟨⟨(List.mem_of_getElem? (i := 51) rfl), good_of_word rfl⟩, List.forall_mem_cons.mpr ⟨⟨(List.mem_of_getElem? (i := 52) rfl), good_of_word rfl⟩, (fun _ h => absurd h List.not_mem_nil)⟩⟩⟩⟩⟩⟩⟩⟩⟩⟩⟩⟩⟩⟩⟩⟩⟩⟩⟩⟩⟩⟩⟩⟩⟩⟩⟩⟩⟩⟩⟩⟩⟩⟩⟩⟩⟩⟩⟩⟩⟩⟩⟩⟩, fun w h => ⟨(fun w h => List.mem_cons_of_mem _ (List.mem_append_right _ h)) w h, good_of_word (List.all_eq_true.mp gw_X12 w h)⟩⟩⟩
set_option maxRecDepth 20000 in
theorem gq_c_X12_party_c_X12_partyPays_433 : GoodIn wq_c_X12_party (wsV RX12 433 RX12 yX12_partyPays wq_c_X12_partyPays) := goodIn_app (List.forall_mem_cons.mpr ⟨⟨(List.mem_of_getElem? (i := 7) rfl), good_of_word rfl⟩, List.forall_mem_cons.mpr ⟨⟨(List.mem_of_getElem? (i := 8) rfl), good_of_word rfl⟩, List.forall_mem_cons.mpr ⟨⟨(List.mem_of_getElem? (i := 9) rfl), good_of_word rfl⟩, List.forall_mem_cons.mpr ⟨⟨(List.mem_of_getElem? (i := 4) rfl), good_of_word rfl⟩, (fun _ h => absurd h List.not_mem_nil)⟩⟩⟩⟩) gr_c_X12_party_c_X12_partyPays
set_option maxHeartbeats 8000000 in
set_option maxRecDepth 100000 in
theorem c_X12_party (l : Launch) (D : va_G) (cy : Nat → ClassId) (ad : Nat → Nat) (g : Nat → va_E) {f0 : List Value} {c3 : Nat → Int32} {c4 : Nat → Int32} {c6 : Nat → Int32} {c8 : Nat → Int32} {c11 : Nat → Int32} {x1 : Int32} {x2 : Int32} {x3 : Int32} {x4 : Int32} {x5 : Int32} (o0 : g 0 = .inr (12, f0)) (f0_12 : f0[12]? = some (.ref (ad 2))) (f0_36 : f0[36]? = some (.int 0)) (f0_41 : f0[41]? = some (.ref (ad 1))) (f0_42 : f0[42]? = some (.ref (ad 3))) (f0_43 : f0[43]? = some (.ref (ad 4))) (f0_44 : f0[44]? = some (.ref (ad 5))) (f0_47 : f0[47]? = some (.ref (ad 6))) (f0_48 : f0[48]? = some (.ref (ad 7))) (f0_49 : f0[49]? = some (.ref (ad 8))) (f0_50 : f0[50]? = some (.ref (ad 9))) (f0_53 : f0[53]? = some (.ref (ad 10))) (f0_54 : f0[54]? = some (.ref (ad 11))) (f0_55 : f0[55]? = some (.ref (ad 12))) (f0_56 : f0[56]? = some (.int 0)) (f0_57 : f0[57]? = some (.int 0)) (f0_61 : f0[61]? = some (.ref (ad 13))) (f0_62 : f0[62]? = some (.int 0)) (a1 : g 1 = .inl (cy 0, 80, .inl (fun _ => 0))) (a2 : g 2 = .inl (cy 0, 2, .inl (fun _ => 0))) (a3 : g 3 = .inl (cy 0, 30, .inl c3)) (a4 : g 4 = .inl (cy 0, 30, .inl c4)) (a5 : g 5 = .inl (cy 0, 5, .inl (fun _ => 0))) (a6 : g 6 = .inl (cy 0, 30, .inl c6)) (a7 : g 7 = .inl (cy 0, 120, .inl (fun _ => 0))) (a8 : g 8 = .inl (cy 0, 120, .inl c8)) (a9 : g 9 = .inl (cy 0, 5, .inl (fun _ => 0))) (a10 : g 10 = .inl (cy 0, 5, .inl (fun _ => 0))) (a11 : g 11 = .inl (cy 2, 30, .inl c11)) (a12 : g 12 = .inl (cy 2, 5, .inl (fun _ => 0))) (a13 : g 13 = .inl (cy 0, 24, .inl (fun _ => 0))) : cMi l yX12_party wq_c_X12_party { frames := 4, cells := 0, slots := 0, locals := 93 } 14 0 0 0 D cy ad g [.ref (ad 0), .int x1, .int x2, .int x3, .int x4, .int x5] (fun r nw lu => r = ans_party x1 x2 x3 x4 x5) := by
  refine cM_of (Qc := fun A => cQi (fun r nw lu => r = ans_party x1 x2 x3 x4 x5) D 14 0 ad g A) (cc := cX12_party) (maxL := 11) (ret := (some .int)) (by decide) rfl (Nat.le_of_ble_eq_true rfl) ?_
  intro p e s m below meth c A hC hr hlk hnm hO ls hl
  have hC : CallFix p m c cX12_party 11 s [.ref (ad 0), .int x1, .int x2, .int x3, .int x4, .int x5].toArray wq_c_X12_party RX12 := hC
  obtain ⟨hx, hb, hml, hown, hts⟩ := id hC
  have hl : lv_has ls 11 [(0, .ref (ad 0)), (1, .int x1), (2, .int x2), (3, .int x3), (4, .int x4), (5, .int x5)] := hl
  have i_X12 : ∀ w ∈ wsX120, w ∈ wq_c_X12_party := fun w h => List.mem_cons_of_mem _ (List.mem_append_right _ h)
  refine lv_aload_n hx hb dX12_party_0 rfl (lv_at hl 0 rfl) ?_
  refine lv_iconst (v := 0) hx hb dX12_party_1 (by decide) ?_
  refine cg_put hC hO 0 (by decide) o0 rfl i_X12 tyX12_ok nmX12 62 (by decide) (List.mem_of_getElem? (i := 1) rfl) rfl rfl rfl (fs_lt f0_62) dX12_party_2 (fun H locs hO => ?_)
  have hO : cO D cy A s.heap s 14 ad (cup [(0, .inr (12, (f0.set 62 (.int 0))))] g) _ _ := hO
  refine lv_iload_n hx hb dX12_party_5 rfl (lv_at hl 1 rfl) ?_
  refine lv_iconst (v := 1) hx hb dX12_party_6 (by decide) ?_
  refine lv_iconst (v := 3) hx hb dX12_party_7 (by decide) ?_
  refine cg_Si (As := [.int x1, .int 1, .int 3]) (rest := []) (mc := 0) (ms := 0) (rm := { frames := 0, cells := 0, slots := 0, locals := 0 }) hC hl.1 hO [] rfl (c_X12_isIn l D cy _ _ (x := x1) (y := 1) (z := 3) ) gq_c_X12_party_c_X12_isIn_366 rfl rfl rfl 3 (by decide +kernel) ⟨Nat.le_of_ble_eq_true rfl, Nat.le_of_ble_eq_true rfl⟩ rfl rfl (Nat.le_of_ble_eq_true rfl) dX12_party_8 ⟨Nat.le_of_ble_eq_true rfl, Nat.le_of_ble_eq_true rfl⟩ (fun r_8_3 nw_8_1 l_8_2 H locs hw hO => ?_)
  rcases hw with hw | hw
  · obtain ⟨hr_8_4, rfl, rfl⟩ := hw
    have hO : cO D cy A s.heap s 14 ad (cup [(0, .inr (12, (f0.set 62 (.int 0))))] g) _ _ := hO
    refine lv_if_eq (tgt := 70) hx hb dX12_party_11 (by decide) (fun h => absurd h (by decide)) (fun _ => ?_)
    refine lv_iload_n hx hb dX12_party_14 rfl (lv_at hl 2 rfl) ?_
    refine lv_iconst (v := 1) hx hb dX12_party_15 (by decide) ?_
    refine lv_bipush (v := 99) hx hb dX12_party_16 (by decide) ?_
    refine cg_Si (As := [.int x2, .int 1, .int 99]) (rest := []) (mc := 0) (ms := 0) (rm := { frames := 0, cells := 0, slots := 0, locals := 0 }) hC hl.1 hO [] rfl (c_X12_isIn l D cy _ _ (x := x2) (y := 1) (z := 99) ) gq_c_X12_party_c_X12_isIn_366 rfl rfl rfl 3 (by decide +kernel) ⟨Nat.le_of_ble_eq_true rfl, Nat.le_of_ble_eq_true rfl⟩ rfl rfl (Nat.le_of_ble_eq_true rfl) dX12_party_18 ⟨Nat.le_of_ble_eq_true rfl, Nat.le_of_ble_eq_true rfl⟩ (fun r_18_7 nw_18_5 l_18_6 H locs hw hO => ?_)
    rcases hw with hw | hw
    · obtain ⟨hr_18_8, rfl, rfl⟩ := hw
      have hO : cO D cy A s.heap s 14 ad (cup [(0, .inr (12, (f0.set 62 (.int 0))))] g) _ _ := hO
      refine lv_if_eq (tgt := 70) hx hb dX12_party_21 (by decide) (fun h => absurd h (by decide)) (fun _ => ?_)
      refine lv_iload_n hx hb dX12_party_24 rfl (lv_at hl 3 rfl) ?_
      refine lv_iconst (v := 0) hx hb dX12_party_25 (by decide) ?_
      refine lv_sipush (v := 600) hx hb dX12_party_26 (by decide) ?_
      refine cg_Si (As := [.int x3, .int 0, .int 600]) (rest := []) (mc := 0) (ms := 0) (rm := { frames := 0, cells := 0, slots := 0, locals := 0 }) hC hl.1 hO [] rfl (c_X12_isIn l D cy _ _ (x := x3) (y := 0) (z := 600) ) gq_c_X12_party_c_X12_isIn_366 rfl rfl rfl 3 (by decide +kernel) ⟨Nat.le_of_ble_eq_true rfl, Nat.le_of_ble_eq_true rfl⟩ rfl rfl (Nat.le_of_ble_eq_true rfl) dX12_party_29 ⟨Nat.le_of_ble_eq_true rfl, Nat.le_of_ble_eq_true rfl⟩ (fun r_29_11 nw_29_9 l_29_10 H locs hw hO => ?_)
      rcases hw with hw | hw
      · obtain ⟨hr_29_12, rfl, rfl⟩ := hw
        have hO : cO D cy A s.heap s 14 ad (cup [(0, .inr (12, (f0.set 62 (.int 0))))] g) _ _ := hO
        refine lv_if_eq (tgt := 70) hx hb dX12_party_32 (by decide) (fun h => absurd h (by decide)) (fun _ => ?_)
        refine lv_iload hx hb dX12_party_35 (lv_at hl 4 rfl) ?_
        refine lv_iconst (v := 0) hx hb dX12_party_37 (by decide) ?_
        refine lv_bipush (v := 20) hx hb dX12_party_38 (by decide) ?_
        refine cg_Si (As := [.int x4, .int 0, .int 20]) (rest := []) (mc := 0) (ms := 0) (rm := { frames := 0, cells := 0, slots := 0, locals := 0 }) hC hl.1 hO [] rfl (c_X12_isIn l D cy _ _ (x := x4) (y := 0) (z := 20) ) gq_c_X12_party_c_X12_isIn_366 rfl rfl rfl 3 (by decide +kernel) ⟨Nat.le_of_ble_eq_true rfl, Nat.le_of_ble_eq_true rfl⟩ rfl rfl (Nat.le_of_ble_eq_true rfl) dX12_party_40 ⟨Nat.le_of_ble_eq_true rfl, Nat.le_of_ble_eq_true rfl⟩ (fun r_40_15 nw_40_13 l_40_14 H locs hw hO => ?_)
        rcases hw with hw | hw
        · obtain ⟨hr_40_16, rfl, rfl⟩ := hw
          have hO : cO D cy A s.heap s 14 ad (cup [(0, .inr (12, (f0.set 62 (.int 0))))] g) _ _ := hO
          refine lv_if_eq (tgt := 70) hx hb dX12_party_43 (by decide) (fun h => absurd h (by decide)) (fun _ => ?_)
          refine lv_iload hx hb dX12_party_46 (lv_at hl 5 rfl) ?_
          refine lv_iconst (v := 0) hx hb dX12_party_48 (by decide) ?_
          refine lv_bipush (v := 99) hx hb dX12_party_49 (by decide) ?_
          refine cg_Si (As := [.int x5, .int 0, .int 99]) (rest := []) (mc := 0) (ms := 0) (rm := { frames := 0, cells := 0, slots := 0, locals := 0 }) hC hl.1 hO [] rfl (c_X12_isIn l D cy _ _ (x := x5) (y := 0) (z := 99) ) gq_c_X12_party_c_X12_isIn_366 rfl rfl rfl 3 (by decide +kernel) ⟨Nat.le_of_ble_eq_true rfl, Nat.le_of_ble_eq_true rfl⟩ rfl rfl (Nat.le_of_ble_eq_true rfl) dX12_party_51 ⟨Nat.le_of_ble_eq_true rfl, Nat.le_of_ble_eq_true rfl⟩ (fun r_51_19 nw_51_17 l_51_18 H locs hw hO => ?_)
          rcases hw with hw | hw
          · obtain ⟨hr_51_20, rfl, rfl⟩ := hw
            have hO : cO D cy A s.heap s 14 ad (cup [(0, .inr (12, (f0.set 62 (.int 0))))] g) _ _ := hO
            refine lv_if_eq (tgt := 70) hx hb dX12_party_54 (by decide) (fun h => absurd h (by decide)) (fun _ => ?_)
            obtain ⟨x1_n, hx1_n, ex1_n⟩ := rng_nat (n := 3) hr_8_4 (by decide) rfl
            rw [ex1_n] at hl
            obtain ⟨x4_n, hx4_n, ex4_n⟩ := rng_nat (n := 20) hr_40_16 (by decide) rfl
            rw [ex4_n] at hl
            obtain ⟨x5_n, hx5_n, ex5_n⟩ := rng_nat (n := 99) hr_51_20 (by decide) rfl
            rw [ex5_n] at hl
            refine lv_aload_n hx hb dX12_party_57 rfl (lv_at hl 0 rfl) ?_
            refine cg_get hC hO 0 (by decide) rfl rfl i_X12 41 (by decide) (List.mem_of_getElem? (i := 6) rfl) (fs_ne (by decide) f0_41) dX12_party_58 ?_
            refine lv_iconst (v := 0) hx hb dX12_party_61 (by decide) ?_
            refine cg_iald hC hO 1 (by decide) a1 (cin (by decide)) dX12_party_62 ?_
            refine cg_ev (v := 0) (rfl) ?_
            refine lv_iload_n hx hb dX12_party_63 rfl (lv_at hl 1 rfl) ?_
            refine lv_iadd hx hb dX12_party_64 ?_
            refine cg_ev (v := (nI (0 + x1_n))) (nI_add 0 x1_n) ?_
            refine lv_bipush (v := 24) hx hb dX12_party_65 (by decide) ?_
            refine lv_icmp_le (tgt := 72) hx hb dX12_party_67 (by decide) (fun _ => ?_) (fun h => (show False from by have z : ¬ (0 + x1_n) ≤ 24 := fun q => h ((nI_leI (a := (0 + x1_n)) (b := 24) (by omega) (by omega)).mpr q); omega).elim)
            refine lv_iconst (v := (-1)) hx hb dX12_party_72 (by decide) ?_
            refine lv_istore (lv' := [(6, .int (-1)), (0, .ref (ad 0)), (1, .int (nI x1_n)), (2, .int x2), (3, .int x3), (4, .int (nI x4_n)), (5, .int (nI x5_n))]) hx hb dX12_party_73 hl (by decide) rfl (fun ls hl => ?_)
            refine lv_iconst (v := 0) hx hb dX12_party_75 (by decide) ?_
            refine lv_istore (lv' := [(7, .int 0), (6, .int (-1)), (0, .ref (ad 0)), (1, .int (nI x1_n)), (2, .int x2), (3, .int x3), (4, .int (nI x4_n)), (5, .int (nI x5_n))]) hx hb dX12_party_76 hl (by decide) rfl (fun ls hl => ?_)
            refine lv_iload hx hb dX12_party_78 (lv_at hl 0 rfl) ?_
            refine lv_iload hx hb dX12_party_80 (lv_at hl 6 rfl) ?_
            refine lv_icmp_gt (tgt := 205) hx hb dX12_party_82 (by decide) (fun h => (show False from by have z := (nI_ltI (a := x4_n) (b := 0) (by omega) (by omega)).mp h; omega).elim) (fun _ => ?_)
            refine lv_iload hx hb dX12_party_85 (lv_at hl 0 rfl) ?_
            refine lv_istore (lv' := [(8, .int 0), (7, .int 0), (6, .int (-1)), (0, .ref (ad 0)), (1, .int (nI x1_n)), (2, .int x2), (3, .int x3), (4, .int (nI x4_n)), (5, .int (nI x5_n))]) hx hb dX12_party_87 hl (by decide) rfl (fun ls hl => ?_)
            refine lv_iload hx hb dX12_party_89 (lv_at hl 0 rfl) ?_
            refine lv_iload_n hx hb dX12_party_91 rfl (lv_at hl 4 rfl) ?_
            refine lv_iconst (v := 1) hx hb dX12_party_92 (by decide) ?_
            refine lv_icmp_le (tgt := 101) hx hb dX12_party_93 (by decide) (fun h_93_21 => ?_) (fun h_93_21 => ?_)
            · have nh_93_21 : x1_n ≤ 1 := (nI_leI (a := x1_n) (b := 1) (by omega) (by omega)).mp h_93_21
              refine lv_iload hx hb dX12_party_101 (lv_at hl 1 rfl) ?_
              refine lv_icmp_gt (tgt := 199) hx hb dX12_party_103 (by decide) (fun h => absurd h (by decide)) (fun _ => ?_)
              refine lv_iload hx hb dX12_party_106 (lv_at hl 0 rfl) ?_
              refine lv_istore (lv' := [(9, .int 0), (8, .int 0), (7, .int 0), (6, .int (-1)), (0, .ref (ad 0)), (1, .int (nI x1_n)), (2, .int x2), (3, .int x3), (4, .int (nI x4_n)), (5, .int (nI x5_n))]) hx hb dX12_party_108 hl (by decide) rfl (fun ls hl => ?_)
              refine lv_iload hx hb dX12_party_110 (lv_at hl 0 rfl) ?_
              refine lv_iload_n hx hb dX12_party_112 rfl (lv_at hl 5 rfl) ?_
              refine lv_iconst (v := 2) hx hb dX12_party_113 (by decide) ?_
              refine lv_icmp_le (tgt := 122) hx hb dX12_party_114 (by decide) (fun _ => ?_) (fun h => (show False from by have z : ¬ x1_n ≤ 2 := fun q => h ((nI_leI (a := x1_n) (b := 2) (by omega) (by omega)).mpr q); omega).elim)
              refine lv_iload hx hb dX12_party_122 (lv_at hl 1 rfl) ?_
              refine lv_icmp_gt (tgt := 193) hx hb dX12_party_124 (by decide) (fun h => absurd h (by decide)) (fun _ => ?_)
              refine lv_aload_n hx hb dX12_party_127 rfl (lv_at hl 4 rfl) ?_
              refine lv_iload_n hx hb dX12_party_128 rfl (lv_at hl 5 rfl) ?_
              refine lv_iload_n hx hb dX12_party_129 rfl (lv_at hl 6 rfl) ?_
              refine lv_iload_n hx hb dX12_party_130 rfl (lv_at hl 7 rfl) ?_
              refine lv_iload hx hb dX12_party_131 (lv_at hl 9 rfl) ?_
              refine lv_iload hx hb dX12_party_133 (lv_at hl 2 rfl) ?_
              refine lv_iload hx hb dX12_party_135 (lv_at hl 1 rfl) ?_
              refine lv_iload hx hb dX12_party_137 (lv_at hl 0 rfl) ?_
              refine cg_Vi (As := [.int (nI x1_n), .int x2, .int x3, .int (nI x5_n), .int 0, .int 0, .int 0]) (rest := []) (mc := 0) (ms := 0) (rm := { frames := 3, cells := 0, slots := 0, locals := 63 }) hC hl.1 hO [0, 2, 1, 5, 3, 4, 11, 6, 7, 8, 9, 10, 12] rfl (c_X12_partyPays l D cy _ _ (f0 := (f0.set 62 (.int 0))) (c4 := c3) (c5 := c4) (c7 := c6) (c9 := c8) (c6 := c11) (xm := 0) (xl := 0) (n := x1_n) (s1 := x2) (mi := x3) (la := x5_n) (o1 := 0) (o2 := 0) (o3 := 0) rfl (fs_ne (by decide) f0_12) (fs_ne (by decide) f0_36) (fs_ne (by decide) f0_41) (fs_ne (by decide) f0_42) (fs_ne (by decide) f0_43) (fs_ne (by decide) f0_44) (fs_ne (by decide) f0_47) (fs_ne (by decide) f0_48) (fs_ne (by decide) f0_49) (fs_ne (by decide) f0_50) (fs_ne (by decide) f0_53) (fs_ne (by decide) f0_54) (fs_ne (by decide) f0_55) (fs_ne (by decide) f0_56) (fs_ne (by decide) f0_57) a2 a1 a5 a3 a4 a11 a6 a7 a8 a9 a10 a12 (by omega) (by omega) (by omega) (by omega) (by omega)) gq_c_X12_party_c_X12_partyPays_433 rfl rfl rfl 7 (by decide +kernel) ⟨Nat.le_of_ble_eq_true rfl, Nat.le_of_ble_eq_true rfl⟩ rfl (by decide) rfl rfl rfl (Nat.le_of_ble_eq_true rfl) dX12_party_139 ⟨Nat.le_of_ble_eq_true rfl, Nat.le_of_ble_eq_true rfl⟩ (fun r_139_24 nw_139_22 l_139_23 H locs hw hO => ?_)
              rcases hw with hw | hw | hw | hw
              · obtain ⟨c1_139_25, c2_139_26, c3_139_27, tt_139_28, cd_139_29, hS_139_30, hZ_139_31, h_139_32, h_139_33, rfl, rfl⟩ := hw
                have hO : cO D cy A s.heap s 14 ad (cup [(0, .inr (12, ((((f0.set 62 (.int 0)).set 56 (.int 0)).set 57 (.int 10000)).set 56 (.int 1)))), (6, .inl (cy 0, 30, .inl tt_139_28)), (9, .inl (cy 0, 5, .inl (fun _ => 0))), (10, .inl (cy 0, 5, .inl (fun _ => 0))), (12, .inl (cy 2, 5, .inl (fun _ => 0))), (7, .inl (cy 0, 120, .inl (fun _ => 0))), (8, .inl (cy 0, 120, .inl cd_139_29)), (3, .inl (cy 0, 30, .inl c1_139_25)), (4, .inl (cy 0, 30, .inl c2_139_26)), (11, .inl (cy 2, 30, .inl c3_139_27)), (5, .inl (cy 0, 5, .inl (fun _ => 0)))] g) _ _ := hO
                refine lv_istore (lv' := [(10, .int (nI ((x5_n * ((0 + 0) + 0)) + 0))), (9, .int 0), (8, .int 0), (7, .int 0), (6, .int (-1)), (0, .ref (ad 0)), (1, .int (nI x1_n)), (2, .int x2), (3, .int x3), (4, .int (nI x4_n)), (5, .int (nI x5_n))]) hx hb dX12_party_142 hl (by decide) rfl (fun ls hl => ?_)
                refine lv_iload hx hb dX12_party_144 (lv_at hl 4 rfl) ?_
                refine lv_if_lt (tgt := 159) hx hb dX12_party_146 (by decide) (fun _ => ?_) (fun h => absurd h (by decide))
                refine lv_iload hx hb dX12_party_159 (lv_at hl 0 rfl) ?_
                refine lv_istore (lv' := [(6, .int (nI ((x5_n * ((0 + 0) + 0)) + 0))), (10, .int (nI ((x5_n * ((0 + 0) + 0)) + 0))), (9, .int 0), (8, .int 0), (7, .int 0), (0, .ref (ad 0)), (1, .int (nI x1_n)), (2, .int x2), (3, .int x3), (4, .int (nI x4_n)), (5, .int (nI x5_n))]) hx hb dX12_party_161 hl (by decide) rfl (fun ls hl => ?_)
                refine lv_aload_n hx hb dX12_party_163 rfl (lv_at hl 5 rfl) ?_
                refine cg_get hC hO 0 (by decide) rfl rfl i_X12 61 (by decide) (List.mem_of_getElem? (i := 53) rfl) (fs_ne (by decide) (fs_ne (by decide) (fs_ne (by decide) (fs_ne (by decide) f0_61)))) dX12_party_164 ?_
                refine lv_iconst (v := 0) hx hb dX12_party_167 (by decide) ?_
                refine lv_iload hx hb dX12_party_168 (lv_at hl 4 rfl) ?_
                refine cg_iast hC hO 13 (by decide) a13 (cin (by decide)) dX12_party_170 (fun H locs hO => ?_)
                have hO : cO D cy A s.heap s 14 ad (cup [(0, .inr (12, ((((f0.set 62 (.int 0)).set 56 (.int 0)).set 57 (.int 10000)).set 56 (.int 1)))), (6, .inl (cy 0, 30, .inl tt_139_28)), (9, .inl (cy 0, 5, .inl (fun _ => 0))), (10, .inl (cy 0, 5, .inl (fun _ => 0))), (12, .inl (cy 2, 5, .inl (fun _ => 0))), (7, .inl (cy 0, 120, .inl (fun _ => 0))), (8, .inl (cy 0, 120, .inl cd_139_29)), (3, .inl (cy 0, 30, .inl c1_139_25)), (4, .inl (cy 0, 30, .inl c2_139_26)), (11, .inl (cy 2, 30, .inl c3_139_27)), (5, .inl (cy 0, 5, .inl (fun _ => 0))), (13, .inl (cy 0, 24, .inl (upd (fun _ => 0) (0 : Int32).toNatClampNeg 0)))] g) _ _ := hO
                rw [upd_const] at hO
                have hO : cO D cy A s.heap s 14 ad (cup [(0, .inr (12, ((((f0.set 62 (.int 0)).set 56 (.int 0)).set 57 (.int 10000)).set 56 (.int 1)))), (6, .inl (cy 0, 30, .inl tt_139_28)), (9, .inl (cy 0, 5, .inl (fun _ => 0))), (10, .inl (cy 0, 5, .inl (fun _ => 0))), (12, .inl (cy 2, 5, .inl (fun _ => 0))), (7, .inl (cy 0, 120, .inl (fun _ => 0))), (8, .inl (cy 0, 120, .inl cd_139_29)), (3, .inl (cy 0, 30, .inl c1_139_25)), (4, .inl (cy 0, 30, .inl c2_139_26)), (11, .inl (cy 2, 30, .inl c3_139_27)), (5, .inl (cy 0, 5, .inl (fun _ => 0))), (13, .inl (cy 0, 24, .inl (fun _ => 0)))] g) _ _ := hO
                refine lv_aload_n hx hb dX12_party_171 rfl (lv_at hl 5 rfl) ?_
                refine cg_get hC hO 0 (by decide) rfl rfl i_X12 61 (by decide) (List.mem_of_getElem? (i := 53) rfl) (fs_ne (by decide) (fs_ne (by decide) (fs_ne (by decide) (fs_ne (by decide) f0_61)))) dX12_party_172 ?_
                refine lv_iconst (v := 1) hx hb dX12_party_175 (by decide) ?_
                refine lv_iload hx hb dX12_party_176 (lv_at hl 3 rfl) ?_
                refine cg_iast hC hO 13 (by decide) rfl (cin (by decide)) dX12_party_178 (fun H locs hO => ?_)
                have hO : cO D cy A s.heap s 14 ad (cup [(0, .inr (12, ((((f0.set 62 (.int 0)).set 56 (.int 0)).set 57 (.int 10000)).set 56 (.int 1)))), (6, .inl (cy 0, 30, .inl tt_139_28)), (9, .inl (cy 0, 5, .inl (fun _ => 0))), (10, .inl (cy 0, 5, .inl (fun _ => 0))), (12, .inl (cy 2, 5, .inl (fun _ => 0))), (7, .inl (cy 0, 120, .inl (fun _ => 0))), (8, .inl (cy 0, 120, .inl cd_139_29)), (3, .inl (cy 0, 30, .inl c1_139_25)), (4, .inl (cy 0, 30, .inl c2_139_26)), (11, .inl (cy 2, 30, .inl c3_139_27)), (5, .inl (cy 0, 5, .inl (fun _ => 0))), (13, .inl (cy 0, 24, .inl (upd (fun _ => 0) (1 : Int32).toNatClampNeg 0)))] g) _ _ := hO
                rw [upd_const] at hO
                have hO : cO D cy A s.heap s 14 ad (cup [(0, .inr (12, ((((f0.set 62 (.int 0)).set 56 (.int 0)).set 57 (.int 10000)).set 56 (.int 1)))), (6, .inl (cy 0, 30, .inl tt_139_28)), (9, .inl (cy 0, 5, .inl (fun _ => 0))), (10, .inl (cy 0, 5, .inl (fun _ => 0))), (12, .inl (cy 2, 5, .inl (fun _ => 0))), (7, .inl (cy 0, 120, .inl (fun _ => 0))), (8, .inl (cy 0, 120, .inl cd_139_29)), (3, .inl (cy 0, 30, .inl c1_139_25)), (4, .inl (cy 0, 30, .inl c2_139_26)), (11, .inl (cy 2, 30, .inl c3_139_27)), (5, .inl (cy 0, 5, .inl (fun _ => 0))), (13, .inl (cy 0, 24, .inl (fun _ => 0)))] g) _ _ := hO
                refine lv_aload_n hx hb dX12_party_179 rfl (lv_at hl 5 rfl) ?_
                refine cg_get hC hO 0 (by decide) rfl rfl i_X12 61 (by decide) (List.mem_of_getElem? (i := 53) rfl) (fs_ne (by decide) (fs_ne (by decide) (fs_ne (by decide) (fs_ne (by decide) f0_61)))) dX12_party_180 ?_
                refine lv_iconst (v := 2) hx hb dX12_party_183 (by decide) ?_
                refine lv_iload hx hb dX12_party_184 (lv_at hl 2 rfl) ?_
                refine cg_iast hC hO 13 (by decide) rfl (cin (by decide)) dX12_party_186 (fun H locs hO => ?_)
                have hO : cO D cy A s.heap s 14 ad (cup [(0, .inr (12, ((((f0.set 62 (.int 0)).set 56 (.int 0)).set 57 (.int 10000)).set 56 (.int 1)))), (6, .inl (cy 0, 30, .inl tt_139_28)), (9, .inl (cy 0, 5, .inl (fun _ => 0))), (10, .inl (cy 0, 5, .inl (fun _ => 0))), (12, .inl (cy 2, 5, .inl (fun _ => 0))), (7, .inl (cy 0, 120, .inl (fun _ => 0))), (8, .inl (cy 0, 120, .inl cd_139_29)), (3, .inl (cy 0, 30, .inl c1_139_25)), (4, .inl (cy 0, 30, .inl c2_139_26)), (11, .inl (cy 2, 30, .inl c3_139_27)), (5, .inl (cy 0, 5, .inl (fun _ => 0))), (13, .inl (cy 0, 24, .inl (upd (fun _ => 0) (2 : Int32).toNatClampNeg 0)))] g) _ _ := hO
                rw [upd_const] at hO
                have hO : cO D cy A s.heap s 14 ad (cup [(0, .inr (12, ((((f0.set 62 (.int 0)).set 56 (.int 0)).set 57 (.int 10000)).set 56 (.int 1)))), (6, .inl (cy 0, 30, .inl tt_139_28)), (9, .inl (cy 0, 5, .inl (fun _ => 0))), (10, .inl (cy 0, 5, .inl (fun _ => 0))), (12, .inl (cy 2, 5, .inl (fun _ => 0))), (7, .inl (cy 0, 120, .inl (fun _ => 0))), (8, .inl (cy 0, 120, .inl cd_139_29)), (3, .inl (cy 0, 30, .inl c1_139_25)), (4, .inl (cy 0, 30, .inl c2_139_26)), (11, .inl (cy 2, 30, .inl c3_139_27)), (5, .inl (cy 0, 5, .inl (fun _ => 0))), (13, .inl (cy 0, 24, .inl (fun _ => 0)))] g) _ _ := hO
                refine lv_iinc (v := 1) (lv' := [(9, .int 1), (6, .int (nI ((x5_n * ((0 + 0) + 0)) + 0))), (10, .int (nI ((x5_n * ((0 + 0) + 0)) + 0))), (8, .int 0), (7, .int 0), (0, .ref (ad 0)), (1, .int (nI x1_n)), (2, .int x2), (3, .int x3), (4, .int (nI x4_n)), (5, .int (nI x5_n))]) hx hb dX12_party_187 hl (k := 2) rfl (by decide) (by decide) rfl (fun ls hl => ?_)
                refine lv_goto (tgt := 110) hx hb dX12_party_190 (by decide) ?_
                simp only [List.set_set, st_can] at hO
                have hO : cO D cy A s.heap s 14 ad (cup [(0, .inr (12, (((f0.set 62 (.int 0)).set 56 (.int 1)).set 57 (.int 10000)))), (6, .inl (cy 0, 30, .inl tt_139_28)), (9, .inl (cy 0, 5, .inl (fun _ => 0))), (10, .inl (cy 0, 5, .inl (fun _ => 0))), (12, .inl (cy 2, 5, .inl (fun _ => 0))), (7, .inl (cy 0, 120, .inl (fun _ => 0))), (8, .inl (cy 0, 120, .inl cd_139_29)), (3, .inl (cy 0, 30, .inl c1_139_25)), (4, .inl (cy 0, 30, .inl c2_139_26)), (11, .inl (cy 2, 30, .inl c3_139_27)), (5, .inl (cy 0, 5, .inl (fun _ => 0))), (13, .inl (cy 0, 24, .inl (fun _ => 0)))] g) _ _ := hO
                have loop_110_34 : ∀ (d_110_35 : Nat) (z : Nat) (bb : Nat) (r3 : Nat → Int32) (r4 : Nat → Int32) (r11 : Nat → Int32) (r6 : Nat → Int32) (r8 : Nat → Int32), (z ≤ 0 + 1) → (bb = 0) → 0 + 1 - z < d_110_35 → ∀ (H : Heap) (locs : List Loc), cO D cy A s.heap s 14 ad (cup [(0, .inr (12, (((f0.set 62 (.int 0)).set 56 (.int 1)).set 57 (.int 10000)))), (6, .inl (cy 0, 30, .inl r6)), (9, .inl (cy 0, 5, .inl (fun _ => 0))), (10, .inl (cy 0, 5, .inl (fun _ => 0))), (12, .inl (cy 2, 5, .inl (fun _ => 0))), (7, .inl (cy 0, 120, .inl (fun _ => 0))), (8, .inl (cy 0, 120, .inl r8)), (3, .inl (cy 0, 30, .inl r3)), (4, .inl (cy 0, 30, .inl r4)), (11, .inl (cy 2, 30, .inl r11)), (5, .inl (cy 0, 5, .inl (fun _ => 0))), (13, .inl (cy 0, 24, .inl (fun _ => 0)))] g) H locs → ∀ ls : Array Slot, lv_has ls 11 [(9, .int (nI z)), (6, .int (nI bb)), (8, .int 0), (7, .int 0), (0, .ref (ad 0)), (1, .int (nI x1_n)), (2, .int x2), (3, .int x3), (4, .int (nI x4_n)), (5, .int (nI x5_n))] → W p l e { frames := 4, cells := 0, slots := 0, locals := 93 } s m [.ref (ad 0), .int x1, .int x2, .int x3, .int x4, .int x5].toArray below meth c H locs 0 0 (MQ below (cQi (fun r nw lu => r = ans_party x1 x2 x3 x4 x5) D 14 0 ad g A) [.ref (ad 0), .int x1, .int x2, .int x3, .int x4, .int x5].toArray s 0 0 A) (F0 m 110 ls []) := by
                  intro d_110_35
                  induction d_110_35 with
                  | zero => intro z bb r3 r4 r11 r6 r8 hz hbb mu_110_36; exact absurd mu_110_36 (Nat.not_lt_zero _)
                  | succ d_110_35 ih_110_37 =>
                    intro z bb r3 r4 r11 r6 r8 hz hbb mu_110_36 H locs hO ls hl
                    refine lv_iload hx hb dX12_party_110 (lv_at hl 0 rfl) ?_
                    refine lv_iload_n hx hb dX12_party_112 rfl (lv_at hl 5 rfl) ?_
                    refine lv_iconst (v := 2) hx hb dX12_party_113 (by decide) ?_
                    refine lv_icmp_le (tgt := 122) hx hb dX12_party_114 (by decide) (fun _ => ?_) (fun h => (show False from by have z : ¬ x1_n ≤ 2 := fun q => h ((nI_leI (a := x1_n) (b := 2) (by omega) (by omega)).mpr q); omega).elim)
                    refine lv_iload hx hb dX12_party_122 (lv_at hl 2 rfl) ?_
                    refine lv_icmp_gt (tgt := 193) hx hb dX12_party_124 (by decide) (fun h_124_38 => ?_) (fun h_124_38 => ?_)
                    · have nh_124_38 : 0 < z := (nI_ltI (a := 0) (b := z) (by omega) (by omega)).mp h_124_38
                      refine lv_iinc (v := 1) (lv' := [(8, .int 1), (9, .int (nI z)), (6, .int (nI bb)), (7, .int 0), (0, .ref (ad 0)), (1, .int (nI x1_n)), (2, .int x2), (3, .int x3), (4, .int (nI x4_n)), (5, .int (nI x5_n))]) hx hb dX12_party_193 hl (k := 2) rfl (by decide) (by decide) rfl (fun ls hl => ?_)
                      refine lv_goto (tgt := 89) hx hb dX12_party_196 (by decide) ?_
                      have hO : cO D cy A s.heap s 14 ad (cup [(0, .inr (12, (((f0.set 62 (.int 0)).set 56 (.int 1)).set 57 (.int 10000)))), (6, .inl (cy 0, 30, .inl r6)), (9, .inl (cy 0, 5, .inl (fun _ => 0))), (10, .inl (cy 0, 5, .inl (fun _ => 0))), (12, .inl (cy 2, 5, .inl (fun _ => 0))), (7, .inl (cy 0, 120, .inl (fun _ => 0))), (8, .inl (cy 0, 120, .inl r8)), (3, .inl (cy 0, 30, .inl r3)), (4, .inl (cy 0, 30, .inl r4)), (11, .inl (cy 2, 30, .inl r11)), (5, .inl (cy 0, 5, .inl (fun _ => 0))), (13, .inl (cy 0, 24, .inl (fun _ => 0)))] g) _ _ := hO
                      have loop_89_39 : ∀ (d_89_40 : Nat) (y : Nat) (bm : Nat) (t3 : Nat → Int32) (t4 : Nat → Int32) (t11 : Nat → Int32) (t6 : Nat → Int32) (t8 : Nat → Int32), (y ≤ 0 + 1) → (bm = 0) → 0 + 1 - y < d_89_40 → ∀ (H : Heap) (locs : List Loc), cO D cy A s.heap s 14 ad (cup [(0, .inr (12, (((f0.set 62 (.int 0)).set 56 (.int 1)).set 57 (.int 10000)))), (6, .inl (cy 0, 30, .inl t6)), (9, .inl (cy 0, 5, .inl (fun _ => 0))), (10, .inl (cy 0, 5, .inl (fun _ => 0))), (12, .inl (cy 2, 5, .inl (fun _ => 0))), (7, .inl (cy 0, 120, .inl (fun _ => 0))), (8, .inl (cy 0, 120, .inl t8)), (3, .inl (cy 0, 30, .inl t3)), (4, .inl (cy 0, 30, .inl t4)), (11, .inl (cy 2, 30, .inl t11)), (5, .inl (cy 0, 5, .inl (fun _ => 0))), (13, .inl (cy 0, 24, .inl (fun _ => 0)))] g) H locs → ∀ ls : Array Slot, lv_has ls 11 [(8, .int (nI y)), (6, .int (nI bm)), (7, .int 0), (0, .ref (ad 0)), (1, .int (nI x1_n)), (2, .int x2), (3, .int x3), (4, .int (nI x4_n)), (5, .int (nI x5_n))] → W p l e { frames := 4, cells := 0, slots := 0, locals := 93 } s m [.ref (ad 0), .int x1, .int x2, .int x3, .int x4, .int x5].toArray below meth c H locs 0 0 (MQ below (cQi (fun r nw lu => r = ans_party x1 x2 x3 x4 x5) D 14 0 ad g A) [.ref (ad 0), .int x1, .int x2, .int x3, .int x4, .int x5].toArray s 0 0 A) (F0 m 89 ls []) := by
                        intro d_89_40
                        induction d_89_40 with
                        | zero => intro y bm t3 t4 t11 t6 t8 hy hbm mu_89_41; exact absurd mu_89_41 (Nat.not_lt_zero _)
                        | succ d_89_40 ih_89_42 =>
                          intro y bm t3 t4 t11 t6 t8 hy hbm mu_89_41 H locs hO ls hl
                          refine lv_iload hx hb dX12_party_89 (lv_at hl 0 rfl) ?_
                          refine lv_iload_n hx hb dX12_party_91 rfl (lv_at hl 4 rfl) ?_
                          refine lv_iconst (v := 1) hx hb dX12_party_92 (by decide) ?_
                          refine lv_icmp_le (tgt := 101) hx hb dX12_party_93 (by decide) (fun _ => ?_) (fun h => absurd h_93_21 h)
                          refine lv_iload hx hb dX12_party_101 (lv_at hl 2 rfl) ?_
                          refine lv_icmp_gt (tgt := 199) hx hb dX12_party_103 (by decide) (fun h_103_43 => ?_) (fun h_103_43 => ?_)
                          · have nh_103_43 : 0 < y := (nI_ltI (a := 0) (b := y) (by omega) (by omega)).mp h_103_43
                            refine lv_iinc (v := 1) (lv' := [(7, .int 1), (8, .int (nI y)), (6, .int (nI bm)), (0, .ref (ad 0)), (1, .int (nI x1_n)), (2, .int x2), (3, .int x3), (4, .int (nI x4_n)), (5, .int (nI x5_n))]) hx hb dX12_party_199 hl (k := 2) rfl (by decide) (by decide) rfl (fun ls hl => ?_)
                            refine lv_goto (tgt := 78) hx hb dX12_party_202 (by decide) ?_
                            have hO : cO D cy A s.heap s 14 ad (cup [(0, .inr (12, (((f0.set 62 (.int 0)).set 56 (.int 1)).set 57 (.int 10000)))), (6, .inl (cy 0, 30, .inl t6)), (9, .inl (cy 0, 5, .inl (fun _ => 0))), (10, .inl (cy 0, 5, .inl (fun _ => 0))), (12, .inl (cy 2, 5, .inl (fun _ => 0))), (7, .inl (cy 0, 120, .inl (fun _ => 0))), (8, .inl (cy 0, 120, .inl t8)), (3, .inl (cy 0, 30, .inl t3)), (4, .inl (cy 0, 30, .inl t4)), (11, .inl (cy 2, 30, .inl t11)), (5, .inl (cy 0, 5, .inl (fun _ => 0))), (13, .inl (cy 0, 24, .inl (fun _ => 0)))] g) _ _ := hO
                            have loop_78_44 : ∀ (d_78_45 : Nat) (o : Nat) (bo : Nat) (u3 : Nat → Int32) (u4 : Nat → Int32) (u11 : Nat → Int32) (u6 : Nat → Int32) (u8 : Nat → Int32), (o ≤ x4_n + 1) → (bo = 0) → x4_n + 1 - o < d_78_45 → ∀ (H : Heap) (locs : List Loc), cO D cy A s.heap s 14 ad (cup [(0, .inr (12, (((f0.set 62 (.int 0)).set 56 (.int 1)).set 57 (.int 10000)))), (6, .inl (cy 0, 30, .inl u6)), (9, .inl (cy 0, 5, .inl (fun _ => 0))), (10, .inl (cy 0, 5, .inl (fun _ => 0))), (12, .inl (cy 2, 5, .inl (fun _ => 0))), (7, .inl (cy 0, 120, .inl (fun _ => 0))), (8, .inl (cy 0, 120, .inl u8)), (3, .inl (cy 0, 30, .inl u3)), (4, .inl (cy 0, 30, .inl u4)), (11, .inl (cy 2, 30, .inl u11)), (5, .inl (cy 0, 5, .inl (fun _ => 0))), (13, .inl (cy 0, 24, .inl (fun _ => 0)))] g) H locs → ∀ ls : Array Slot, lv_has ls 11 [(7, .int (nI o)), (6, .int (nI bo)), (0, .ref (ad 0)), (1, .int (nI x1_n)), (2, .int x2), (3, .int x3), (4, .int (nI x4_n)), (5, .int (nI x5_n))] → W p l e { frames := 4, cells := 0, slots := 0, locals := 93 } s m [.ref (ad 0), .int x1, .int x2, .int x3, .int x4, .int x5].toArray below meth c H locs 0 0 (MQ below (cQi (fun r nw lu => r = ans_party x1 x2 x3 x4 x5) D 14 0 ad g A) [.ref (ad 0), .int x1, .int x2, .int x3, .int x4, .int x5].toArray s 0 0 A) (F0 m 78 ls []) := by
                              intro d_78_45
                              induction d_78_45 with
                              | zero => intro o bo u3 u4 u11 u6 u8 ho hbo mu_78_46; exact absurd mu_78_46 (Nat.not_lt_zero _)
                              | succ d_78_45 ih_78_47 =>
                                intro o bo u3 u4 u11 u6 u8 ho hbo mu_78_46 H locs hO ls hl
                                refine lv_iload hx hb dX12_party_78 (lv_at hl 0 rfl) ?_
                                refine lv_iload hx hb dX12_party_80 (lv_at hl 6 rfl) ?_
                                refine lv_icmp_gt (tgt := 205) hx hb dX12_party_82 (by decide) (fun h_82_48 => ?_) (fun h_82_48 => ?_)
                                · have nh_82_48 : x4_n < o := (nI_ltI (by omega) (by omega)).mp h_82_48
                                  refine lv_aload_n hx hb dX12_party_205 rfl (lv_at hl 2 rfl) ?_
                                  refine lv_iload_n hx hb dX12_party_206 rfl (lv_at hl 3 rfl) ?_
                                  refine cg_put hC hO 0 (by decide) rfl rfl i_X12 tyX12_ok nmX12 62 (by decide) (List.mem_of_getElem? (i := 1) rfl) rfl rfl rfl (fs_lt (fs_ne (by decide) (fs_ne (by decide) (fs_eq f0_62)))) dX12_party_207 (fun H locs hO => ?_)
                                  have hO : cO D cy A s.heap s 14 ad (cup [(0, .inr (12, ((((f0.set 62 (.int 0)).set 56 (.int 1)).set 57 (.int 10000)).set 62 (.int (nI x1_n))))), (6, .inl (cy 0, 30, .inl u6)), (9, .inl (cy 0, 5, .inl (fun _ => 0))), (10, .inl (cy 0, 5, .inl (fun _ => 0))), (12, .inl (cy 2, 5, .inl (fun _ => 0))), (7, .inl (cy 0, 120, .inl (fun _ => 0))), (8, .inl (cy 0, 120, .inl u8)), (3, .inl (cy 0, 30, .inl u3)), (4, .inl (cy 0, 30, .inl u4)), (11, .inl (cy 2, 30, .inl u11)), (5, .inl (cy 0, 5, .inl (fun _ => 0))), (13, .inl (cy 0, 24, .inl (fun _ => 0)))] g) _ _ := hO
                                  refine lv_iload hx hb dX12_party_210 (lv_at hl 1 rfl) ?_
                                  exact cg_iret (nw := fun _ => 0) hC hr hlk hO.same rfl (Nat.le_of_ble_eq_true rfl) (Nat.le_of_ble_eq_true rfl) (by rw [hbo]; exact (if_pos ⟨hr_8_4, hr_18_8, hr_29_12, hr_40_16, hr_51_20⟩).symm) dX12_party_212
                                · have nh_82_48 : ¬ x4_n < o := fun z => h_82_48 ((nI_ltI (by omega) (by omega)).mpr z)
                                  refine lv_iload hx hb dX12_party_85 (lv_at hl 0 rfl) ?_
                                  refine lv_istore (lv' := [(8, .int (nI o)), (7, .int (nI o)), (6, .int (nI bo)), (0, .ref (ad 0)), (1, .int (nI x1_n)), (2, .int x2), (3, .int x3), (4, .int (nI x4_n)), (5, .int (nI x5_n))]) hx hb dX12_party_87 hl (by decide) rfl (fun ls hl => ?_)
                                  have hO : cO D cy A s.heap s 14 ad (cup [(0, .inr (12, (((f0.set 62 (.int 0)).set 56 (.int 1)).set 57 (.int 10000)))), (6, .inl (cy 0, 30, .inl u6)), (9, .inl (cy 0, 5, .inl (fun _ => 0))), (10, .inl (cy 0, 5, .inl (fun _ => 0))), (12, .inl (cy 2, 5, .inl (fun _ => 0))), (7, .inl (cy 0, 120, .inl (fun _ => 0))), (8, .inl (cy 0, 120, .inl u8)), (3, .inl (cy 0, 30, .inl u3)), (4, .inl (cy 0, 30, .inl u4)), (11, .inl (cy 2, 30, .inl u11)), (5, .inl (cy 0, 5, .inl (fun _ => 0))), (13, .inl (cy 0, 24, .inl (fun _ => 0)))] g) _ _ := hO
                                  have loop_89_49 : ∀ (d_89_50 : Nat) (y : Nat) (bm : Nat) (t3 : Nat → Int32) (t4 : Nat → Int32) (t11 : Nat → Int32) (t6 : Nat → Int32) (t8 : Nat → Int32), (y ≤ o + 1) → (bm = 0) → o + 1 - y < d_89_50 → ∀ (H : Heap) (locs : List Loc), cO D cy A s.heap s 14 ad (cup [(0, .inr (12, (((f0.set 62 (.int 0)).set 56 (.int 1)).set 57 (.int 10000)))), (6, .inl (cy 0, 30, .inl t6)), (9, .inl (cy 0, 5, .inl (fun _ => 0))), (10, .inl (cy 0, 5, .inl (fun _ => 0))), (12, .inl (cy 2, 5, .inl (fun _ => 0))), (7, .inl (cy 0, 120, .inl (fun _ => 0))), (8, .inl (cy 0, 120, .inl t8)), (3, .inl (cy 0, 30, .inl t3)), (4, .inl (cy 0, 30, .inl t4)), (11, .inl (cy 2, 30, .inl t11)), (5, .inl (cy 0, 5, .inl (fun _ => 0))), (13, .inl (cy 0, 24, .inl (fun _ => 0)))] g) H locs → ∀ ls : Array Slot, lv_has ls 11 [(8, .int (nI y)), (7, .int (nI o)), (6, .int (nI bm)), (0, .ref (ad 0)), (1, .int (nI x1_n)), (2, .int x2), (3, .int x3), (4, .int (nI x4_n)), (5, .int (nI x5_n))] → W p l e { frames := 4, cells := 0, slots := 0, locals := 93 } s m [.ref (ad 0), .int x1, .int x2, .int x3, .int x4, .int x5].toArray below meth c H locs 0 0 (MQ below (cQi (fun r nw lu => r = ans_party x1 x2 x3 x4 x5) D 14 0 ad g A) [.ref (ad 0), .int x1, .int x2, .int x3, .int x4, .int x5].toArray s 0 0 A) (F0 m 89 ls []) := by
                                    intro d_89_50
                                    induction d_89_50 with
                                    | zero => intro y bm t3 t4 t11 t6 t8 hy hbm mu_89_51; exact absurd mu_89_51 (Nat.not_lt_zero _)
                                    | succ d_89_50 ih_89_52 =>
                                      intro y bm t3 t4 t11 t6 t8 hy hbm mu_89_51 H locs hO ls hl
                                      refine lv_iload hx hb dX12_party_89 (lv_at hl 0 rfl) ?_
                                      refine lv_iload_n hx hb dX12_party_91 rfl (lv_at hl 4 rfl) ?_
                                      refine lv_iconst (v := 1) hx hb dX12_party_92 (by decide) ?_
                                      refine lv_icmp_le (tgt := 101) hx hb dX12_party_93 (by decide) (fun _ => ?_) (fun h => absurd h_93_21 h)
                                      refine lv_iload hx hb dX12_party_101 (lv_at hl 1 rfl) ?_
                                      refine lv_icmp_gt (tgt := 199) hx hb dX12_party_103 (by decide) (fun h_103_53 => ?_) (fun h_103_53 => ?_)
                                      · have nh_103_53 : o < y := (nI_ltI (by omega) (by omega)).mp h_103_53
                                        refine lv_iinc (v := (nI (o + 1))) (lv' := [(7, .int (nI (o + 1))), (8, .int (nI y)), (6, .int (nI bm)), (0, .ref (ad 0)), (1, .int (nI x1_n)), (2, .int x2), (3, .int x3), (4, .int (nI x4_n)), (5, .int (nI x5_n))]) hx hb dX12_party_199 hl (k := 1) rfl (nI_add o 1) (by decide) rfl (fun ls hl => ?_)
                                        refine lv_goto (tgt := 78) hx hb dX12_party_202 (by decide) ?_
                                        have hO : cO D cy A s.heap s 14 ad (cup [(0, .inr (12, (((f0.set 62 (.int 0)).set 56 (.int 1)).set 57 (.int 10000)))), (6, .inl (cy 0, 30, .inl t6)), (9, .inl (cy 0, 5, .inl (fun _ => 0))), (10, .inl (cy 0, 5, .inl (fun _ => 0))), (12, .inl (cy 2, 5, .inl (fun _ => 0))), (7, .inl (cy 0, 120, .inl (fun _ => 0))), (8, .inl (cy 0, 120, .inl t8)), (3, .inl (cy 0, 30, .inl t3)), (4, .inl (cy 0, 30, .inl t4)), (11, .inl (cy 2, 30, .inl t11)), (5, .inl (cy 0, 5, .inl (fun _ => 0))), (13, .inl (cy 0, 24, .inl (fun _ => 0)))] g) _ _ := hO
                                        exact ih_78_47 (o + 1) bm t3 t4 t11 t6 t8 (by omega) hbm (by omega) _ _ hO ls (lv_sub hl [0, 2, 3, 4, 5, 6, 7, 8] rfl)
                                      · have nh_103_53 : ¬ o < y := fun z => h_103_53 ((nI_ltI (by omega) (by omega)).mpr z)
                                        refine lv_iload hx hb dX12_party_106 (lv_at hl 0 rfl) ?_
                                        refine lv_istore (lv' := [(9, .int (nI y)), (8, .int (nI y)), (7, .int (nI o)), (6, .int (nI bm)), (0, .ref (ad 0)), (1, .int (nI x1_n)), (2, .int x2), (3, .int x3), (4, .int (nI x4_n)), (5, .int (nI x5_n))]) hx hb dX12_party_108 hl (by decide) rfl (fun ls hl => ?_)
                                        have hO : cO D cy A s.heap s 14 ad (cup [(0, .inr (12, (((f0.set 62 (.int 0)).set 56 (.int 1)).set 57 (.int 10000)))), (6, .inl (cy 0, 30, .inl t6)), (9, .inl (cy 0, 5, .inl (fun _ => 0))), (10, .inl (cy 0, 5, .inl (fun _ => 0))), (12, .inl (cy 2, 5, .inl (fun _ => 0))), (7, .inl (cy 0, 120, .inl (fun _ => 0))), (8, .inl (cy 0, 120, .inl t8)), (3, .inl (cy 0, 30, .inl t3)), (4, .inl (cy 0, 30, .inl t4)), (11, .inl (cy 2, 30, .inl t11)), (5, .inl (cy 0, 5, .inl (fun _ => 0))), (13, .inl (cy 0, 24, .inl (fun _ => 0)))] g) _ _ := hO
                                        have loop_110_54 : ∀ (d_110_55 : Nat) (z : Nat) (bb : Nat) (r3 : Nat → Int32) (r4 : Nat → Int32) (r11 : Nat → Int32) (r6 : Nat → Int32) (r8 : Nat → Int32), (z ≤ y + 1) → (bb = 0) → y + 1 - z < d_110_55 → ∀ (H : Heap) (locs : List Loc), cO D cy A s.heap s 14 ad (cup [(0, .inr (12, (((f0.set 62 (.int 0)).set 56 (.int 1)).set 57 (.int 10000)))), (6, .inl (cy 0, 30, .inl r6)), (9, .inl (cy 0, 5, .inl (fun _ => 0))), (10, .inl (cy 0, 5, .inl (fun _ => 0))), (12, .inl (cy 2, 5, .inl (fun _ => 0))), (7, .inl (cy 0, 120, .inl (fun _ => 0))), (8, .inl (cy 0, 120, .inl r8)), (3, .inl (cy 0, 30, .inl r3)), (4, .inl (cy 0, 30, .inl r4)), (11, .inl (cy 2, 30, .inl r11)), (5, .inl (cy 0, 5, .inl (fun _ => 0))), (13, .inl (cy 0, 24, .inl (fun _ => 0)))] g) H locs → ∀ ls : Array Slot, lv_has ls 11 [(9, .int (nI z)), (8, .int (nI y)), (7, .int (nI o)), (6, .int (nI bb)), (0, .ref (ad 0)), (1, .int (nI x1_n)), (2, .int x2), (3, .int x3), (4, .int (nI x4_n)), (5, .int (nI x5_n))] → W p l e { frames := 4, cells := 0, slots := 0, locals := 93 } s m [.ref (ad 0), .int x1, .int x2, .int x3, .int x4, .int x5].toArray below meth c H locs 0 0 (MQ below (cQi (fun r nw lu => r = ans_party x1 x2 x3 x4 x5) D 14 0 ad g A) [.ref (ad 0), .int x1, .int x2, .int x3, .int x4, .int x5].toArray s 0 0 A) (F0 m 110 ls []) := by
                                          intro d_110_55
                                          induction d_110_55 with
                                          | zero => intro z bb r3 r4 r11 r6 r8 hz hbb mu_110_56; exact absurd mu_110_56 (Nat.not_lt_zero _)
                                          | succ d_110_55 ih_110_57 =>
                                            intro z bb r3 r4 r11 r6 r8 hz hbb mu_110_56 H locs hO ls hl
                                            refine lv_iload hx hb dX12_party_110 (lv_at hl 0 rfl) ?_
                                            refine lv_iload_n hx hb dX12_party_112 rfl (lv_at hl 5 rfl) ?_
                                            refine lv_iconst (v := 2) hx hb dX12_party_113 (by decide) ?_
                                            refine lv_icmp_le (tgt := 122) hx hb dX12_party_114 (by decide) (fun _ => ?_) (fun h => (show False from by have z : ¬ x1_n ≤ 2 := fun q => h ((nI_leI (a := x1_n) (b := 2) (by omega) (by omega)).mpr q); omega).elim)
                                            refine lv_iload hx hb dX12_party_122 (lv_at hl 1 rfl) ?_
                                            refine lv_icmp_gt (tgt := 193) hx hb dX12_party_124 (by decide) (fun h_124_58 => ?_) (fun h_124_58 => ?_)
                                            · have nh_124_58 : y < z := (nI_ltI (by omega) (by omega)).mp h_124_58
                                              refine lv_iinc (v := (nI (y + 1))) (lv' := [(8, .int (nI (y + 1))), (9, .int (nI z)), (7, .int (nI o)), (6, .int (nI bb)), (0, .ref (ad 0)), (1, .int (nI x1_n)), (2, .int x2), (3, .int x3), (4, .int (nI x4_n)), (5, .int (nI x5_n))]) hx hb dX12_party_193 hl (k := 1) rfl (nI_add y 1) (by decide) rfl (fun ls hl => ?_)
                                              refine lv_goto (tgt := 89) hx hb dX12_party_196 (by decide) ?_
                                              have hO : cO D cy A s.heap s 14 ad (cup [(0, .inr (12, (((f0.set 62 (.int 0)).set 56 (.int 1)).set 57 (.int 10000)))), (6, .inl (cy 0, 30, .inl r6)), (9, .inl (cy 0, 5, .inl (fun _ => 0))), (10, .inl (cy 0, 5, .inl (fun _ => 0))), (12, .inl (cy 2, 5, .inl (fun _ => 0))), (7, .inl (cy 0, 120, .inl (fun _ => 0))), (8, .inl (cy 0, 120, .inl r8)), (3, .inl (cy 0, 30, .inl r3)), (4, .inl (cy 0, 30, .inl r4)), (11, .inl (cy 2, 30, .inl r11)), (5, .inl (cy 0, 5, .inl (fun _ => 0))), (13, .inl (cy 0, 24, .inl (fun _ => 0)))] g) _ _ := hO
                                              exact ih_89_52 (y + 1) bb r3 r4 r11 r6 r8 (by omega) hbb (by omega) _ _ hO ls (lv_sub hl [0, 2, 3, 4, 5, 6, 7, 8, 9] rfl)
                                            · have nh_124_58 : ¬ y < z := fun z => h_124_58 ((nI_ltI (by omega) (by omega)).mpr z)
                                              refine lv_aload_n hx hb dX12_party_127 rfl (lv_at hl 4 rfl) ?_
                                              refine lv_iload_n hx hb dX12_party_128 rfl (lv_at hl 5 rfl) ?_
                                              refine lv_iload_n hx hb dX12_party_129 rfl (lv_at hl 6 rfl) ?_
                                              refine lv_iload_n hx hb dX12_party_130 rfl (lv_at hl 7 rfl) ?_
                                              refine lv_iload hx hb dX12_party_131 (lv_at hl 9 rfl) ?_
                                              refine lv_iload hx hb dX12_party_133 (lv_at hl 2 rfl) ?_
                                              refine lv_iload hx hb dX12_party_135 (lv_at hl 1 rfl) ?_
                                              refine lv_iload hx hb dX12_party_137 (lv_at hl 0 rfl) ?_
                                              refine cg_Vi (As := [.int (nI x1_n), .int x2, .int x3, .int (nI x5_n), .int (nI o), .int (nI y), .int (nI z)]) (rest := []) (mc := 0) (ms := 0) (rm := { frames := 3, cells := 0, slots := 0, locals := 63 }) hC hl.1 hO [0, 2, 1, 5, 3, 4, 11, 6, 7, 8, 9, 10, 12] rfl (c_X12_partyPays l D cy _ _ (f0 := (((f0.set 62 (.int 0)).set 56 (.int 1)).set 57 (.int 10000))) (c4 := r3) (c5 := r4) (c7 := r6) (c9 := r8) (c6 := r11) (xm := 1) (xl := 10000) (n := x1_n) (s1 := x2) (mi := x3) (la := x5_n) (o1 := o) (o2 := y) (o3 := z) rfl (fs_ne (by decide) (fs_ne (by decide) (fs_ne (by decide) f0_12))) (fs_ne (by decide) (fs_ne (by decide) (fs_ne (by decide) f0_36))) (fs_ne (by decide) (fs_ne (by decide) (fs_ne (by decide) f0_41))) (fs_ne (by decide) (fs_ne (by decide) (fs_ne (by decide) f0_42))) (fs_ne (by decide) (fs_ne (by decide) (fs_ne (by decide) f0_43))) (fs_ne (by decide) (fs_ne (by decide) (fs_ne (by decide) f0_44))) (fs_ne (by decide) (fs_ne (by decide) (fs_ne (by decide) f0_47))) (fs_ne (by decide) (fs_ne (by decide) (fs_ne (by decide) f0_48))) (fs_ne (by decide) (fs_ne (by decide) (fs_ne (by decide) f0_49))) (fs_ne (by decide) (fs_ne (by decide) (fs_ne (by decide) f0_50))) (fs_ne (by decide) (fs_ne (by decide) (fs_ne (by decide) f0_53))) (fs_ne (by decide) (fs_ne (by decide) (fs_ne (by decide) f0_54))) (fs_ne (by decide) (fs_ne (by decide) (fs_ne (by decide) f0_55))) (fs_ne (by decide) (fs_eq (fs_ne (by decide) f0_56))) (fs_eq (fs_ne (by decide) (fs_ne (by decide) f0_57))) a2 a1 rfl rfl rfl rfl rfl rfl rfl rfl rfl rfl (by omega) (by omega) (by omega) (by omega) (by omega)) gq_c_X12_party_c_X12_partyPays_433 rfl rfl rfl 7 (by decide +kernel) ⟨Nat.le_of_ble_eq_true rfl, Nat.le_of_ble_eq_true rfl⟩ rfl (by decide) rfl rfl rfl (Nat.le_of_ble_eq_true rfl) dX12_party_139 ⟨Nat.le_of_ble_eq_true rfl, Nat.le_of_ble_eq_true rfl⟩ (fun r_139_61 nw_139_59 l_139_60 H locs hw hO => ?_)
                                              rcases hw with hw | hw | hw | hw
                                              · obtain ⟨c1_139_62, c2_139_63, c3_139_64, tt_139_65, cd_139_66, hS_139_67, hZ_139_68, h_139_69, h_139_70, rfl, rfl⟩ := hw
                                                have hO : cO D cy A s.heap s 14 ad (cup [(0, .inr (12, ((((((f0.set 62 (.int 0)).set 56 (.int 1)).set 57 (.int 10000)).set 56 (.int 0)).set 57 (.int 10000)).set 56 (.int 1)))), (6, .inl (cy 0, 30, .inl tt_139_65)), (9, .inl (cy 0, 5, .inl (fun _ => 0))), (10, .inl (cy 0, 5, .inl (fun _ => 0))), (12, .inl (cy 2, 5, .inl (fun _ => 0))), (7, .inl (cy 0, 120, .inl (fun _ => 0))), (8, .inl (cy 0, 120, .inl cd_139_66)), (3, .inl (cy 0, 30, .inl c1_139_62)), (4, .inl (cy 0, 30, .inl c2_139_63)), (11, .inl (cy 2, 30, .inl c3_139_64)), (5, .inl (cy 0, 5, .inl (fun _ => 0))), (13, .inl (cy 0, 24, .inl (fun _ => 0)))] g) _ _ := hO
                                                refine lv_istore (lv' := [(10, .int (nI ((x5_n * ((o + 0) + 0)) + 0))), (9, .int (nI z)), (8, .int (nI y)), (7, .int (nI o)), (6, .int (nI bb)), (0, .ref (ad 0)), (1, .int (nI x1_n)), (2, .int x2), (3, .int x3), (4, .int (nI x4_n)), (5, .int (nI x5_n))]) hx hb dX12_party_142 hl (by decide) rfl (fun ls hl => ?_)
                                                refine lv_iload hx hb dX12_party_144 (lv_at hl 4 rfl) ?_
                                                refine lv_if_lt (tgt := 159) hx hb dX12_party_146 (by decide) (fun h => (show False from by have z := (nI_ltI (a := bb) (b := 0) (by omega) (by omega)).mp h; omega).elim) (fun _ => ?_)
                                                refine lv_iload hx hb dX12_party_149 (lv_at hl 0 rfl) ?_
                                                refine lv_iload hx hb dX12_party_151 (lv_at hl 4 rfl) ?_
                                                refine lv_icmp_lt (tgt := 159) hx hb dX12_party_153 (by decide) (fun h => (show False from by have z := (nI_ltI (a := ((x5_n * ((o + 0) + 0)) + 0)) (b := bb) (by omega) (by omega)).mp h; omega).elim) (fun _ => ?_)
                                                refine lv_goto (tgt := 187) hx hb dX12_party_156 (by decide) ?_
                                                refine lv_iinc (v := (nI (z + 1))) (lv' := [(9, .int (nI (z + 1))), (10, .int (nI ((x5_n * ((o + 0) + 0)) + 0))), (8, .int (nI y)), (7, .int (nI o)), (6, .int (nI bb)), (0, .ref (ad 0)), (1, .int (nI x1_n)), (2, .int x2), (3, .int x3), (4, .int (nI x4_n)), (5, .int (nI x5_n))]) hx hb dX12_party_187 hl (k := 1) rfl (nI_add z 1) (by decide) rfl (fun ls hl => ?_)
                                                refine lv_goto (tgt := 110) hx hb dX12_party_190 (by decide) ?_
                                                simp only [List.set_set, st_can] at hO
                                                have hO : cO D cy A s.heap s 14 ad (cup [(0, .inr (12, (((f0.set 62 (.int 0)).set 56 (.int 1)).set 57 (.int 10000)))), (6, .inl (cy 0, 30, .inl tt_139_65)), (9, .inl (cy 0, 5, .inl (fun _ => 0))), (10, .inl (cy 0, 5, .inl (fun _ => 0))), (12, .inl (cy 2, 5, .inl (fun _ => 0))), (7, .inl (cy 0, 120, .inl (fun _ => 0))), (8, .inl (cy 0, 120, .inl cd_139_66)), (3, .inl (cy 0, 30, .inl c1_139_62)), (4, .inl (cy 0, 30, .inl c2_139_63)), (11, .inl (cy 2, 30, .inl c3_139_64)), (5, .inl (cy 0, 5, .inl (fun _ => 0))), (13, .inl (cy 0, 24, .inl (fun _ => 0)))] g) _ _ := hO
                                                exact ih_110_57 (z + 1) bb c1_139_62 c2_139_63 c3_139_64 tt_139_65 cd_139_66 (by omega) hbb (by omega) _ _ hO ls (lv_sub hl [0, 2, 3, 4, 5, 6, 7, 8, 9, 10] rfl)
                                              · obtain ⟨c1_139_71, c2_139_72, c3_139_73, tt_139_74, cd_139_75, hS_139_76, hZ_139_77, h_139_78, h_139_79, rfl, rfl⟩ := hw
                                                exact absurd h_139_33 h_139_79
                                              · obtain ⟨c1_139_80, c2_139_81, c3_139_82, tt_139_83, cd_139_84, hS_139_85, hZ_139_86, h_139_87, h_139_88, rfl, rfl⟩ := hw
                                                exact absurd h_93_21 h_139_87
                                              · obtain ⟨c1_139_89, c2_139_90, c3_139_91, tt_139_92, cd_139_93, hS_139_94, hZ_139_95, h_139_96, h_139_97, rfl, rfl⟩ := hw
                                                exact absurd h_93_21 h_139_96
                                        exact loop_110_54 ((y + 1) + 1) y bm t3 t4 t11 t6 t8 (by omega) hbm (by omega) _ _ hO ls (lv_sub hl [0, 1, 2, 3, 4, 5, 6, 7, 8, 9] rfl)
                                  exact loop_89_49 ((o + 1) + 1) o bo u3 u4 u11 u6 u8 (by omega) hbo (by omega) _ _ hO ls (lv_sub hl [0, 1, 2, 3, 4, 5, 6, 7, 8] rfl)
                            exact loop_78_44 ((x4_n + 1) + 1) 1 bm t3 t4 t11 t6 t8 (by omega) hbm (by omega) _ _ hO ls (lv_sub hl [0, 2, 3, 4, 5, 6, 7, 8] rfl)
                          · have nh_103_43 : ¬ 0 < y := fun z => h_103_43 ((nI_ltI (a := 0) (b := y) (by omega) (by omega)).mpr z)
                            refine lv_iload hx hb dX12_party_106 (lv_at hl 0 rfl) ?_
                            refine lv_istore (lv' := [(9, .int (nI y)), (8, .int (nI y)), (6, .int (nI bm)), (7, .int 0), (0, .ref (ad 0)), (1, .int (nI x1_n)), (2, .int x2), (3, .int x3), (4, .int (nI x4_n)), (5, .int (nI x5_n))]) hx hb dX12_party_108 hl (by decide) rfl (fun ls hl => ?_)
                            have hO : cO D cy A s.heap s 14 ad (cup [(0, .inr (12, (((f0.set 62 (.int 0)).set 56 (.int 1)).set 57 (.int 10000)))), (6, .inl (cy 0, 30, .inl t6)), (9, .inl (cy 0, 5, .inl (fun _ => 0))), (10, .inl (cy 0, 5, .inl (fun _ => 0))), (12, .inl (cy 2, 5, .inl (fun _ => 0))), (7, .inl (cy 0, 120, .inl (fun _ => 0))), (8, .inl (cy 0, 120, .inl t8)), (3, .inl (cy 0, 30, .inl t3)), (4, .inl (cy 0, 30, .inl t4)), (11, .inl (cy 2, 30, .inl t11)), (5, .inl (cy 0, 5, .inl (fun _ => 0))), (13, .inl (cy 0, 24, .inl (fun _ => 0)))] g) _ _ := hO
                            have loop_110_98 : ∀ (d_110_99 : Nat) (z : Nat) (bb : Nat) (r3 : Nat → Int32) (r4 : Nat → Int32) (r11 : Nat → Int32) (r6 : Nat → Int32) (r8 : Nat → Int32), (z ≤ y + 1) → (bb = 0) → y + 1 - z < d_110_99 → ∀ (H : Heap) (locs : List Loc), cO D cy A s.heap s 14 ad (cup [(0, .inr (12, (((f0.set 62 (.int 0)).set 56 (.int 1)).set 57 (.int 10000)))), (6, .inl (cy 0, 30, .inl r6)), (9, .inl (cy 0, 5, .inl (fun _ => 0))), (10, .inl (cy 0, 5, .inl (fun _ => 0))), (12, .inl (cy 2, 5, .inl (fun _ => 0))), (7, .inl (cy 0, 120, .inl (fun _ => 0))), (8, .inl (cy 0, 120, .inl r8)), (3, .inl (cy 0, 30, .inl r3)), (4, .inl (cy 0, 30, .inl r4)), (11, .inl (cy 2, 30, .inl r11)), (5, .inl (cy 0, 5, .inl (fun _ => 0))), (13, .inl (cy 0, 24, .inl (fun _ => 0)))] g) H locs → ∀ ls : Array Slot, lv_has ls 11 [(9, .int (nI z)), (8, .int (nI y)), (6, .int (nI bb)), (7, .int 0), (0, .ref (ad 0)), (1, .int (nI x1_n)), (2, .int x2), (3, .int x3), (4, .int (nI x4_n)), (5, .int (nI x5_n))] → W p l e { frames := 4, cells := 0, slots := 0, locals := 93 } s m [.ref (ad 0), .int x1, .int x2, .int x3, .int x4, .int x5].toArray below meth c H locs 0 0 (MQ below (cQi (fun r nw lu => r = ans_party x1 x2 x3 x4 x5) D 14 0 ad g A) [.ref (ad 0), .int x1, .int x2, .int x3, .int x4, .int x5].toArray s 0 0 A) (F0 m 110 ls []) := by
                              intro d_110_99
                              induction d_110_99 with
                              | zero => intro z bb r3 r4 r11 r6 r8 hz hbb mu_110_100; exact absurd mu_110_100 (Nat.not_lt_zero _)
                              | succ d_110_99 ih_110_101 =>
                                intro z bb r3 r4 r11 r6 r8 hz hbb mu_110_100 H locs hO ls hl
                                refine lv_iload hx hb dX12_party_110 (lv_at hl 0 rfl) ?_
                                refine lv_iload_n hx hb dX12_party_112 rfl (lv_at hl 5 rfl) ?_
                                refine lv_iconst (v := 2) hx hb dX12_party_113 (by decide) ?_
                                refine lv_icmp_le (tgt := 122) hx hb dX12_party_114 (by decide) (fun _ => ?_) (fun h => (show False from by have z : ¬ x1_n ≤ 2 := fun q => h ((nI_leI (a := x1_n) (b := 2) (by omega) (by omega)).mpr q); omega).elim)
                                refine lv_iload hx hb dX12_party_122 (lv_at hl 1 rfl) ?_
                                refine lv_icmp_gt (tgt := 193) hx hb dX12_party_124 (by decide) (fun h_124_102 => ?_) (fun h_124_102 => ?_)
                                · have nh_124_102 : y < z := (nI_ltI (by omega) (by omega)).mp h_124_102
                                  refine lv_iinc (v := (nI (y + 1))) (lv' := [(8, .int (nI (y + 1))), (9, .int (nI z)), (6, .int (nI bb)), (7, .int 0), (0, .ref (ad 0)), (1, .int (nI x1_n)), (2, .int x2), (3, .int x3), (4, .int (nI x4_n)), (5, .int (nI x5_n))]) hx hb dX12_party_193 hl (k := 1) rfl (nI_add y 1) (by decide) rfl (fun ls hl => ?_)
                                  refine lv_goto (tgt := 89) hx hb dX12_party_196 (by decide) ?_
                                  have hO : cO D cy A s.heap s 14 ad (cup [(0, .inr (12, (((f0.set 62 (.int 0)).set 56 (.int 1)).set 57 (.int 10000)))), (6, .inl (cy 0, 30, .inl r6)), (9, .inl (cy 0, 5, .inl (fun _ => 0))), (10, .inl (cy 0, 5, .inl (fun _ => 0))), (12, .inl (cy 2, 5, .inl (fun _ => 0))), (7, .inl (cy 0, 120, .inl (fun _ => 0))), (8, .inl (cy 0, 120, .inl r8)), (3, .inl (cy 0, 30, .inl r3)), (4, .inl (cy 0, 30, .inl r4)), (11, .inl (cy 2, 30, .inl r11)), (5, .inl (cy 0, 5, .inl (fun _ => 0))), (13, .inl (cy 0, 24, .inl (fun _ => 0)))] g) _ _ := hO
                                  exact ih_89_42 (y + 1) bb r3 r4 r11 r6 r8 (by omega) hbb (by omega) _ _ hO ls (lv_sub hl [0, 2, 3, 4, 5, 6, 7, 8, 9] rfl)
                                · have nh_124_102 : ¬ y < z := fun z => h_124_102 ((nI_ltI (by omega) (by omega)).mpr z)
                                  refine lv_aload_n hx hb dX12_party_127 rfl (lv_at hl 4 rfl) ?_
                                  refine lv_iload_n hx hb dX12_party_128 rfl (lv_at hl 5 rfl) ?_
                                  refine lv_iload_n hx hb dX12_party_129 rfl (lv_at hl 6 rfl) ?_
                                  refine lv_iload_n hx hb dX12_party_130 rfl (lv_at hl 7 rfl) ?_
                                  refine lv_iload hx hb dX12_party_131 (lv_at hl 9 rfl) ?_
                                  refine lv_iload hx hb dX12_party_133 (lv_at hl 3 rfl) ?_
                                  refine lv_iload hx hb dX12_party_135 (lv_at hl 1 rfl) ?_
                                  refine lv_iload hx hb dX12_party_137 (lv_at hl 0 rfl) ?_
                                  refine cg_Vi (As := [.int (nI x1_n), .int x2, .int x3, .int (nI x5_n), .int 0, .int (nI y), .int (nI z)]) (rest := []) (mc := 0) (ms := 0) (rm := { frames := 3, cells := 0, slots := 0, locals := 63 }) hC hl.1 hO [0, 2, 1, 5, 3, 4, 11, 6, 7, 8, 9, 10, 12] rfl (c_X12_partyPays l D cy _ _ (f0 := (((f0.set 62 (.int 0)).set 56 (.int 1)).set 57 (.int 10000))) (c4 := r3) (c5 := r4) (c7 := r6) (c9 := r8) (c6 := r11) (xm := 1) (xl := 10000) (n := x1_n) (s1 := x2) (mi := x3) (la := x5_n) (o1 := 0) (o2 := y) (o3 := z) rfl (fs_ne (by decide) (fs_ne (by decide) (fs_ne (by decide) f0_12))) (fs_ne (by decide) (fs_ne (by decide) (fs_ne (by decide) f0_36))) (fs_ne (by decide) (fs_ne (by decide) (fs_ne (by decide) f0_41))) (fs_ne (by decide) (fs_ne (by decide) (fs_ne (by decide) f0_42))) (fs_ne (by decide) (fs_ne (by decide) (fs_ne (by decide) f0_43))) (fs_ne (by decide) (fs_ne (by decide) (fs_ne (by decide) f0_44))) (fs_ne (by decide) (fs_ne (by decide) (fs_ne (by decide) f0_47))) (fs_ne (by decide) (fs_ne (by decide) (fs_ne (by decide) f0_48))) (fs_ne (by decide) (fs_ne (by decide) (fs_ne (by decide) f0_49))) (fs_ne (by decide) (fs_ne (by decide) (fs_ne (by decide) f0_50))) (fs_ne (by decide) (fs_ne (by decide) (fs_ne (by decide) f0_53))) (fs_ne (by decide) (fs_ne (by decide) (fs_ne (by decide) f0_54))) (fs_ne (by decide) (fs_ne (by decide) (fs_ne (by decide) f0_55))) (fs_ne (by decide) (fs_eq (fs_ne (by decide) f0_56))) (fs_eq (fs_ne (by decide) (fs_ne (by decide) f0_57))) a2 a1 rfl rfl rfl rfl rfl rfl rfl rfl rfl rfl (by omega) (by omega) (by omega) (by omega) (by omega)) gq_c_X12_party_c_X12_partyPays_433 rfl rfl rfl 7 (by decide +kernel) ⟨Nat.le_of_ble_eq_true rfl, Nat.le_of_ble_eq_true rfl⟩ rfl (by decide) rfl rfl rfl (Nat.le_of_ble_eq_true rfl) dX12_party_139 ⟨Nat.le_of_ble_eq_true rfl, Nat.le_of_ble_eq_true rfl⟩ (fun r_139_105 nw_139_103 l_139_104 H locs hw hO => ?_)
                                  rcases hw with hw | hw | hw | hw
                                  · obtain ⟨c1_139_106, c2_139_107, c3_139_108, tt_139_109, cd_139_110, hS_139_111, hZ_139_112, h_139_113, h_139_114, rfl, rfl⟩ := hw
                                    have hO : cO D cy A s.heap s 14 ad (cup [(0, .inr (12, ((((((f0.set 62 (.int 0)).set 56 (.int 1)).set 57 (.int 10000)).set 56 (.int 0)).set 57 (.int 10000)).set 56 (.int 1)))), (6, .inl (cy 0, 30, .inl tt_139_109)), (9, .inl (cy 0, 5, .inl (fun _ => 0))), (10, .inl (cy 0, 5, .inl (fun _ => 0))), (12, .inl (cy 2, 5, .inl (fun _ => 0))), (7, .inl (cy 0, 120, .inl (fun _ => 0))), (8, .inl (cy 0, 120, .inl cd_139_110)), (3, .inl (cy 0, 30, .inl c1_139_106)), (4, .inl (cy 0, 30, .inl c2_139_107)), (11, .inl (cy 2, 30, .inl c3_139_108)), (5, .inl (cy 0, 5, .inl (fun _ => 0))), (13, .inl (cy 0, 24, .inl (fun _ => 0)))] g) _ _ := hO
                                    refine lv_istore (lv' := [(10, .int (nI ((x5_n * ((0 + 0) + 0)) + 0))), (9, .int (nI z)), (8, .int (nI y)), (6, .int (nI bb)), (7, .int 0), (0, .ref (ad 0)), (1, .int (nI x1_n)), (2, .int x2), (3, .int x3), (4, .int (nI x4_n)), (5, .int (nI x5_n))]) hx hb dX12_party_142 hl (by decide) rfl (fun ls hl => ?_)
                                    refine lv_iload hx hb dX12_party_144 (lv_at hl 3 rfl) ?_
                                    refine lv_if_lt (tgt := 159) hx hb dX12_party_146 (by decide) (fun h => (show False from by have z := (nI_ltI (a := bb) (b := 0) (by omega) (by omega)).mp h; omega).elim) (fun _ => ?_)
                                    refine lv_iload hx hb dX12_party_149 (lv_at hl 0 rfl) ?_
                                    refine lv_iload hx hb dX12_party_151 (lv_at hl 3 rfl) ?_
                                    refine lv_icmp_lt (tgt := 159) hx hb dX12_party_153 (by decide) (fun h => (show False from by have z := (nI_ltI (a := ((x5_n * ((0 + 0) + 0)) + 0)) (b := bb) (by omega) (by omega)).mp h; omega).elim) (fun _ => ?_)
                                    refine lv_goto (tgt := 187) hx hb dX12_party_156 (by decide) ?_
                                    refine lv_iinc (v := (nI (z + 1))) (lv' := [(9, .int (nI (z + 1))), (10, .int (nI ((x5_n * ((0 + 0) + 0)) + 0))), (8, .int (nI y)), (6, .int (nI bb)), (7, .int 0), (0, .ref (ad 0)), (1, .int (nI x1_n)), (2, .int x2), (3, .int x3), (4, .int (nI x4_n)), (5, .int (nI x5_n))]) hx hb dX12_party_187 hl (k := 1) rfl (nI_add z 1) (by decide) rfl (fun ls hl => ?_)
                                    refine lv_goto (tgt := 110) hx hb dX12_party_190 (by decide) ?_
                                    simp only [List.set_set, st_can] at hO
                                    have hO : cO D cy A s.heap s 14 ad (cup [(0, .inr (12, (((f0.set 62 (.int 0)).set 56 (.int 1)).set 57 (.int 10000)))), (6, .inl (cy 0, 30, .inl tt_139_109)), (9, .inl (cy 0, 5, .inl (fun _ => 0))), (10, .inl (cy 0, 5, .inl (fun _ => 0))), (12, .inl (cy 2, 5, .inl (fun _ => 0))), (7, .inl (cy 0, 120, .inl (fun _ => 0))), (8, .inl (cy 0, 120, .inl cd_139_110)), (3, .inl (cy 0, 30, .inl c1_139_106)), (4, .inl (cy 0, 30, .inl c2_139_107)), (11, .inl (cy 2, 30, .inl c3_139_108)), (5, .inl (cy 0, 5, .inl (fun _ => 0))), (13, .inl (cy 0, 24, .inl (fun _ => 0)))] g) _ _ := hO
                                    exact ih_110_101 (z + 1) bb c1_139_106 c2_139_107 c3_139_108 tt_139_109 cd_139_110 (by omega) hbb (by omega) _ _ hO ls (lv_sub hl [0, 2, 3, 4, 5, 6, 7, 8, 9, 10] rfl)
                                  · obtain ⟨c1_139_115, c2_139_116, c3_139_117, tt_139_118, cd_139_119, hS_139_120, hZ_139_121, h_139_122, h_139_123, rfl, rfl⟩ := hw
                                    exact absurd h_139_33 h_139_123
                                  · obtain ⟨c1_139_124, c2_139_125, c3_139_126, tt_139_127, cd_139_128, hS_139_129, hZ_139_130, h_139_131, h_139_132, rfl, rfl⟩ := hw
                                    exact absurd h_93_21 h_139_131
                                  · obtain ⟨c1_139_133, c2_139_134, c3_139_135, tt_139_136, cd_139_137, hS_139_138, hZ_139_139, h_139_140, h_139_141, rfl, rfl⟩ := hw
                                    exact absurd h_93_21 h_139_140
                            exact loop_110_98 ((y + 1) + 1) y bm t3 t4 t11 t6 t8 (by omega) hbm (by omega) _ _ hO ls (lv_sub hl [0, 1, 2, 3, 4, 5, 6, 7, 8, 9] rfl)
                      exact loop_89_39 ((0 + 1) + 1) 1 bb r3 r4 r11 r6 r8 (by omega) hbb (by omega) _ _ hO ls (lv_sub hl [0, 2, 3, 4, 5, 6, 7, 8, 9] rfl)
                    · have nh_124_38 : ¬ 0 < z := fun z => h_124_38 ((nI_ltI (a := 0) (b := z) (by omega) (by omega)).mpr z)
                      refine lv_aload_n hx hb dX12_party_127 rfl (lv_at hl 4 rfl) ?_
                      refine lv_iload_n hx hb dX12_party_128 rfl (lv_at hl 5 rfl) ?_
                      refine lv_iload_n hx hb dX12_party_129 rfl (lv_at hl 6 rfl) ?_
                      refine lv_iload_n hx hb dX12_party_130 rfl (lv_at hl 7 rfl) ?_
                      refine lv_iload hx hb dX12_party_131 (lv_at hl 9 rfl) ?_
                      refine lv_iload hx hb dX12_party_133 (lv_at hl 3 rfl) ?_
                      refine lv_iload hx hb dX12_party_135 (lv_at hl 2 rfl) ?_
                      refine lv_iload hx hb dX12_party_137 (lv_at hl 0 rfl) ?_
                      refine cg_Vi (As := [.int (nI x1_n), .int x2, .int x3, .int (nI x5_n), .int 0, .int 0, .int (nI z)]) (rest := []) (mc := 0) (ms := 0) (rm := { frames := 3, cells := 0, slots := 0, locals := 63 }) hC hl.1 hO [0, 2, 1, 5, 3, 4, 11, 6, 7, 8, 9, 10, 12] rfl (c_X12_partyPays l D cy _ _ (f0 := (((f0.set 62 (.int 0)).set 56 (.int 1)).set 57 (.int 10000))) (c4 := r3) (c5 := r4) (c7 := r6) (c9 := r8) (c6 := r11) (xm := 1) (xl := 10000) (n := x1_n) (s1 := x2) (mi := x3) (la := x5_n) (o1 := 0) (o2 := 0) (o3 := z) rfl (fs_ne (by decide) (fs_ne (by decide) (fs_ne (by decide) f0_12))) (fs_ne (by decide) (fs_ne (by decide) (fs_ne (by decide) f0_36))) (fs_ne (by decide) (fs_ne (by decide) (fs_ne (by decide) f0_41))) (fs_ne (by decide) (fs_ne (by decide) (fs_ne (by decide) f0_42))) (fs_ne (by decide) (fs_ne (by decide) (fs_ne (by decide) f0_43))) (fs_ne (by decide) (fs_ne (by decide) (fs_ne (by decide) f0_44))) (fs_ne (by decide) (fs_ne (by decide) (fs_ne (by decide) f0_47))) (fs_ne (by decide) (fs_ne (by decide) (fs_ne (by decide) f0_48))) (fs_ne (by decide) (fs_ne (by decide) (fs_ne (by decide) f0_49))) (fs_ne (by decide) (fs_ne (by decide) (fs_ne (by decide) f0_50))) (fs_ne (by decide) (fs_ne (by decide) (fs_ne (by decide) f0_53))) (fs_ne (by decide) (fs_ne (by decide) (fs_ne (by decide) f0_54))) (fs_ne (by decide) (fs_ne (by decide) (fs_ne (by decide) f0_55))) (fs_ne (by decide) (fs_eq (fs_ne (by decide) f0_56))) (fs_eq (fs_ne (by decide) (fs_ne (by decide) f0_57))) a2 a1 rfl rfl rfl rfl rfl rfl rfl rfl rfl rfl (by omega) (by omega) (by omega) (by omega) (by omega)) gq_c_X12_party_c_X12_partyPays_433 rfl rfl rfl 7 (by decide +kernel) ⟨Nat.le_of_ble_eq_true rfl, Nat.le_of_ble_eq_true rfl⟩ rfl (by decide) rfl rfl rfl (Nat.le_of_ble_eq_true rfl) dX12_party_139 ⟨Nat.le_of_ble_eq_true rfl, Nat.le_of_ble_eq_true rfl⟩ (fun r_139_144 nw_139_142 l_139_143 H locs hw hO => ?_)
                      rcases hw with hw | hw | hw | hw
                      · obtain ⟨c1_139_145, c2_139_146, c3_139_147, tt_139_148, cd_139_149, hS_139_150, hZ_139_151, h_139_152, h_139_153, rfl, rfl⟩ := hw
                        have hO : cO D cy A s.heap s 14 ad (cup [(0, .inr (12, ((((((f0.set 62 (.int 0)).set 56 (.int 1)).set 57 (.int 10000)).set 56 (.int 0)).set 57 (.int 10000)).set 56 (.int 1)))), (6, .inl (cy 0, 30, .inl tt_139_148)), (9, .inl (cy 0, 5, .inl (fun _ => 0))), (10, .inl (cy 0, 5, .inl (fun _ => 0))), (12, .inl (cy 2, 5, .inl (fun _ => 0))), (7, .inl (cy 0, 120, .inl (fun _ => 0))), (8, .inl (cy 0, 120, .inl cd_139_149)), (3, .inl (cy 0, 30, .inl c1_139_145)), (4, .inl (cy 0, 30, .inl c2_139_146)), (11, .inl (cy 2, 30, .inl c3_139_147)), (5, .inl (cy 0, 5, .inl (fun _ => 0))), (13, .inl (cy 0, 24, .inl (fun _ => 0)))] g) _ _ := hO
                        refine lv_istore (lv' := [(10, .int (nI ((x5_n * ((0 + 0) + 0)) + 0))), (9, .int (nI z)), (6, .int (nI bb)), (8, .int 0), (7, .int 0), (0, .ref (ad 0)), (1, .int (nI x1_n)), (2, .int x2), (3, .int x3), (4, .int (nI x4_n)), (5, .int (nI x5_n))]) hx hb dX12_party_142 hl (by decide) rfl (fun ls hl => ?_)
                        refine lv_iload hx hb dX12_party_144 (lv_at hl 2 rfl) ?_
                        refine lv_if_lt (tgt := 159) hx hb dX12_party_146 (by decide) (fun h => (show False from by have z := (nI_ltI (a := bb) (b := 0) (by omega) (by omega)).mp h; omega).elim) (fun _ => ?_)
                        refine lv_iload hx hb dX12_party_149 (lv_at hl 0 rfl) ?_
                        refine lv_iload hx hb dX12_party_151 (lv_at hl 2 rfl) ?_
                        refine lv_icmp_lt (tgt := 159) hx hb dX12_party_153 (by decide) (fun h => (show False from by have z := (nI_ltI (a := ((x5_n * ((0 + 0) + 0)) + 0)) (b := bb) (by omega) (by omega)).mp h; omega).elim) (fun _ => ?_)
                        refine lv_goto (tgt := 187) hx hb dX12_party_156 (by decide) ?_
                        refine lv_iinc (v := (nI (z + 1))) (lv' := [(9, .int (nI (z + 1))), (10, .int (nI ((x5_n * ((0 + 0) + 0)) + 0))), (6, .int (nI bb)), (8, .int 0), (7, .int 0), (0, .ref (ad 0)), (1, .int (nI x1_n)), (2, .int x2), (3, .int x3), (4, .int (nI x4_n)), (5, .int (nI x5_n))]) hx hb dX12_party_187 hl (k := 1) rfl (nI_add z 1) (by decide) rfl (fun ls hl => ?_)
                        refine lv_goto (tgt := 110) hx hb dX12_party_190 (by decide) ?_
                        simp only [List.set_set, st_can] at hO
                        have hO : cO D cy A s.heap s 14 ad (cup [(0, .inr (12, (((f0.set 62 (.int 0)).set 56 (.int 1)).set 57 (.int 10000)))), (6, .inl (cy 0, 30, .inl tt_139_148)), (9, .inl (cy 0, 5, .inl (fun _ => 0))), (10, .inl (cy 0, 5, .inl (fun _ => 0))), (12, .inl (cy 2, 5, .inl (fun _ => 0))), (7, .inl (cy 0, 120, .inl (fun _ => 0))), (8, .inl (cy 0, 120, .inl cd_139_149)), (3, .inl (cy 0, 30, .inl c1_139_145)), (4, .inl (cy 0, 30, .inl c2_139_146)), (11, .inl (cy 2, 30, .inl c3_139_147)), (5, .inl (cy 0, 5, .inl (fun _ => 0))), (13, .inl (cy 0, 24, .inl (fun _ => 0)))] g) _ _ := hO
                        exact ih_110_37 (z + 1) bb c1_139_145 c2_139_146 c3_139_147 tt_139_148 cd_139_149 (by omega) hbb (by omega) _ _ hO ls (lv_sub hl [0, 2, 3, 4, 5, 6, 7, 8, 9, 10] rfl)
                      · obtain ⟨c1_139_154, c2_139_155, c3_139_156, tt_139_157, cd_139_158, hS_139_159, hZ_139_160, h_139_161, h_139_162, rfl, rfl⟩ := hw
                        exact absurd h_139_33 h_139_162
                      · obtain ⟨c1_139_163, c2_139_164, c3_139_165, tt_139_166, cd_139_167, hS_139_168, hZ_139_169, h_139_170, h_139_171, rfl, rfl⟩ := hw
                        exact absurd h_93_21 h_139_170
                      · obtain ⟨c1_139_172, c2_139_173, c3_139_174, tt_139_175, cd_139_176, hS_139_177, hZ_139_178, h_139_179, h_139_180, rfl, rfl⟩ := hw
                        exact absurd h_93_21 h_139_179
                exact loop_110_34 ((0 + 1) + 1) 1 ((x5_n * ((0 + 0) + 0)) + 0) c1_139_25 c2_139_26 c3_139_27 tt_139_28 cd_139_29 (by omega) (hZ_139_31 rfl) (by omega) _ _ hO ls (lv_sub hl [0, 1, 3, 4, 5, 6, 7, 8, 9, 10] rfl)
              · obtain ⟨c1_139_181, c2_139_182, c3_139_183, tt_139_184, cd_139_185, hS_139_186, hZ_139_187, h_139_188, h_139_189, rfl, rfl⟩ := hw
                have hO : cO D cy A s.heap s 14 ad (cup [(0, .inr (12, ((((f0.set 62 (.int 0)).set 56 (.int 0)).set 57 (.int 10000)).set 56 (.int 1)))), (6, .inl (cy 0, 30, .inl tt_139_184)), (9, .inl (cy 0, 5, .inl (fun _ => 0))), (10, .inl (cy 0, 5, .inl (fun _ => 0))), (12, .inl (cy 2, 5, .inl (fun _ => 0))), (7, .inl (cy 0, 120, .inl (fun _ => 0))), (8, .inl (cy 0, 120, .inl cd_139_185)), (3, .inl (cy 0, 30, .inl c1_139_181)), (4, .inl (cy 0, 30, .inl c2_139_182)), (11, .inl (cy 2, 30, .inl c3_139_183)), (5, .inl (cy 0, 5, .inl (fun _ => 0)))] g) _ _ := hO
                refine lv_istore (lv' := [(10, .int (nI ((x5_n * ((0 + 0) + 0)) + 0))), (9, .int 0), (8, .int 0), (7, .int 0), (6, .int (-1)), (0, .ref (ad 0)), (1, .int (nI x1_n)), (2, .int x2), (3, .int x3), (4, .int (nI x4_n)), (5, .int (nI x5_n))]) hx hb dX12_party_142 hl (by decide) rfl (fun ls hl => ?_)
                refine lv_iload hx hb dX12_party_144 (lv_at hl 4 rfl) ?_
                refine lv_if_lt (tgt := 159) hx hb dX12_party_146 (by decide) (fun _ => ?_) (fun h => absurd h (by decide))
                refine lv_iload hx hb dX12_party_159 (lv_at hl 0 rfl) ?_
                refine lv_istore (lv' := [(6, .int (nI ((x5_n * ((0 + 0) + 0)) + 0))), (10, .int (nI ((x5_n * ((0 + 0) + 0)) + 0))), (9, .int 0), (8, .int 0), (7, .int 0), (0, .ref (ad 0)), (1, .int (nI x1_n)), (2, .int x2), (3, .int x3), (4, .int (nI x4_n)), (5, .int (nI x5_n))]) hx hb dX12_party_161 hl (by decide) rfl (fun ls hl => ?_)
                refine lv_aload_n hx hb dX12_party_163 rfl (lv_at hl 5 rfl) ?_
                refine cg_get hC hO 0 (by decide) rfl rfl i_X12 61 (by decide) (List.mem_of_getElem? (i := 53) rfl) (fs_ne (by decide) (fs_ne (by decide) (fs_ne (by decide) (fs_ne (by decide) f0_61)))) dX12_party_164 ?_
                refine lv_iconst (v := 0) hx hb dX12_party_167 (by decide) ?_
                refine lv_iload hx hb dX12_party_168 (lv_at hl 4 rfl) ?_
                refine cg_iast hC hO 13 (by decide) a13 (cin (by decide)) dX12_party_170 (fun H locs hO => ?_)
                have hO : cO D cy A s.heap s 14 ad (cup [(0, .inr (12, ((((f0.set 62 (.int 0)).set 56 (.int 0)).set 57 (.int 10000)).set 56 (.int 1)))), (6, .inl (cy 0, 30, .inl tt_139_184)), (9, .inl (cy 0, 5, .inl (fun _ => 0))), (10, .inl (cy 0, 5, .inl (fun _ => 0))), (12, .inl (cy 2, 5, .inl (fun _ => 0))), (7, .inl (cy 0, 120, .inl (fun _ => 0))), (8, .inl (cy 0, 120, .inl cd_139_185)), (3, .inl (cy 0, 30, .inl c1_139_181)), (4, .inl (cy 0, 30, .inl c2_139_182)), (11, .inl (cy 2, 30, .inl c3_139_183)), (5, .inl (cy 0, 5, .inl (fun _ => 0))), (13, .inl (cy 0, 24, .inl (upd (fun _ => 0) (0 : Int32).toNatClampNeg 0)))] g) _ _ := hO
                rw [upd_const] at hO
                have hO : cO D cy A s.heap s 14 ad (cup [(0, .inr (12, ((((f0.set 62 (.int 0)).set 56 (.int 0)).set 57 (.int 10000)).set 56 (.int 1)))), (6, .inl (cy 0, 30, .inl tt_139_184)), (9, .inl (cy 0, 5, .inl (fun _ => 0))), (10, .inl (cy 0, 5, .inl (fun _ => 0))), (12, .inl (cy 2, 5, .inl (fun _ => 0))), (7, .inl (cy 0, 120, .inl (fun _ => 0))), (8, .inl (cy 0, 120, .inl cd_139_185)), (3, .inl (cy 0, 30, .inl c1_139_181)), (4, .inl (cy 0, 30, .inl c2_139_182)), (11, .inl (cy 2, 30, .inl c3_139_183)), (5, .inl (cy 0, 5, .inl (fun _ => 0))), (13, .inl (cy 0, 24, .inl (fun _ => 0)))] g) _ _ := hO
                refine lv_aload_n hx hb dX12_party_171 rfl (lv_at hl 5 rfl) ?_
                refine cg_get hC hO 0 (by decide) rfl rfl i_X12 61 (by decide) (List.mem_of_getElem? (i := 53) rfl) (fs_ne (by decide) (fs_ne (by decide) (fs_ne (by decide) (fs_ne (by decide) f0_61)))) dX12_party_172 ?_
                refine lv_iconst (v := 1) hx hb dX12_party_175 (by decide) ?_
                refine lv_iload hx hb dX12_party_176 (lv_at hl 3 rfl) ?_
                refine cg_iast hC hO 13 (by decide) rfl (cin (by decide)) dX12_party_178 (fun H locs hO => ?_)
                have hO : cO D cy A s.heap s 14 ad (cup [(0, .inr (12, ((((f0.set 62 (.int 0)).set 56 (.int 0)).set 57 (.int 10000)).set 56 (.int 1)))), (6, .inl (cy 0, 30, .inl tt_139_184)), (9, .inl (cy 0, 5, .inl (fun _ => 0))), (10, .inl (cy 0, 5, .inl (fun _ => 0))), (12, .inl (cy 2, 5, .inl (fun _ => 0))), (7, .inl (cy 0, 120, .inl (fun _ => 0))), (8, .inl (cy 0, 120, .inl cd_139_185)), (3, .inl (cy 0, 30, .inl c1_139_181)), (4, .inl (cy 0, 30, .inl c2_139_182)), (11, .inl (cy 2, 30, .inl c3_139_183)), (5, .inl (cy 0, 5, .inl (fun _ => 0))), (13, .inl (cy 0, 24, .inl (upd (fun _ => 0) (1 : Int32).toNatClampNeg 0)))] g) _ _ := hO
                rw [upd_const] at hO
                have hO : cO D cy A s.heap s 14 ad (cup [(0, .inr (12, ((((f0.set 62 (.int 0)).set 56 (.int 0)).set 57 (.int 10000)).set 56 (.int 1)))), (6, .inl (cy 0, 30, .inl tt_139_184)), (9, .inl (cy 0, 5, .inl (fun _ => 0))), (10, .inl (cy 0, 5, .inl (fun _ => 0))), (12, .inl (cy 2, 5, .inl (fun _ => 0))), (7, .inl (cy 0, 120, .inl (fun _ => 0))), (8, .inl (cy 0, 120, .inl cd_139_185)), (3, .inl (cy 0, 30, .inl c1_139_181)), (4, .inl (cy 0, 30, .inl c2_139_182)), (11, .inl (cy 2, 30, .inl c3_139_183)), (5, .inl (cy 0, 5, .inl (fun _ => 0))), (13, .inl (cy 0, 24, .inl (fun _ => 0)))] g) _ _ := hO
                refine lv_aload_n hx hb dX12_party_179 rfl (lv_at hl 5 rfl) ?_
                refine cg_get hC hO 0 (by decide) rfl rfl i_X12 61 (by decide) (List.mem_of_getElem? (i := 53) rfl) (fs_ne (by decide) (fs_ne (by decide) (fs_ne (by decide) (fs_ne (by decide) f0_61)))) dX12_party_180 ?_
                refine lv_iconst (v := 2) hx hb dX12_party_183 (by decide) ?_
                refine lv_iload hx hb dX12_party_184 (lv_at hl 2 rfl) ?_
                refine cg_iast hC hO 13 (by decide) rfl (cin (by decide)) dX12_party_186 (fun H locs hO => ?_)
                have hO : cO D cy A s.heap s 14 ad (cup [(0, .inr (12, ((((f0.set 62 (.int 0)).set 56 (.int 0)).set 57 (.int 10000)).set 56 (.int 1)))), (6, .inl (cy 0, 30, .inl tt_139_184)), (9, .inl (cy 0, 5, .inl (fun _ => 0))), (10, .inl (cy 0, 5, .inl (fun _ => 0))), (12, .inl (cy 2, 5, .inl (fun _ => 0))), (7, .inl (cy 0, 120, .inl (fun _ => 0))), (8, .inl (cy 0, 120, .inl cd_139_185)), (3, .inl (cy 0, 30, .inl c1_139_181)), (4, .inl (cy 0, 30, .inl c2_139_182)), (11, .inl (cy 2, 30, .inl c3_139_183)), (5, .inl (cy 0, 5, .inl (fun _ => 0))), (13, .inl (cy 0, 24, .inl (upd (fun _ => 0) (2 : Int32).toNatClampNeg 0)))] g) _ _ := hO
                rw [upd_const] at hO
                have hO : cO D cy A s.heap s 14 ad (cup [(0, .inr (12, ((((f0.set 62 (.int 0)).set 56 (.int 0)).set 57 (.int 10000)).set 56 (.int 1)))), (6, .inl (cy 0, 30, .inl tt_139_184)), (9, .inl (cy 0, 5, .inl (fun _ => 0))), (10, .inl (cy 0, 5, .inl (fun _ => 0))), (12, .inl (cy 2, 5, .inl (fun _ => 0))), (7, .inl (cy 0, 120, .inl (fun _ => 0))), (8, .inl (cy 0, 120, .inl cd_139_185)), (3, .inl (cy 0, 30, .inl c1_139_181)), (4, .inl (cy 0, 30, .inl c2_139_182)), (11, .inl (cy 2, 30, .inl c3_139_183)), (5, .inl (cy 0, 5, .inl (fun _ => 0))), (13, .inl (cy 0, 24, .inl (fun _ => 0)))] g) _ _ := hO
                refine lv_iinc (v := 1) (lv' := [(9, .int 1), (6, .int (nI ((x5_n * ((0 + 0) + 0)) + 0))), (10, .int (nI ((x5_n * ((0 + 0) + 0)) + 0))), (8, .int 0), (7, .int 0), (0, .ref (ad 0)), (1, .int (nI x1_n)), (2, .int x2), (3, .int x3), (4, .int (nI x4_n)), (5, .int (nI x5_n))]) hx hb dX12_party_187 hl (k := 2) rfl (by decide) (by decide) rfl (fun ls hl => ?_)
                refine lv_goto (tgt := 110) hx hb dX12_party_190 (by decide) ?_
                simp only [List.set_set, st_can] at hO
                have hO : cO D cy A s.heap s 14 ad (cup [(0, .inr (12, (((f0.set 62 (.int 0)).set 56 (.int 1)).set 57 (.int 10000)))), (6, .inl (cy 0, 30, .inl tt_139_184)), (9, .inl (cy 0, 5, .inl (fun _ => 0))), (10, .inl (cy 0, 5, .inl (fun _ => 0))), (12, .inl (cy 2, 5, .inl (fun _ => 0))), (7, .inl (cy 0, 120, .inl (fun _ => 0))), (8, .inl (cy 0, 120, .inl cd_139_185)), (3, .inl (cy 0, 30, .inl c1_139_181)), (4, .inl (cy 0, 30, .inl c2_139_182)), (11, .inl (cy 2, 30, .inl c3_139_183)), (5, .inl (cy 0, 5, .inl (fun _ => 0))), (13, .inl (cy 0, 24, .inl (fun _ => 0)))] g) _ _ := hO
                have loop_110_190 : ∀ (d_110_191 : Nat) (z : Nat) (bb : Nat) (r3 : Nat → Int32) (r4 : Nat → Int32) (r11 : Nat → Int32) (r6 : Nat → Int32) (r8 : Nat → Int32), (z ≤ x4_n + 1) → (bb = 0) → x4_n + 1 - z < d_110_191 → ∀ (H : Heap) (locs : List Loc), cO D cy A s.heap s 14 ad (cup [(0, .inr (12, (((f0.set 62 (.int 0)).set 56 (.int 1)).set 57 (.int 10000)))), (6, .inl (cy 0, 30, .inl r6)), (9, .inl (cy 0, 5, .inl (fun _ => 0))), (10, .inl (cy 0, 5, .inl (fun _ => 0))), (12, .inl (cy 2, 5, .inl (fun _ => 0))), (7, .inl (cy 0, 120, .inl (fun _ => 0))), (8, .inl (cy 0, 120, .inl r8)), (3, .inl (cy 0, 30, .inl r3)), (4, .inl (cy 0, 30, .inl r4)), (11, .inl (cy 2, 30, .inl r11)), (5, .inl (cy 0, 5, .inl (fun _ => 0))), (13, .inl (cy 0, 24, .inl (fun _ => 0)))] g) H locs → ∀ ls : Array Slot, lv_has ls 11 [(9, .int (nI z)), (6, .int (nI bb)), (8, .int 0), (7, .int 0), (0, .ref (ad 0)), (1, .int (nI x1_n)), (2, .int x2), (3, .int x3), (4, .int (nI x4_n)), (5, .int (nI x5_n))] → W p l e { frames := 4, cells := 0, slots := 0, locals := 93 } s m [.ref (ad 0), .int x1, .int x2, .int x3, .int x4, .int x5].toArray below meth c H locs 0 0 (MQ below (cQi (fun r nw lu => r = ans_party x1 x2 x3 x4 x5) D 14 0 ad g A) [.ref (ad 0), .int x1, .int x2, .int x3, .int x4, .int x5].toArray s 0 0 A) (F0 m 110 ls []) := by
                  intro d_110_191
                  induction d_110_191 with
                  | zero => intro z bb r3 r4 r11 r6 r8 hz hbb mu_110_192; exact absurd mu_110_192 (Nat.not_lt_zero _)
                  | succ d_110_191 ih_110_193 =>
                    intro z bb r3 r4 r11 r6 r8 hz hbb mu_110_192 H locs hO ls hl
                    refine lv_iload hx hb dX12_party_110 (lv_at hl 0 rfl) ?_
                    refine lv_iload_n hx hb dX12_party_112 rfl (lv_at hl 5 rfl) ?_
                    refine lv_iconst (v := 2) hx hb dX12_party_113 (by decide) ?_
                    refine lv_icmp_le (tgt := 122) hx hb dX12_party_114 (by decide) (fun _ => ?_) (fun h => (show False from by have z : ¬ x1_n ≤ 2 := fun q => h ((nI_leI (a := x1_n) (b := 2) (by omega) (by omega)).mpr q); omega).elim)
                    refine lv_iload hx hb dX12_party_122 (lv_at hl 2 rfl) ?_
                    refine lv_icmp_gt (tgt := 193) hx hb dX12_party_124 (by decide) (fun h_124_194 => ?_) (fun h_124_194 => ?_)
                    · have nh_124_194 : 0 < z := (nI_ltI (a := 0) (b := z) (by omega) (by omega)).mp h_124_194
                      refine lv_iinc (v := 1) (lv' := [(8, .int 1), (9, .int (nI z)), (6, .int (nI bb)), (7, .int 0), (0, .ref (ad 0)), (1, .int (nI x1_n)), (2, .int x2), (3, .int x3), (4, .int (nI x4_n)), (5, .int (nI x5_n))]) hx hb dX12_party_193 hl (k := 2) rfl (by decide) (by decide) rfl (fun ls hl => ?_)
                      refine lv_goto (tgt := 89) hx hb dX12_party_196 (by decide) ?_
                      have hO : cO D cy A s.heap s 14 ad (cup [(0, .inr (12, (((f0.set 62 (.int 0)).set 56 (.int 1)).set 57 (.int 10000)))), (6, .inl (cy 0, 30, .inl r6)), (9, .inl (cy 0, 5, .inl (fun _ => 0))), (10, .inl (cy 0, 5, .inl (fun _ => 0))), (12, .inl (cy 2, 5, .inl (fun _ => 0))), (7, .inl (cy 0, 120, .inl (fun _ => 0))), (8, .inl (cy 0, 120, .inl r8)), (3, .inl (cy 0, 30, .inl r3)), (4, .inl (cy 0, 30, .inl r4)), (11, .inl (cy 2, 30, .inl r11)), (5, .inl (cy 0, 5, .inl (fun _ => 0))), (13, .inl (cy 0, 24, .inl (fun _ => 0)))] g) _ _ := hO
                      have loop_89_195 : ∀ (d_89_196 : Nat) (y : Nat) (bm : Nat) (t3 : Nat → Int32) (t4 : Nat → Int32) (t11 : Nat → Int32) (t6 : Nat → Int32) (t8 : Nat → Int32), (y ≤ 0 + 1) → (bm = 0) → 0 + 1 - y < d_89_196 → ∀ (H : Heap) (locs : List Loc), cO D cy A s.heap s 14 ad (cup [(0, .inr (12, (((f0.set 62 (.int 0)).set 56 (.int 1)).set 57 (.int 10000)))), (6, .inl (cy 0, 30, .inl t6)), (9, .inl (cy 0, 5, .inl (fun _ => 0))), (10, .inl (cy 0, 5, .inl (fun _ => 0))), (12, .inl (cy 2, 5, .inl (fun _ => 0))), (7, .inl (cy 0, 120, .inl (fun _ => 0))), (8, .inl (cy 0, 120, .inl t8)), (3, .inl (cy 0, 30, .inl t3)), (4, .inl (cy 0, 30, .inl t4)), (11, .inl (cy 2, 30, .inl t11)), (5, .inl (cy 0, 5, .inl (fun _ => 0))), (13, .inl (cy 0, 24, .inl (fun _ => 0)))] g) H locs → ∀ ls : Array Slot, lv_has ls 11 [(8, .int (nI y)), (6, .int (nI bm)), (7, .int 0), (0, .ref (ad 0)), (1, .int (nI x1_n)), (2, .int x2), (3, .int x3), (4, .int (nI x4_n)), (5, .int (nI x5_n))] → W p l e { frames := 4, cells := 0, slots := 0, locals := 93 } s m [.ref (ad 0), .int x1, .int x2, .int x3, .int x4, .int x5].toArray below meth c H locs 0 0 (MQ below (cQi (fun r nw lu => r = ans_party x1 x2 x3 x4 x5) D 14 0 ad g A) [.ref (ad 0), .int x1, .int x2, .int x3, .int x4, .int x5].toArray s 0 0 A) (F0 m 89 ls []) := by
                        intro d_89_196
                        induction d_89_196 with
                        | zero => intro y bm t3 t4 t11 t6 t8 hy hbm mu_89_197; exact absurd mu_89_197 (Nat.not_lt_zero _)
                        | succ d_89_196 ih_89_198 =>
                          intro y bm t3 t4 t11 t6 t8 hy hbm mu_89_197 H locs hO ls hl
                          refine lv_iload hx hb dX12_party_89 (lv_at hl 0 rfl) ?_
                          refine lv_iload_n hx hb dX12_party_91 rfl (lv_at hl 4 rfl) ?_
                          refine lv_iconst (v := 1) hx hb dX12_party_92 (by decide) ?_
                          refine lv_icmp_le (tgt := 101) hx hb dX12_party_93 (by decide) (fun _ => ?_) (fun h => absurd h_93_21 h)
                          refine lv_iload hx hb dX12_party_101 (lv_at hl 2 rfl) ?_
                          refine lv_icmp_gt (tgt := 199) hx hb dX12_party_103 (by decide) (fun h_103_199 => ?_) (fun h_103_199 => ?_)
                          · have nh_103_199 : 0 < y := (nI_ltI (a := 0) (b := y) (by omega) (by omega)).mp h_103_199
                            refine lv_iinc (v := 1) (lv' := [(7, .int 1), (8, .int (nI y)), (6, .int (nI bm)), (0, .ref (ad 0)), (1, .int (nI x1_n)), (2, .int x2), (3, .int x3), (4, .int (nI x4_n)), (5, .int (nI x5_n))]) hx hb dX12_party_199 hl (k := 2) rfl (by decide) (by decide) rfl (fun ls hl => ?_)
                            refine lv_goto (tgt := 78) hx hb dX12_party_202 (by decide) ?_
                            have hO : cO D cy A s.heap s 14 ad (cup [(0, .inr (12, (((f0.set 62 (.int 0)).set 56 (.int 1)).set 57 (.int 10000)))), (6, .inl (cy 0, 30, .inl t6)), (9, .inl (cy 0, 5, .inl (fun _ => 0))), (10, .inl (cy 0, 5, .inl (fun _ => 0))), (12, .inl (cy 2, 5, .inl (fun _ => 0))), (7, .inl (cy 0, 120, .inl (fun _ => 0))), (8, .inl (cy 0, 120, .inl t8)), (3, .inl (cy 0, 30, .inl t3)), (4, .inl (cy 0, 30, .inl t4)), (11, .inl (cy 2, 30, .inl t11)), (5, .inl (cy 0, 5, .inl (fun _ => 0))), (13, .inl (cy 0, 24, .inl (fun _ => 0)))] g) _ _ := hO
                            have loop_78_200 : ∀ (d_78_201 : Nat) (o : Nat) (bo : Nat) (u3 : Nat → Int32) (u4 : Nat → Int32) (u11 : Nat → Int32) (u6 : Nat → Int32) (u8 : Nat → Int32), (o ≤ x4_n + 1) → (bo = 0) → x4_n + 1 - o < d_78_201 → ∀ (H : Heap) (locs : List Loc), cO D cy A s.heap s 14 ad (cup [(0, .inr (12, (((f0.set 62 (.int 0)).set 56 (.int 1)).set 57 (.int 10000)))), (6, .inl (cy 0, 30, .inl u6)), (9, .inl (cy 0, 5, .inl (fun _ => 0))), (10, .inl (cy 0, 5, .inl (fun _ => 0))), (12, .inl (cy 2, 5, .inl (fun _ => 0))), (7, .inl (cy 0, 120, .inl (fun _ => 0))), (8, .inl (cy 0, 120, .inl u8)), (3, .inl (cy 0, 30, .inl u3)), (4, .inl (cy 0, 30, .inl u4)), (11, .inl (cy 2, 30, .inl u11)), (5, .inl (cy 0, 5, .inl (fun _ => 0))), (13, .inl (cy 0, 24, .inl (fun _ => 0)))] g) H locs → ∀ ls : Array Slot, lv_has ls 11 [(7, .int (nI o)), (6, .int (nI bo)), (0, .ref (ad 0)), (1, .int (nI x1_n)), (2, .int x2), (3, .int x3), (4, .int (nI x4_n)), (5, .int (nI x5_n))] → W p l e { frames := 4, cells := 0, slots := 0, locals := 93 } s m [.ref (ad 0), .int x1, .int x2, .int x3, .int x4, .int x5].toArray below meth c H locs 0 0 (MQ below (cQi (fun r nw lu => r = ans_party x1 x2 x3 x4 x5) D 14 0 ad g A) [.ref (ad 0), .int x1, .int x2, .int x3, .int x4, .int x5].toArray s 0 0 A) (F0 m 78 ls []) := by
                              intro d_78_201
                              induction d_78_201 with
                              | zero => intro o bo u3 u4 u11 u6 u8 ho hbo mu_78_202; exact absurd mu_78_202 (Nat.not_lt_zero _)
                              | succ d_78_201 ih_78_203 =>
                                intro o bo u3 u4 u11 u6 u8 ho hbo mu_78_202 H locs hO ls hl
                                refine lv_iload hx hb dX12_party_78 (lv_at hl 0 rfl) ?_
                                refine lv_iload hx hb dX12_party_80 (lv_at hl 6 rfl) ?_
                                refine lv_icmp_gt (tgt := 205) hx hb dX12_party_82 (by decide) (fun h_82_204 => ?_) (fun h_82_204 => ?_)
                                · have nh_82_204 : x4_n < o := (nI_ltI (by omega) (by omega)).mp h_82_204
                                  refine lv_aload_n hx hb dX12_party_205 rfl (lv_at hl 2 rfl) ?_
                                  refine lv_iload_n hx hb dX12_party_206 rfl (lv_at hl 3 rfl) ?_
                                  refine cg_put hC hO 0 (by decide) rfl rfl i_X12 tyX12_ok nmX12 62 (by decide) (List.mem_of_getElem? (i := 1) rfl) rfl rfl rfl (fs_lt (fs_ne (by decide) (fs_ne (by decide) (fs_eq f0_62)))) dX12_party_207 (fun H locs hO => ?_)
                                  have hO : cO D cy A s.heap s 14 ad (cup [(0, .inr (12, ((((f0.set 62 (.int 0)).set 56 (.int 1)).set 57 (.int 10000)).set 62 (.int (nI x1_n))))), (6, .inl (cy 0, 30, .inl u6)), (9, .inl (cy 0, 5, .inl (fun _ => 0))), (10, .inl (cy 0, 5, .inl (fun _ => 0))), (12, .inl (cy 2, 5, .inl (fun _ => 0))), (7, .inl (cy 0, 120, .inl (fun _ => 0))), (8, .inl (cy 0, 120, .inl u8)), (3, .inl (cy 0, 30, .inl u3)), (4, .inl (cy 0, 30, .inl u4)), (11, .inl (cy 2, 30, .inl u11)), (5, .inl (cy 0, 5, .inl (fun _ => 0))), (13, .inl (cy 0, 24, .inl (fun _ => 0)))] g) _ _ := hO
                                  refine lv_iload hx hb dX12_party_210 (lv_at hl 1 rfl) ?_
                                  exact cg_iret (nw := fun _ => 0) hC hr hlk hO.same rfl (Nat.le_of_ble_eq_true rfl) (Nat.le_of_ble_eq_true rfl) (by rw [hbo]; exact (if_pos ⟨hr_8_4, hr_18_8, hr_29_12, hr_40_16, hr_51_20⟩).symm) dX12_party_212
                                · have nh_82_204 : ¬ x4_n < o := fun z => h_82_204 ((nI_ltI (by omega) (by omega)).mpr z)
                                  refine lv_iload hx hb dX12_party_85 (lv_at hl 0 rfl) ?_
                                  refine lv_istore (lv' := [(8, .int (nI o)), (7, .int (nI o)), (6, .int (nI bo)), (0, .ref (ad 0)), (1, .int (nI x1_n)), (2, .int x2), (3, .int x3), (4, .int (nI x4_n)), (5, .int (nI x5_n))]) hx hb dX12_party_87 hl (by decide) rfl (fun ls hl => ?_)
                                  have hO : cO D cy A s.heap s 14 ad (cup [(0, .inr (12, (((f0.set 62 (.int 0)).set 56 (.int 1)).set 57 (.int 10000)))), (6, .inl (cy 0, 30, .inl u6)), (9, .inl (cy 0, 5, .inl (fun _ => 0))), (10, .inl (cy 0, 5, .inl (fun _ => 0))), (12, .inl (cy 2, 5, .inl (fun _ => 0))), (7, .inl (cy 0, 120, .inl (fun _ => 0))), (8, .inl (cy 0, 120, .inl u8)), (3, .inl (cy 0, 30, .inl u3)), (4, .inl (cy 0, 30, .inl u4)), (11, .inl (cy 2, 30, .inl u11)), (5, .inl (cy 0, 5, .inl (fun _ => 0))), (13, .inl (cy 0, 24, .inl (fun _ => 0)))] g) _ _ := hO
                                  have loop_89_205 : ∀ (d_89_206 : Nat) (y : Nat) (bm : Nat) (t3 : Nat → Int32) (t4 : Nat → Int32) (t11 : Nat → Int32) (t6 : Nat → Int32) (t8 : Nat → Int32), (y ≤ o + 1) → (bm = 0) → o + 1 - y < d_89_206 → ∀ (H : Heap) (locs : List Loc), cO D cy A s.heap s 14 ad (cup [(0, .inr (12, (((f0.set 62 (.int 0)).set 56 (.int 1)).set 57 (.int 10000)))), (6, .inl (cy 0, 30, .inl t6)), (9, .inl (cy 0, 5, .inl (fun _ => 0))), (10, .inl (cy 0, 5, .inl (fun _ => 0))), (12, .inl (cy 2, 5, .inl (fun _ => 0))), (7, .inl (cy 0, 120, .inl (fun _ => 0))), (8, .inl (cy 0, 120, .inl t8)), (3, .inl (cy 0, 30, .inl t3)), (4, .inl (cy 0, 30, .inl t4)), (11, .inl (cy 2, 30, .inl t11)), (5, .inl (cy 0, 5, .inl (fun _ => 0))), (13, .inl (cy 0, 24, .inl (fun _ => 0)))] g) H locs → ∀ ls : Array Slot, lv_has ls 11 [(8, .int (nI y)), (7, .int (nI o)), (6, .int (nI bm)), (0, .ref (ad 0)), (1, .int (nI x1_n)), (2, .int x2), (3, .int x3), (4, .int (nI x4_n)), (5, .int (nI x5_n))] → W p l e { frames := 4, cells := 0, slots := 0, locals := 93 } s m [.ref (ad 0), .int x1, .int x2, .int x3, .int x4, .int x5].toArray below meth c H locs 0 0 (MQ below (cQi (fun r nw lu => r = ans_party x1 x2 x3 x4 x5) D 14 0 ad g A) [.ref (ad 0), .int x1, .int x2, .int x3, .int x4, .int x5].toArray s 0 0 A) (F0 m 89 ls []) := by
                                    intro d_89_206
                                    induction d_89_206 with
                                    | zero => intro y bm t3 t4 t11 t6 t8 hy hbm mu_89_207; exact absurd mu_89_207 (Nat.not_lt_zero _)
                                    | succ d_89_206 ih_89_208 =>
                                      intro y bm t3 t4 t11 t6 t8 hy hbm mu_89_207 H locs hO ls hl
                                      refine lv_iload hx hb dX12_party_89 (lv_at hl 0 rfl) ?_
                                      refine lv_iload_n hx hb dX12_party_91 rfl (lv_at hl 4 rfl) ?_
                                      refine lv_iconst (v := 1) hx hb dX12_party_92 (by decide) ?_
                                      refine lv_icmp_le (tgt := 101) hx hb dX12_party_93 (by decide) (fun _ => ?_) (fun h => absurd h_93_21 h)
                                      refine lv_iload hx hb dX12_party_101 (lv_at hl 1 rfl) ?_
                                      refine lv_icmp_gt (tgt := 199) hx hb dX12_party_103 (by decide) (fun h_103_209 => ?_) (fun h_103_209 => ?_)
                                      · have nh_103_209 : o < y := (nI_ltI (by omega) (by omega)).mp h_103_209
                                        refine lv_iinc (v := (nI (o + 1))) (lv' := [(7, .int (nI (o + 1))), (8, .int (nI y)), (6, .int (nI bm)), (0, .ref (ad 0)), (1, .int (nI x1_n)), (2, .int x2), (3, .int x3), (4, .int (nI x4_n)), (5, .int (nI x5_n))]) hx hb dX12_party_199 hl (k := 1) rfl (nI_add o 1) (by decide) rfl (fun ls hl => ?_)
                                        refine lv_goto (tgt := 78) hx hb dX12_party_202 (by decide) ?_
                                        have hO : cO D cy A s.heap s 14 ad (cup [(0, .inr (12, (((f0.set 62 (.int 0)).set 56 (.int 1)).set 57 (.int 10000)))), (6, .inl (cy 0, 30, .inl t6)), (9, .inl (cy 0, 5, .inl (fun _ => 0))), (10, .inl (cy 0, 5, .inl (fun _ => 0))), (12, .inl (cy 2, 5, .inl (fun _ => 0))), (7, .inl (cy 0, 120, .inl (fun _ => 0))), (8, .inl (cy 0, 120, .inl t8)), (3, .inl (cy 0, 30, .inl t3)), (4, .inl (cy 0, 30, .inl t4)), (11, .inl (cy 2, 30, .inl t11)), (5, .inl (cy 0, 5, .inl (fun _ => 0))), (13, .inl (cy 0, 24, .inl (fun _ => 0)))] g) _ _ := hO
                                        exact ih_78_203 (o + 1) bm t3 t4 t11 t6 t8 (by omega) hbm (by omega) _ _ hO ls (lv_sub hl [0, 2, 3, 4, 5, 6, 7, 8] rfl)
                                      · have nh_103_209 : ¬ o < y := fun z => h_103_209 ((nI_ltI (by omega) (by omega)).mpr z)
                                        refine lv_iload hx hb dX12_party_106 (lv_at hl 0 rfl) ?_
                                        refine lv_istore (lv' := [(9, .int (nI y)), (8, .int (nI y)), (7, .int (nI o)), (6, .int (nI bm)), (0, .ref (ad 0)), (1, .int (nI x1_n)), (2, .int x2), (3, .int x3), (4, .int (nI x4_n)), (5, .int (nI x5_n))]) hx hb dX12_party_108 hl (by decide) rfl (fun ls hl => ?_)
                                        have hO : cO D cy A s.heap s 14 ad (cup [(0, .inr (12, (((f0.set 62 (.int 0)).set 56 (.int 1)).set 57 (.int 10000)))), (6, .inl (cy 0, 30, .inl t6)), (9, .inl (cy 0, 5, .inl (fun _ => 0))), (10, .inl (cy 0, 5, .inl (fun _ => 0))), (12, .inl (cy 2, 5, .inl (fun _ => 0))), (7, .inl (cy 0, 120, .inl (fun _ => 0))), (8, .inl (cy 0, 120, .inl t8)), (3, .inl (cy 0, 30, .inl t3)), (4, .inl (cy 0, 30, .inl t4)), (11, .inl (cy 2, 30, .inl t11)), (5, .inl (cy 0, 5, .inl (fun _ => 0))), (13, .inl (cy 0, 24, .inl (fun _ => 0)))] g) _ _ := hO
                                        have loop_110_210 : ∀ (d_110_211 : Nat) (z : Nat) (bb : Nat) (r3 : Nat → Int32) (r4 : Nat → Int32) (r11 : Nat → Int32) (r6 : Nat → Int32) (r8 : Nat → Int32), (z ≤ x4_n + 1) → (bb = 0) → x4_n + 1 - z < d_110_211 → ∀ (H : Heap) (locs : List Loc), cO D cy A s.heap s 14 ad (cup [(0, .inr (12, (((f0.set 62 (.int 0)).set 56 (.int 1)).set 57 (.int 10000)))), (6, .inl (cy 0, 30, .inl r6)), (9, .inl (cy 0, 5, .inl (fun _ => 0))), (10, .inl (cy 0, 5, .inl (fun _ => 0))), (12, .inl (cy 2, 5, .inl (fun _ => 0))), (7, .inl (cy 0, 120, .inl (fun _ => 0))), (8, .inl (cy 0, 120, .inl r8)), (3, .inl (cy 0, 30, .inl r3)), (4, .inl (cy 0, 30, .inl r4)), (11, .inl (cy 2, 30, .inl r11)), (5, .inl (cy 0, 5, .inl (fun _ => 0))), (13, .inl (cy 0, 24, .inl (fun _ => 0)))] g) H locs → ∀ ls : Array Slot, lv_has ls 11 [(9, .int (nI z)), (8, .int (nI y)), (7, .int (nI o)), (6, .int (nI bb)), (0, .ref (ad 0)), (1, .int (nI x1_n)), (2, .int x2), (3, .int x3), (4, .int (nI x4_n)), (5, .int (nI x5_n))] → W p l e { frames := 4, cells := 0, slots := 0, locals := 93 } s m [.ref (ad 0), .int x1, .int x2, .int x3, .int x4, .int x5].toArray below meth c H locs 0 0 (MQ below (cQi (fun r nw lu => r = ans_party x1 x2 x3 x4 x5) D 14 0 ad g A) [.ref (ad 0), .int x1, .int x2, .int x3, .int x4, .int x5].toArray s 0 0 A) (F0 m 110 ls []) := by
                                          intro d_110_211
                                          induction d_110_211 with
                                          | zero => intro z bb r3 r4 r11 r6 r8 hz hbb mu_110_212; exact absurd mu_110_212 (Nat.not_lt_zero _)
                                          | succ d_110_211 ih_110_213 =>
                                            intro z bb r3 r4 r11 r6 r8 hz hbb mu_110_212 H locs hO ls hl
                                            refine lv_iload hx hb dX12_party_110 (lv_at hl 0 rfl) ?_
                                            refine lv_iload_n hx hb dX12_party_112 rfl (lv_at hl 5 rfl) ?_
                                            refine lv_iconst (v := 2) hx hb dX12_party_113 (by decide) ?_
                                            refine lv_icmp_le (tgt := 122) hx hb dX12_party_114 (by decide) (fun _ => ?_) (fun h => (show False from by have z : ¬ x1_n ≤ 2 := fun q => h ((nI_leI (a := x1_n) (b := 2) (by omega) (by omega)).mpr q); omega).elim)
                                            refine lv_iload hx hb dX12_party_122 (lv_at hl 1 rfl) ?_
                                            refine lv_icmp_gt (tgt := 193) hx hb dX12_party_124 (by decide) (fun h_124_214 => ?_) (fun h_124_214 => ?_)
                                            · have nh_124_214 : y < z := (nI_ltI (by omega) (by omega)).mp h_124_214
                                              refine lv_iinc (v := (nI (y + 1))) (lv' := [(8, .int (nI (y + 1))), (9, .int (nI z)), (7, .int (nI o)), (6, .int (nI bb)), (0, .ref (ad 0)), (1, .int (nI x1_n)), (2, .int x2), (3, .int x3), (4, .int (nI x4_n)), (5, .int (nI x5_n))]) hx hb dX12_party_193 hl (k := 1) rfl (nI_add y 1) (by decide) rfl (fun ls hl => ?_)
                                              refine lv_goto (tgt := 89) hx hb dX12_party_196 (by decide) ?_
                                              have hO : cO D cy A s.heap s 14 ad (cup [(0, .inr (12, (((f0.set 62 (.int 0)).set 56 (.int 1)).set 57 (.int 10000)))), (6, .inl (cy 0, 30, .inl r6)), (9, .inl (cy 0, 5, .inl (fun _ => 0))), (10, .inl (cy 0, 5, .inl (fun _ => 0))), (12, .inl (cy 2, 5, .inl (fun _ => 0))), (7, .inl (cy 0, 120, .inl (fun _ => 0))), (8, .inl (cy 0, 120, .inl r8)), (3, .inl (cy 0, 30, .inl r3)), (4, .inl (cy 0, 30, .inl r4)), (11, .inl (cy 2, 30, .inl r11)), (5, .inl (cy 0, 5, .inl (fun _ => 0))), (13, .inl (cy 0, 24, .inl (fun _ => 0)))] g) _ _ := hO
                                              exact ih_89_208 (y + 1) bb r3 r4 r11 r6 r8 (by omega) hbb (by omega) _ _ hO ls (lv_sub hl [0, 2, 3, 4, 5, 6, 7, 8, 9] rfl)
                                            · have nh_124_214 : ¬ y < z := fun z => h_124_214 ((nI_ltI (by omega) (by omega)).mpr z)
                                              refine lv_aload_n hx hb dX12_party_127 rfl (lv_at hl 4 rfl) ?_
                                              refine lv_iload_n hx hb dX12_party_128 rfl (lv_at hl 5 rfl) ?_
                                              refine lv_iload_n hx hb dX12_party_129 rfl (lv_at hl 6 rfl) ?_
                                              refine lv_iload_n hx hb dX12_party_130 rfl (lv_at hl 7 rfl) ?_
                                              refine lv_iload hx hb dX12_party_131 (lv_at hl 9 rfl) ?_
                                              refine lv_iload hx hb dX12_party_133 (lv_at hl 2 rfl) ?_
                                              refine lv_iload hx hb dX12_party_135 (lv_at hl 1 rfl) ?_
                                              refine lv_iload hx hb dX12_party_137 (lv_at hl 0 rfl) ?_
                                              refine cg_Vi (As := [.int (nI x1_n), .int x2, .int x3, .int (nI x5_n), .int (nI o), .int (nI y), .int (nI z)]) (rest := []) (mc := 0) (ms := 0) (rm := { frames := 3, cells := 0, slots := 0, locals := 63 }) hC hl.1 hO [0, 2, 1, 5, 3, 4, 11, 6, 7, 8, 9, 10, 12] rfl (c_X12_partyPays l D cy _ _ (f0 := (((f0.set 62 (.int 0)).set 56 (.int 1)).set 57 (.int 10000))) (c4 := r3) (c5 := r4) (c7 := r6) (c9 := r8) (c6 := r11) (xm := 1) (xl := 10000) (n := x1_n) (s1 := x2) (mi := x3) (la := x5_n) (o1 := o) (o2 := y) (o3 := z) rfl (fs_ne (by decide) (fs_ne (by decide) (fs_ne (by decide) f0_12))) (fs_ne (by decide) (fs_ne (by decide) (fs_ne (by decide) f0_36))) (fs_ne (by decide) (fs_ne (by decide) (fs_ne (by decide) f0_41))) (fs_ne (by decide) (fs_ne (by decide) (fs_ne (by decide) f0_42))) (fs_ne (by decide) (fs_ne (by decide) (fs_ne (by decide) f0_43))) (fs_ne (by decide) (fs_ne (by decide) (fs_ne (by decide) f0_44))) (fs_ne (by decide) (fs_ne (by decide) (fs_ne (by decide) f0_47))) (fs_ne (by decide) (fs_ne (by decide) (fs_ne (by decide) f0_48))) (fs_ne (by decide) (fs_ne (by decide) (fs_ne (by decide) f0_49))) (fs_ne (by decide) (fs_ne (by decide) (fs_ne (by decide) f0_50))) (fs_ne (by decide) (fs_ne (by decide) (fs_ne (by decide) f0_53))) (fs_ne (by decide) (fs_ne (by decide) (fs_ne (by decide) f0_54))) (fs_ne (by decide) (fs_ne (by decide) (fs_ne (by decide) f0_55))) (fs_ne (by decide) (fs_eq (fs_ne (by decide) f0_56))) (fs_eq (fs_ne (by decide) (fs_ne (by decide) f0_57))) a2 a1 rfl rfl rfl rfl rfl rfl rfl rfl rfl rfl (by omega) (by omega) (by omega) (by omega) (by omega)) gq_c_X12_party_c_X12_partyPays_433 rfl rfl rfl 7 (by decide +kernel) ⟨Nat.le_of_ble_eq_true rfl, Nat.le_of_ble_eq_true rfl⟩ rfl (by decide) rfl rfl rfl (Nat.le_of_ble_eq_true rfl) dX12_party_139 ⟨Nat.le_of_ble_eq_true rfl, Nat.le_of_ble_eq_true rfl⟩ (fun r_139_217 nw_139_215 l_139_216 H locs hw hO => ?_)
                                              rcases hw with hw | hw | hw | hw
                                              · obtain ⟨c1_139_218, c2_139_219, c3_139_220, tt_139_221, cd_139_222, hS_139_223, hZ_139_224, h_139_225, h_139_226, rfl, rfl⟩ := hw
                                                exact absurd h_139_226 h_139_189
                                              · obtain ⟨c1_139_227, c2_139_228, c3_139_229, tt_139_230, cd_139_231, hS_139_232, hZ_139_233, h_139_234, h_139_235, rfl, rfl⟩ := hw
                                                have hO : cO D cy A s.heap s 14 ad (cup [(0, .inr (12, ((((((f0.set 62 (.int 0)).set 56 (.int 1)).set 57 (.int 10000)).set 56 (.int 0)).set 57 (.int 10000)).set 56 (.int 1)))), (6, .inl (cy 0, 30, .inl tt_139_230)), (9, .inl (cy 0, 5, .inl (fun _ => 0))), (10, .inl (cy 0, 5, .inl (fun _ => 0))), (12, .inl (cy 2, 5, .inl (fun _ => 0))), (7, .inl (cy 0, 120, .inl (fun _ => 0))), (8, .inl (cy 0, 120, .inl cd_139_231)), (3, .inl (cy 0, 30, .inl c1_139_227)), (4, .inl (cy 0, 30, .inl c2_139_228)), (11, .inl (cy 2, 30, .inl c3_139_229)), (5, .inl (cy 0, 5, .inl (fun _ => 0))), (13, .inl (cy 0, 24, .inl (fun _ => 0)))] g) _ _ := hO
                                                refine lv_istore (lv' := [(10, .int (nI ((x5_n * ((o + 0) + z)) + 0))), (9, .int (nI z)), (8, .int (nI y)), (7, .int (nI o)), (6, .int (nI bb)), (0, .ref (ad 0)), (1, .int (nI x1_n)), (2, .int x2), (3, .int x3), (4, .int (nI x4_n)), (5, .int (nI x5_n))]) hx hb dX12_party_142 hl (by decide) rfl (fun ls hl => ?_)
                                                refine lv_iload hx hb dX12_party_144 (lv_at hl 4 rfl) ?_
                                                refine lv_if_lt (tgt := 159) hx hb dX12_party_146 (by decide) (fun h => (show False from by have z := (nI_ltI (a := bb) (b := 0) (by omega) (by omega)).mp h; omega).elim) (fun _ => ?_)
                                                refine lv_iload hx hb dX12_party_149 (lv_at hl 0 rfl) ?_
                                                refine lv_iload hx hb dX12_party_151 (lv_at hl 4 rfl) ?_
                                                refine lv_icmp_lt (tgt := 159) hx hb dX12_party_153 (by decide) (fun h => (show False from by have z := (nI_ltI (a := ((x5_n * ((o + 0) + z)) + 0)) (b := bb) (by omega) (by omega)).mp h; omega).elim) (fun _ => ?_)
                                                refine lv_goto (tgt := 187) hx hb dX12_party_156 (by decide) ?_
                                                refine lv_iinc (v := (nI (z + 1))) (lv' := [(9, .int (nI (z + 1))), (10, .int (nI ((x5_n * ((o + 0) + z)) + 0))), (8, .int (nI y)), (7, .int (nI o)), (6, .int (nI bb)), (0, .ref (ad 0)), (1, .int (nI x1_n)), (2, .int x2), (3, .int x3), (4, .int (nI x4_n)), (5, .int (nI x5_n))]) hx hb dX12_party_187 hl (k := 1) rfl (nI_add z 1) (by decide) rfl (fun ls hl => ?_)
                                                refine lv_goto (tgt := 110) hx hb dX12_party_190 (by decide) ?_
                                                simp only [List.set_set, st_can] at hO
                                                have hO : cO D cy A s.heap s 14 ad (cup [(0, .inr (12, (((f0.set 62 (.int 0)).set 56 (.int 1)).set 57 (.int 10000)))), (6, .inl (cy 0, 30, .inl tt_139_230)), (9, .inl (cy 0, 5, .inl (fun _ => 0))), (10, .inl (cy 0, 5, .inl (fun _ => 0))), (12, .inl (cy 2, 5, .inl (fun _ => 0))), (7, .inl (cy 0, 120, .inl (fun _ => 0))), (8, .inl (cy 0, 120, .inl cd_139_231)), (3, .inl (cy 0, 30, .inl c1_139_227)), (4, .inl (cy 0, 30, .inl c2_139_228)), (11, .inl (cy 2, 30, .inl c3_139_229)), (5, .inl (cy 0, 5, .inl (fun _ => 0))), (13, .inl (cy 0, 24, .inl (fun _ => 0)))] g) _ _ := hO
                                                exact ih_110_213 (z + 1) bb c1_139_227 c2_139_228 c3_139_229 tt_139_230 cd_139_231 (by omega) hbb (by omega) _ _ hO ls (lv_sub hl [0, 2, 3, 4, 5, 6, 7, 8, 9, 10] rfl)
                                              · obtain ⟨c1_139_236, c2_139_237, c3_139_238, tt_139_239, cd_139_240, hS_139_241, hZ_139_242, h_139_243, h_139_244, rfl, rfl⟩ := hw
                                                exact absurd h_93_21 h_139_243
                                              · obtain ⟨c1_139_245, c2_139_246, c3_139_247, tt_139_248, cd_139_249, hS_139_250, hZ_139_251, h_139_252, h_139_253, rfl, rfl⟩ := hw
                                                exact absurd h_93_21 h_139_252
                                        exact loop_110_210 ((x4_n + 1) + 1) y bm t3 t4 t11 t6 t8 (by omega) hbm (by omega) _ _ hO ls (lv_sub hl [0, 1, 2, 3, 4, 5, 6, 7, 8, 9] rfl)
                                  exact loop_89_205 ((o + 1) + 1) o bo u3 u4 u11 u6 u8 (by omega) hbo (by omega) _ _ hO ls (lv_sub hl [0, 1, 2, 3, 4, 5, 6, 7, 8] rfl)
                            exact loop_78_200 ((x4_n + 1) + 1) 1 bm t3 t4 t11 t6 t8 (by omega) hbm (by omega) _ _ hO ls (lv_sub hl [0, 2, 3, 4, 5, 6, 7, 8] rfl)
                          · have nh_103_199 : ¬ 0 < y := fun z => h_103_199 ((nI_ltI (a := 0) (b := y) (by omega) (by omega)).mpr z)
                            refine lv_iload hx hb dX12_party_106 (lv_at hl 0 rfl) ?_
                            refine lv_istore (lv' := [(9, .int (nI y)), (8, .int (nI y)), (6, .int (nI bm)), (7, .int 0), (0, .ref (ad 0)), (1, .int (nI x1_n)), (2, .int x2), (3, .int x3), (4, .int (nI x4_n)), (5, .int (nI x5_n))]) hx hb dX12_party_108 hl (by decide) rfl (fun ls hl => ?_)
                            have hO : cO D cy A s.heap s 14 ad (cup [(0, .inr (12, (((f0.set 62 (.int 0)).set 56 (.int 1)).set 57 (.int 10000)))), (6, .inl (cy 0, 30, .inl t6)), (9, .inl (cy 0, 5, .inl (fun _ => 0))), (10, .inl (cy 0, 5, .inl (fun _ => 0))), (12, .inl (cy 2, 5, .inl (fun _ => 0))), (7, .inl (cy 0, 120, .inl (fun _ => 0))), (8, .inl (cy 0, 120, .inl t8)), (3, .inl (cy 0, 30, .inl t3)), (4, .inl (cy 0, 30, .inl t4)), (11, .inl (cy 2, 30, .inl t11)), (5, .inl (cy 0, 5, .inl (fun _ => 0))), (13, .inl (cy 0, 24, .inl (fun _ => 0)))] g) _ _ := hO
                            have loop_110_254 : ∀ (d_110_255 : Nat) (z : Nat) (bb : Nat) (r3 : Nat → Int32) (r4 : Nat → Int32) (r11 : Nat → Int32) (r6 : Nat → Int32) (r8 : Nat → Int32), (z ≤ x4_n + 1) → (bb = 0) → x4_n + 1 - z < d_110_255 → ∀ (H : Heap) (locs : List Loc), cO D cy A s.heap s 14 ad (cup [(0, .inr (12, (((f0.set 62 (.int 0)).set 56 (.int 1)).set 57 (.int 10000)))), (6, .inl (cy 0, 30, .inl r6)), (9, .inl (cy 0, 5, .inl (fun _ => 0))), (10, .inl (cy 0, 5, .inl (fun _ => 0))), (12, .inl (cy 2, 5, .inl (fun _ => 0))), (7, .inl (cy 0, 120, .inl (fun _ => 0))), (8, .inl (cy 0, 120, .inl r8)), (3, .inl (cy 0, 30, .inl r3)), (4, .inl (cy 0, 30, .inl r4)), (11, .inl (cy 2, 30, .inl r11)), (5, .inl (cy 0, 5, .inl (fun _ => 0))), (13, .inl (cy 0, 24, .inl (fun _ => 0)))] g) H locs → ∀ ls : Array Slot, lv_has ls 11 [(9, .int (nI z)), (8, .int (nI y)), (6, .int (nI bb)), (7, .int 0), (0, .ref (ad 0)), (1, .int (nI x1_n)), (2, .int x2), (3, .int x3), (4, .int (nI x4_n)), (5, .int (nI x5_n))] → W p l e { frames := 4, cells := 0, slots := 0, locals := 93 } s m [.ref (ad 0), .int x1, .int x2, .int x3, .int x4, .int x5].toArray below meth c H locs 0 0 (MQ below (cQi (fun r nw lu => r = ans_party x1 x2 x3 x4 x5) D 14 0 ad g A) [.ref (ad 0), .int x1, .int x2, .int x3, .int x4, .int x5].toArray s 0 0 A) (F0 m 110 ls []) := by
                              intro d_110_255
                              induction d_110_255 with
                              | zero => intro z bb r3 r4 r11 r6 r8 hz hbb mu_110_256; exact absurd mu_110_256 (Nat.not_lt_zero _)
                              | succ d_110_255 ih_110_257 =>
                                intro z bb r3 r4 r11 r6 r8 hz hbb mu_110_256 H locs hO ls hl
                                refine lv_iload hx hb dX12_party_110 (lv_at hl 0 rfl) ?_
                                refine lv_iload_n hx hb dX12_party_112 rfl (lv_at hl 5 rfl) ?_
                                refine lv_iconst (v := 2) hx hb dX12_party_113 (by decide) ?_
                                refine lv_icmp_le (tgt := 122) hx hb dX12_party_114 (by decide) (fun _ => ?_) (fun h => (show False from by have z : ¬ x1_n ≤ 2 := fun q => h ((nI_leI (a := x1_n) (b := 2) (by omega) (by omega)).mpr q); omega).elim)
                                refine lv_iload hx hb dX12_party_122 (lv_at hl 1 rfl) ?_
                                refine lv_icmp_gt (tgt := 193) hx hb dX12_party_124 (by decide) (fun h_124_258 => ?_) (fun h_124_258 => ?_)
                                · have nh_124_258 : y < z := (nI_ltI (by omega) (by omega)).mp h_124_258
                                  refine lv_iinc (v := (nI (y + 1))) (lv' := [(8, .int (nI (y + 1))), (9, .int (nI z)), (6, .int (nI bb)), (7, .int 0), (0, .ref (ad 0)), (1, .int (nI x1_n)), (2, .int x2), (3, .int x3), (4, .int (nI x4_n)), (5, .int (nI x5_n))]) hx hb dX12_party_193 hl (k := 1) rfl (nI_add y 1) (by decide) rfl (fun ls hl => ?_)
                                  refine lv_goto (tgt := 89) hx hb dX12_party_196 (by decide) ?_
                                  have hO : cO D cy A s.heap s 14 ad (cup [(0, .inr (12, (((f0.set 62 (.int 0)).set 56 (.int 1)).set 57 (.int 10000)))), (6, .inl (cy 0, 30, .inl r6)), (9, .inl (cy 0, 5, .inl (fun _ => 0))), (10, .inl (cy 0, 5, .inl (fun _ => 0))), (12, .inl (cy 2, 5, .inl (fun _ => 0))), (7, .inl (cy 0, 120, .inl (fun _ => 0))), (8, .inl (cy 0, 120, .inl r8)), (3, .inl (cy 0, 30, .inl r3)), (4, .inl (cy 0, 30, .inl r4)), (11, .inl (cy 2, 30, .inl r11)), (5, .inl (cy 0, 5, .inl (fun _ => 0))), (13, .inl (cy 0, 24, .inl (fun _ => 0)))] g) _ _ := hO
                                  exact ih_89_198 (y + 1) bb r3 r4 r11 r6 r8 (by omega) hbb (by omega) _ _ hO ls (lv_sub hl [0, 2, 3, 4, 5, 6, 7, 8, 9] rfl)
                                · have nh_124_258 : ¬ y < z := fun z => h_124_258 ((nI_ltI (by omega) (by omega)).mpr z)
                                  refine lv_aload_n hx hb dX12_party_127 rfl (lv_at hl 4 rfl) ?_
                                  refine lv_iload_n hx hb dX12_party_128 rfl (lv_at hl 5 rfl) ?_
                                  refine lv_iload_n hx hb dX12_party_129 rfl (lv_at hl 6 rfl) ?_
                                  refine lv_iload_n hx hb dX12_party_130 rfl (lv_at hl 7 rfl) ?_
                                  refine lv_iload hx hb dX12_party_131 (lv_at hl 9 rfl) ?_
                                  refine lv_iload hx hb dX12_party_133 (lv_at hl 3 rfl) ?_
                                  refine lv_iload hx hb dX12_party_135 (lv_at hl 1 rfl) ?_
                                  refine lv_iload hx hb dX12_party_137 (lv_at hl 0 rfl) ?_
                                  refine cg_Vi (As := [.int (nI x1_n), .int x2, .int x3, .int (nI x5_n), .int 0, .int (nI y), .int (nI z)]) (rest := []) (mc := 0) (ms := 0) (rm := { frames := 3, cells := 0, slots := 0, locals := 63 }) hC hl.1 hO [0, 2, 1, 5, 3, 4, 11, 6, 7, 8, 9, 10, 12] rfl (c_X12_partyPays l D cy _ _ (f0 := (((f0.set 62 (.int 0)).set 56 (.int 1)).set 57 (.int 10000))) (c4 := r3) (c5 := r4) (c7 := r6) (c9 := r8) (c6 := r11) (xm := 1) (xl := 10000) (n := x1_n) (s1 := x2) (mi := x3) (la := x5_n) (o1 := 0) (o2 := y) (o3 := z) rfl (fs_ne (by decide) (fs_ne (by decide) (fs_ne (by decide) f0_12))) (fs_ne (by decide) (fs_ne (by decide) (fs_ne (by decide) f0_36))) (fs_ne (by decide) (fs_ne (by decide) (fs_ne (by decide) f0_41))) (fs_ne (by decide) (fs_ne (by decide) (fs_ne (by decide) f0_42))) (fs_ne (by decide) (fs_ne (by decide) (fs_ne (by decide) f0_43))) (fs_ne (by decide) (fs_ne (by decide) (fs_ne (by decide) f0_44))) (fs_ne (by decide) (fs_ne (by decide) (fs_ne (by decide) f0_47))) (fs_ne (by decide) (fs_ne (by decide) (fs_ne (by decide) f0_48))) (fs_ne (by decide) (fs_ne (by decide) (fs_ne (by decide) f0_49))) (fs_ne (by decide) (fs_ne (by decide) (fs_ne (by decide) f0_50))) (fs_ne (by decide) (fs_ne (by decide) (fs_ne (by decide) f0_53))) (fs_ne (by decide) (fs_ne (by decide) (fs_ne (by decide) f0_54))) (fs_ne (by decide) (fs_ne (by decide) (fs_ne (by decide) f0_55))) (fs_ne (by decide) (fs_eq (fs_ne (by decide) f0_56))) (fs_eq (fs_ne (by decide) (fs_ne (by decide) f0_57))) a2 a1 rfl rfl rfl rfl rfl rfl rfl rfl rfl rfl (by omega) (by omega) (by omega) (by omega) (by omega)) gq_c_X12_party_c_X12_partyPays_433 rfl rfl rfl 7 (by decide +kernel) ⟨Nat.le_of_ble_eq_true rfl, Nat.le_of_ble_eq_true rfl⟩ rfl (by decide) rfl rfl rfl (Nat.le_of_ble_eq_true rfl) dX12_party_139 ⟨Nat.le_of_ble_eq_true rfl, Nat.le_of_ble_eq_true rfl⟩ (fun r_139_261 nw_139_259 l_139_260 H locs hw hO => ?_)
                                  rcases hw with hw | hw | hw | hw
                                  · obtain ⟨c1_139_262, c2_139_263, c3_139_264, tt_139_265, cd_139_266, hS_139_267, hZ_139_268, h_139_269, h_139_270, rfl, rfl⟩ := hw
                                    exact absurd h_139_270 h_139_189
                                  · obtain ⟨c1_139_271, c2_139_272, c3_139_273, tt_139_274, cd_139_275, hS_139_276, hZ_139_277, h_139_278, h_139_279, rfl, rfl⟩ := hw
                                    have hO : cO D cy A s.heap s 14 ad (cup [(0, .inr (12, ((((((f0.set 62 (.int 0)).set 56 (.int 1)).set 57 (.int 10000)).set 56 (.int 0)).set 57 (.int 10000)).set 56 (.int 1)))), (6, .inl (cy 0, 30, .inl tt_139_274)), (9, .inl (cy 0, 5, .inl (fun _ => 0))), (10, .inl (cy 0, 5, .inl (fun _ => 0))), (12, .inl (cy 2, 5, .inl (fun _ => 0))), (7, .inl (cy 0, 120, .inl (fun _ => 0))), (8, .inl (cy 0, 120, .inl cd_139_275)), (3, .inl (cy 0, 30, .inl c1_139_271)), (4, .inl (cy 0, 30, .inl c2_139_272)), (11, .inl (cy 2, 30, .inl c3_139_273)), (5, .inl (cy 0, 5, .inl (fun _ => 0))), (13, .inl (cy 0, 24, .inl (fun _ => 0)))] g) _ _ := hO
                                    refine lv_istore (lv' := [(10, .int (nI ((x5_n * ((0 + 0) + z)) + 0))), (9, .int (nI z)), (8, .int (nI y)), (6, .int (nI bb)), (7, .int 0), (0, .ref (ad 0)), (1, .int (nI x1_n)), (2, .int x2), (3, .int x3), (4, .int (nI x4_n)), (5, .int (nI x5_n))]) hx hb dX12_party_142 hl (by decide) rfl (fun ls hl => ?_)
                                    refine lv_iload hx hb dX12_party_144 (lv_at hl 3 rfl) ?_
                                    refine lv_if_lt (tgt := 159) hx hb dX12_party_146 (by decide) (fun h => (show False from by have z := (nI_ltI (a := bb) (b := 0) (by omega) (by omega)).mp h; omega).elim) (fun _ => ?_)
                                    refine lv_iload hx hb dX12_party_149 (lv_at hl 0 rfl) ?_
                                    refine lv_iload hx hb dX12_party_151 (lv_at hl 3 rfl) ?_
                                    refine lv_icmp_lt (tgt := 159) hx hb dX12_party_153 (by decide) (fun h => (show False from by have z := (nI_ltI (a := ((x5_n * ((0 + 0) + z)) + 0)) (b := bb) (by omega) (by omega)).mp h; omega).elim) (fun _ => ?_)
                                    refine lv_goto (tgt := 187) hx hb dX12_party_156 (by decide) ?_
                                    refine lv_iinc (v := (nI (z + 1))) (lv' := [(9, .int (nI (z + 1))), (10, .int (nI ((x5_n * ((0 + 0) + z)) + 0))), (8, .int (nI y)), (6, .int (nI bb)), (7, .int 0), (0, .ref (ad 0)), (1, .int (nI x1_n)), (2, .int x2), (3, .int x3), (4, .int (nI x4_n)), (5, .int (nI x5_n))]) hx hb dX12_party_187 hl (k := 1) rfl (nI_add z 1) (by decide) rfl (fun ls hl => ?_)
                                    refine lv_goto (tgt := 110) hx hb dX12_party_190 (by decide) ?_
                                    simp only [List.set_set, st_can] at hO
                                    have hO : cO D cy A s.heap s 14 ad (cup [(0, .inr (12, (((f0.set 62 (.int 0)).set 56 (.int 1)).set 57 (.int 10000)))), (6, .inl (cy 0, 30, .inl tt_139_274)), (9, .inl (cy 0, 5, .inl (fun _ => 0))), (10, .inl (cy 0, 5, .inl (fun _ => 0))), (12, .inl (cy 2, 5, .inl (fun _ => 0))), (7, .inl (cy 0, 120, .inl (fun _ => 0))), (8, .inl (cy 0, 120, .inl cd_139_275)), (3, .inl (cy 0, 30, .inl c1_139_271)), (4, .inl (cy 0, 30, .inl c2_139_272)), (11, .inl (cy 2, 30, .inl c3_139_273)), (5, .inl (cy 0, 5, .inl (fun _ => 0))), (13, .inl (cy 0, 24, .inl (fun _ => 0)))] g) _ _ := hO
                                    exact ih_110_257 (z + 1) bb c1_139_271 c2_139_272 c3_139_273 tt_139_274 cd_139_275 (by omega) hbb (by omega) _ _ hO ls (lv_sub hl [0, 2, 3, 4, 5, 6, 7, 8, 9, 10] rfl)
                                  · obtain ⟨c1_139_280, c2_139_281, c3_139_282, tt_139_283, cd_139_284, hS_139_285, hZ_139_286, h_139_287, h_139_288, rfl, rfl⟩ := hw
                                    exact absurd h_93_21 h_139_287
                                  · obtain ⟨c1_139_289, c2_139_290, c3_139_291, tt_139_292, cd_139_293, hS_139_294, hZ_139_295, h_139_296, h_139_297, rfl, rfl⟩ := hw
                                    exact absurd h_93_21 h_139_296
                            exact loop_110_254 ((x4_n + 1) + 1) y bm t3 t4 t11 t6 t8 (by omega) hbm (by omega) _ _ hO ls (lv_sub hl [0, 1, 2, 3, 4, 5, 6, 7, 8, 9] rfl)
                      exact loop_89_195 ((0 + 1) + 1) 1 bb r3 r4 r11 r6 r8 (by omega) hbb (by omega) _ _ hO ls (lv_sub hl [0, 2, 3, 4, 5, 6, 7, 8, 9] rfl)
                    · have nh_124_194 : ¬ 0 < z := fun z => h_124_194 ((nI_ltI (a := 0) (b := z) (by omega) (by omega)).mpr z)
                      refine lv_aload_n hx hb dX12_party_127 rfl (lv_at hl 4 rfl) ?_
                      refine lv_iload_n hx hb dX12_party_128 rfl (lv_at hl 5 rfl) ?_
                      refine lv_iload_n hx hb dX12_party_129 rfl (lv_at hl 6 rfl) ?_
                      refine lv_iload_n hx hb dX12_party_130 rfl (lv_at hl 7 rfl) ?_
                      refine lv_iload hx hb dX12_party_131 (lv_at hl 9 rfl) ?_
                      refine lv_iload hx hb dX12_party_133 (lv_at hl 3 rfl) ?_
                      refine lv_iload hx hb dX12_party_135 (lv_at hl 2 rfl) ?_
                      refine lv_iload hx hb dX12_party_137 (lv_at hl 0 rfl) ?_
                      refine cg_Vi (As := [.int (nI x1_n), .int x2, .int x3, .int (nI x5_n), .int 0, .int 0, .int (nI z)]) (rest := []) (mc := 0) (ms := 0) (rm := { frames := 3, cells := 0, slots := 0, locals := 63 }) hC hl.1 hO [0, 2, 1, 5, 3, 4, 11, 6, 7, 8, 9, 10, 12] rfl (c_X12_partyPays l D cy _ _ (f0 := (((f0.set 62 (.int 0)).set 56 (.int 1)).set 57 (.int 10000))) (c4 := r3) (c5 := r4) (c7 := r6) (c9 := r8) (c6 := r11) (xm := 1) (xl := 10000) (n := x1_n) (s1 := x2) (mi := x3) (la := x5_n) (o1 := 0) (o2 := 0) (o3 := z) rfl (fs_ne (by decide) (fs_ne (by decide) (fs_ne (by decide) f0_12))) (fs_ne (by decide) (fs_ne (by decide) (fs_ne (by decide) f0_36))) (fs_ne (by decide) (fs_ne (by decide) (fs_ne (by decide) f0_41))) (fs_ne (by decide) (fs_ne (by decide) (fs_ne (by decide) f0_42))) (fs_ne (by decide) (fs_ne (by decide) (fs_ne (by decide) f0_43))) (fs_ne (by decide) (fs_ne (by decide) (fs_ne (by decide) f0_44))) (fs_ne (by decide) (fs_ne (by decide) (fs_ne (by decide) f0_47))) (fs_ne (by decide) (fs_ne (by decide) (fs_ne (by decide) f0_48))) (fs_ne (by decide) (fs_ne (by decide) (fs_ne (by decide) f0_49))) (fs_ne (by decide) (fs_ne (by decide) (fs_ne (by decide) f0_50))) (fs_ne (by decide) (fs_ne (by decide) (fs_ne (by decide) f0_53))) (fs_ne (by decide) (fs_ne (by decide) (fs_ne (by decide) f0_54))) (fs_ne (by decide) (fs_ne (by decide) (fs_ne (by decide) f0_55))) (fs_ne (by decide) (fs_eq (fs_ne (by decide) f0_56))) (fs_eq (fs_ne (by decide) (fs_ne (by decide) f0_57))) a2 a1 rfl rfl rfl rfl rfl rfl rfl rfl rfl rfl (by omega) (by omega) (by omega) (by omega) (by omega)) gq_c_X12_party_c_X12_partyPays_433 rfl rfl rfl 7 (by decide +kernel) ⟨Nat.le_of_ble_eq_true rfl, Nat.le_of_ble_eq_true rfl⟩ rfl (by decide) rfl rfl rfl (Nat.le_of_ble_eq_true rfl) dX12_party_139 ⟨Nat.le_of_ble_eq_true rfl, Nat.le_of_ble_eq_true rfl⟩ (fun r_139_300 nw_139_298 l_139_299 H locs hw hO => ?_)
                      rcases hw with hw | hw | hw | hw
                      · obtain ⟨c1_139_301, c2_139_302, c3_139_303, tt_139_304, cd_139_305, hS_139_306, hZ_139_307, h_139_308, h_139_309, rfl, rfl⟩ := hw
                        exact absurd h_139_309 h_139_189
                      · obtain ⟨c1_139_310, c2_139_311, c3_139_312, tt_139_313, cd_139_314, hS_139_315, hZ_139_316, h_139_317, h_139_318, rfl, rfl⟩ := hw
                        have hO : cO D cy A s.heap s 14 ad (cup [(0, .inr (12, ((((((f0.set 62 (.int 0)).set 56 (.int 1)).set 57 (.int 10000)).set 56 (.int 0)).set 57 (.int 10000)).set 56 (.int 1)))), (6, .inl (cy 0, 30, .inl tt_139_313)), (9, .inl (cy 0, 5, .inl (fun _ => 0))), (10, .inl (cy 0, 5, .inl (fun _ => 0))), (12, .inl (cy 2, 5, .inl (fun _ => 0))), (7, .inl (cy 0, 120, .inl (fun _ => 0))), (8, .inl (cy 0, 120, .inl cd_139_314)), (3, .inl (cy 0, 30, .inl c1_139_310)), (4, .inl (cy 0, 30, .inl c2_139_311)), (11, .inl (cy 2, 30, .inl c3_139_312)), (5, .inl (cy 0, 5, .inl (fun _ => 0))), (13, .inl (cy 0, 24, .inl (fun _ => 0)))] g) _ _ := hO
                        refine lv_istore (lv' := [(10, .int (nI ((x5_n * ((0 + 0) + z)) + 0))), (9, .int (nI z)), (6, .int (nI bb)), (8, .int 0), (7, .int 0), (0, .ref (ad 0)), (1, .int (nI x1_n)), (2, .int x2), (3, .int x3), (4, .int (nI x4_n)), (5, .int (nI x5_n))]) hx hb dX12_party_142 hl (by decide) rfl (fun ls hl => ?_)
                        refine lv_iload hx hb dX12_party_144 (lv_at hl 2 rfl) ?_
                        refine lv_if_lt (tgt := 159) hx hb dX12_party_146 (by decide) (fun h => (show False from by have z := (nI_ltI (a := bb) (b := 0) (by omega) (by omega)).mp h; omega).elim) (fun _ => ?_)
                        refine lv_iload hx hb dX12_party_149 (lv_at hl 0 rfl) ?_
                        refine lv_iload hx hb dX12_party_151 (lv_at hl 2 rfl) ?_
                        refine lv_icmp_lt (tgt := 159) hx hb dX12_party_153 (by decide) (fun h => (show False from by have z := (nI_ltI (a := ((x5_n * ((0 + 0) + z)) + 0)) (b := bb) (by omega) (by omega)).mp h; omega).elim) (fun _ => ?_)
                        refine lv_goto (tgt := 187) hx hb dX12_party_156 (by decide) ?_
                        refine lv_iinc (v := (nI (z + 1))) (lv' := [(9, .int (nI (z + 1))), (10, .int (nI ((x5_n * ((0 + 0) + z)) + 0))), (6, .int (nI bb)), (8, .int 0), (7, .int 0), (0, .ref (ad 0)), (1, .int (nI x1_n)), (2, .int x2), (3, .int x3), (4, .int (nI x4_n)), (5, .int (nI x5_n))]) hx hb dX12_party_187 hl (k := 1) rfl (nI_add z 1) (by decide) rfl (fun ls hl => ?_)
                        refine lv_goto (tgt := 110) hx hb dX12_party_190 (by decide) ?_
                        simp only [List.set_set, st_can] at hO
                        have hO : cO D cy A s.heap s 14 ad (cup [(0, .inr (12, (((f0.set 62 (.int 0)).set 56 (.int 1)).set 57 (.int 10000)))), (6, .inl (cy 0, 30, .inl tt_139_313)), (9, .inl (cy 0, 5, .inl (fun _ => 0))), (10, .inl (cy 0, 5, .inl (fun _ => 0))), (12, .inl (cy 2, 5, .inl (fun _ => 0))), (7, .inl (cy 0, 120, .inl (fun _ => 0))), (8, .inl (cy 0, 120, .inl cd_139_314)), (3, .inl (cy 0, 30, .inl c1_139_310)), (4, .inl (cy 0, 30, .inl c2_139_311)), (11, .inl (cy 2, 30, .inl c3_139_312)), (5, .inl (cy 0, 5, .inl (fun _ => 0))), (13, .inl (cy 0, 24, .inl (fun _ => 0)))] g) _ _ := hO
                        exact ih_110_193 (z + 1) bb c1_139_310 c2_139_311 c3_139_312 tt_139_313 cd_139_314 (by omega) hbb (by omega) _ _ hO ls (lv_sub hl [0, 2, 3, 4, 5, 6, 7, 8, 9, 10] rfl)
                      · obtain ⟨c1_139_319, c2_139_320, c3_139_321, tt_139_322, cd_139_323, hS_139_324, hZ_139_325, h_139_326, h_139_327, rfl, rfl⟩ := hw
                        exact absurd h_93_21 h_139_326
                      · obtain ⟨c1_139_328, c2_139_329, c3_139_330, tt_139_331, cd_139_332, hS_139_333, hZ_139_334, h_139_335, h_139_336, rfl, rfl⟩ := hw
                        exact absurd h_93_21 h_139_335
                exact loop_110_190 ((x4_n + 1) + 1) 1 ((x5_n * ((0 + 0) + 0)) + 0) c1_139_181 c2_139_182 c3_139_183 tt_139_184 cd_139_185 (by omega) (hZ_139_187 rfl) (by omega) _ _ hO ls (lv_sub hl [0, 1, 3, 4, 5, 6, 7, 8, 9, 10] rfl)
              · obtain ⟨c1_139_337, c2_139_338, c3_139_339, tt_139_340, cd_139_341, hS_139_342, hZ_139_343, h_139_344, h_139_345, rfl, rfl⟩ := hw
                exact absurd h_93_21 h_139_344
              · obtain ⟨c1_139_346, c2_139_347, c3_139_348, tt_139_349, cd_139_350, hS_139_351, hZ_139_352, h_139_353, h_139_354, rfl, rfl⟩ := hw
                exact absurd h_93_21 h_139_353
            · have nh_93_21 : ¬ x1_n ≤ 1 := fun z => h_93_21 ((nI_leI (a := x1_n) (b := 1) (by omega) (by omega)).mpr z)
              refine lv_iload hx hb dX12_party_96 (lv_at hl 7 rfl) ?_
              refine lv_goto (tgt := 103) hx hb dX12_party_98 (by decide) ?_
              refine lv_icmp_gt (tgt := 199) hx hb dX12_party_103 (by decide) (fun h => (show False from by have z := (nI_ltI (a := x4_n) (b := 0) (by omega) (by omega)).mp h; omega).elim) (fun _ => ?_)
              refine lv_iload hx hb dX12_party_106 (lv_at hl 0 rfl) ?_
              refine lv_istore (lv' := [(9, .int 0), (8, .int 0), (7, .int 0), (6, .int (-1)), (0, .ref (ad 0)), (1, .int (nI x1_n)), (2, .int x2), (3, .int x3), (4, .int (nI x4_n)), (5, .int (nI x5_n))]) hx hb dX12_party_108 hl (by decide) rfl (fun ls hl => ?_)
              refine lv_iload hx hb dX12_party_110 (lv_at hl 0 rfl) ?_
              refine lv_iload_n hx hb dX12_party_112 rfl (lv_at hl 5 rfl) ?_
              refine lv_iconst (v := 2) hx hb dX12_party_113 (by decide) ?_
              refine lv_icmp_le (tgt := 122) hx hb dX12_party_114 (by decide) (fun h_114_355 => ?_) (fun h_114_355 => ?_)
              · have nh_114_355 : x1_n ≤ 2 := (nI_leI (a := x1_n) (b := 2) (by omega) (by omega)).mp h_114_355
                refine lv_iload hx hb dX12_party_122 (lv_at hl 1 rfl) ?_
                refine lv_icmp_gt (tgt := 193) hx hb dX12_party_124 (by decide) (fun h => absurd h (by decide)) (fun _ => ?_)
                refine lv_aload_n hx hb dX12_party_127 rfl (lv_at hl 4 rfl) ?_
                refine lv_iload_n hx hb dX12_party_128 rfl (lv_at hl 5 rfl) ?_
                refine lv_iload_n hx hb dX12_party_129 rfl (lv_at hl 6 rfl) ?_
                refine lv_iload_n hx hb dX12_party_130 rfl (lv_at hl 7 rfl) ?_
                refine lv_iload hx hb dX12_party_131 (lv_at hl 9 rfl) ?_
                refine lv_iload hx hb dX12_party_133 (lv_at hl 2 rfl) ?_
                refine lv_iload hx hb dX12_party_135 (lv_at hl 1 rfl) ?_
                refine lv_iload hx hb dX12_party_137 (lv_at hl 0 rfl) ?_
                refine cg_Vi (As := [.int (nI x1_n), .int x2, .int x3, .int (nI x5_n), .int 0, .int 0, .int 0]) (rest := []) (mc := 0) (ms := 0) (rm := { frames := 3, cells := 0, slots := 0, locals := 63 }) hC hl.1 hO [0, 2, 1, 5, 3, 4, 11, 6, 7, 8, 9, 10, 12] rfl (c_X12_partyPays l D cy _ _ (f0 := (f0.set 62 (.int 0))) (c4 := c3) (c5 := c4) (c7 := c6) (c9 := c8) (c6 := c11) (xm := 0) (xl := 0) (n := x1_n) (s1 := x2) (mi := x3) (la := x5_n) (o1 := 0) (o2 := 0) (o3 := 0) rfl (fs_ne (by decide) f0_12) (fs_ne (by decide) f0_36) (fs_ne (by decide) f0_41) (fs_ne (by decide) f0_42) (fs_ne (by decide) f0_43) (fs_ne (by decide) f0_44) (fs_ne (by decide) f0_47) (fs_ne (by decide) f0_48) (fs_ne (by decide) f0_49) (fs_ne (by decide) f0_50) (fs_ne (by decide) f0_53) (fs_ne (by decide) f0_54) (fs_ne (by decide) f0_55) (fs_ne (by decide) f0_56) (fs_ne (by decide) f0_57) a2 a1 a5 a3 a4 a11 a6 a7 a8 a9 a10 a12 (by omega) (by omega) (by omega) (by omega) (by omega)) gq_c_X12_party_c_X12_partyPays_433 rfl rfl rfl 7 (by decide +kernel) ⟨Nat.le_of_ble_eq_true rfl, Nat.le_of_ble_eq_true rfl⟩ rfl (by decide) rfl rfl rfl (Nat.le_of_ble_eq_true rfl) dX12_party_139 ⟨Nat.le_of_ble_eq_true rfl, Nat.le_of_ble_eq_true rfl⟩ (fun r_139_358 nw_139_356 l_139_357 H locs hw hO => ?_)
                rcases hw with hw | hw | hw | hw
                · obtain ⟨c1_139_359, c2_139_360, c3_139_361, tt_139_362, cd_139_363, hS_139_364, hZ_139_365, h_139_366, h_139_367, rfl, rfl⟩ := hw
                  exact absurd h_139_366 h_93_21
                · obtain ⟨c1_139_368, c2_139_369, c3_139_370, tt_139_371, cd_139_372, hS_139_373, hZ_139_374, h_139_375, h_139_376, rfl, rfl⟩ := hw
                  exact absurd h_139_375 h_93_21
                · obtain ⟨c1_139_377, c2_139_378, c3_139_379, tt_139_380, cd_139_381, hS_139_382, hZ_139_383, h_139_384, h_139_385, rfl, rfl⟩ := hw
                  have hO : cO D cy A s.heap s 14 ad (cup [(0, .inr (12, (((((f0.set 62 (.int 0)).set 56 (.int 0)).set 57 (.int 10000)).set 56 (.int 1)).set 56 (.int 2)))), (6, .inl (cy 0, 30, .inl tt_139_380)), (9, .inl (cy 0, 5, .inl (fun _ => 0))), (10, .inl (cy 0, 5, .inl (fun _ => 0))), (12, .inl (cy 2, 5, .inl (fun _ => 0))), (7, .inl (cy 0, 120, .inl (fun _ => 0))), (8, .inl (cy 0, 120, .inl cd_139_381)), (3, .inl (cy 0, 30, .inl c1_139_377)), (4, .inl (cy 0, 30, .inl c2_139_378)), (11, .inl (cy 2, 30, .inl c3_139_379)), (5, .inl (cy 0, 5, .inl (fun _ => 0)))] g) _ _ := hO
                  refine lv_istore (lv' := [(10, .int (nI (((x5_n * ((0 + 0) + 0)) + 0) + 0))), (9, .int 0), (8, .int 0), (7, .int 0), (6, .int (-1)), (0, .ref (ad 0)), (1, .int (nI x1_n)), (2, .int x2), (3, .int x3), (4, .int (nI x4_n)), (5, .int (nI x5_n))]) hx hb dX12_party_142 hl (by decide) rfl (fun ls hl => ?_)
                  refine lv_iload hx hb dX12_party_144 (lv_at hl 4 rfl) ?_
                  refine lv_if_lt (tgt := 159) hx hb dX12_party_146 (by decide) (fun _ => ?_) (fun h => absurd h (by decide))
                  refine lv_iload hx hb dX12_party_159 (lv_at hl 0 rfl) ?_
                  refine lv_istore (lv' := [(6, .int (nI (((x5_n * ((0 + 0) + 0)) + 0) + 0))), (10, .int (nI (((x5_n * ((0 + 0) + 0)) + 0) + 0))), (9, .int 0), (8, .int 0), (7, .int 0), (0, .ref (ad 0)), (1, .int (nI x1_n)), (2, .int x2), (3, .int x3), (4, .int (nI x4_n)), (5, .int (nI x5_n))]) hx hb dX12_party_161 hl (by decide) rfl (fun ls hl => ?_)
                  refine lv_aload_n hx hb dX12_party_163 rfl (lv_at hl 5 rfl) ?_
                  refine cg_get hC hO 0 (by decide) rfl rfl i_X12 61 (by decide) (List.mem_of_getElem? (i := 53) rfl) (fs_ne (by decide) (fs_ne (by decide) (fs_ne (by decide) (fs_ne (by decide) (fs_ne (by decide) f0_61))))) dX12_party_164 ?_
                  refine lv_iconst (v := 0) hx hb dX12_party_167 (by decide) ?_
                  refine lv_iload hx hb dX12_party_168 (lv_at hl 4 rfl) ?_
                  refine cg_iast hC hO 13 (by decide) a13 (cin (by decide)) dX12_party_170 (fun H locs hO => ?_)
                  have hO : cO D cy A s.heap s 14 ad (cup [(0, .inr (12, (((((f0.set 62 (.int 0)).set 56 (.int 0)).set 57 (.int 10000)).set 56 (.int 1)).set 56 (.int 2)))), (6, .inl (cy 0, 30, .inl tt_139_380)), (9, .inl (cy 0, 5, .inl (fun _ => 0))), (10, .inl (cy 0, 5, .inl (fun _ => 0))), (12, .inl (cy 2, 5, .inl (fun _ => 0))), (7, .inl (cy 0, 120, .inl (fun _ => 0))), (8, .inl (cy 0, 120, .inl cd_139_381)), (3, .inl (cy 0, 30, .inl c1_139_377)), (4, .inl (cy 0, 30, .inl c2_139_378)), (11, .inl (cy 2, 30, .inl c3_139_379)), (5, .inl (cy 0, 5, .inl (fun _ => 0))), (13, .inl (cy 0, 24, .inl (upd (fun _ => 0) (0 : Int32).toNatClampNeg 0)))] g) _ _ := hO
                  rw [upd_const] at hO
                  have hO : cO D cy A s.heap s 14 ad (cup [(0, .inr (12, (((((f0.set 62 (.int 0)).set 56 (.int 0)).set 57 (.int 10000)).set 56 (.int 1)).set 56 (.int 2)))), (6, .inl (cy 0, 30, .inl tt_139_380)), (9, .inl (cy 0, 5, .inl (fun _ => 0))), (10, .inl (cy 0, 5, .inl (fun _ => 0))), (12, .inl (cy 2, 5, .inl (fun _ => 0))), (7, .inl (cy 0, 120, .inl (fun _ => 0))), (8, .inl (cy 0, 120, .inl cd_139_381)), (3, .inl (cy 0, 30, .inl c1_139_377)), (4, .inl (cy 0, 30, .inl c2_139_378)), (11, .inl (cy 2, 30, .inl c3_139_379)), (5, .inl (cy 0, 5, .inl (fun _ => 0))), (13, .inl (cy 0, 24, .inl (fun _ => 0)))] g) _ _ := hO
                  refine lv_aload_n hx hb dX12_party_171 rfl (lv_at hl 5 rfl) ?_
                  refine cg_get hC hO 0 (by decide) rfl rfl i_X12 61 (by decide) (List.mem_of_getElem? (i := 53) rfl) (fs_ne (by decide) (fs_ne (by decide) (fs_ne (by decide) (fs_ne (by decide) (fs_ne (by decide) f0_61))))) dX12_party_172 ?_
                  refine lv_iconst (v := 1) hx hb dX12_party_175 (by decide) ?_
                  refine lv_iload hx hb dX12_party_176 (lv_at hl 3 rfl) ?_
                  refine cg_iast hC hO 13 (by decide) rfl (cin (by decide)) dX12_party_178 (fun H locs hO => ?_)
                  have hO : cO D cy A s.heap s 14 ad (cup [(0, .inr (12, (((((f0.set 62 (.int 0)).set 56 (.int 0)).set 57 (.int 10000)).set 56 (.int 1)).set 56 (.int 2)))), (6, .inl (cy 0, 30, .inl tt_139_380)), (9, .inl (cy 0, 5, .inl (fun _ => 0))), (10, .inl (cy 0, 5, .inl (fun _ => 0))), (12, .inl (cy 2, 5, .inl (fun _ => 0))), (7, .inl (cy 0, 120, .inl (fun _ => 0))), (8, .inl (cy 0, 120, .inl cd_139_381)), (3, .inl (cy 0, 30, .inl c1_139_377)), (4, .inl (cy 0, 30, .inl c2_139_378)), (11, .inl (cy 2, 30, .inl c3_139_379)), (5, .inl (cy 0, 5, .inl (fun _ => 0))), (13, .inl (cy 0, 24, .inl (upd (fun _ => 0) (1 : Int32).toNatClampNeg 0)))] g) _ _ := hO
                  rw [upd_const] at hO
                  have hO : cO D cy A s.heap s 14 ad (cup [(0, .inr (12, (((((f0.set 62 (.int 0)).set 56 (.int 0)).set 57 (.int 10000)).set 56 (.int 1)).set 56 (.int 2)))), (6, .inl (cy 0, 30, .inl tt_139_380)), (9, .inl (cy 0, 5, .inl (fun _ => 0))), (10, .inl (cy 0, 5, .inl (fun _ => 0))), (12, .inl (cy 2, 5, .inl (fun _ => 0))), (7, .inl (cy 0, 120, .inl (fun _ => 0))), (8, .inl (cy 0, 120, .inl cd_139_381)), (3, .inl (cy 0, 30, .inl c1_139_377)), (4, .inl (cy 0, 30, .inl c2_139_378)), (11, .inl (cy 2, 30, .inl c3_139_379)), (5, .inl (cy 0, 5, .inl (fun _ => 0))), (13, .inl (cy 0, 24, .inl (fun _ => 0)))] g) _ _ := hO
                  refine lv_aload_n hx hb dX12_party_179 rfl (lv_at hl 5 rfl) ?_
                  refine cg_get hC hO 0 (by decide) rfl rfl i_X12 61 (by decide) (List.mem_of_getElem? (i := 53) rfl) (fs_ne (by decide) (fs_ne (by decide) (fs_ne (by decide) (fs_ne (by decide) (fs_ne (by decide) f0_61))))) dX12_party_180 ?_
                  refine lv_iconst (v := 2) hx hb dX12_party_183 (by decide) ?_
                  refine lv_iload hx hb dX12_party_184 (lv_at hl 2 rfl) ?_
                  refine cg_iast hC hO 13 (by decide) rfl (cin (by decide)) dX12_party_186 (fun H locs hO => ?_)
                  have hO : cO D cy A s.heap s 14 ad (cup [(0, .inr (12, (((((f0.set 62 (.int 0)).set 56 (.int 0)).set 57 (.int 10000)).set 56 (.int 1)).set 56 (.int 2)))), (6, .inl (cy 0, 30, .inl tt_139_380)), (9, .inl (cy 0, 5, .inl (fun _ => 0))), (10, .inl (cy 0, 5, .inl (fun _ => 0))), (12, .inl (cy 2, 5, .inl (fun _ => 0))), (7, .inl (cy 0, 120, .inl (fun _ => 0))), (8, .inl (cy 0, 120, .inl cd_139_381)), (3, .inl (cy 0, 30, .inl c1_139_377)), (4, .inl (cy 0, 30, .inl c2_139_378)), (11, .inl (cy 2, 30, .inl c3_139_379)), (5, .inl (cy 0, 5, .inl (fun _ => 0))), (13, .inl (cy 0, 24, .inl (upd (fun _ => 0) (2 : Int32).toNatClampNeg 0)))] g) _ _ := hO
                  rw [upd_const] at hO
                  have hO : cO D cy A s.heap s 14 ad (cup [(0, .inr (12, (((((f0.set 62 (.int 0)).set 56 (.int 0)).set 57 (.int 10000)).set 56 (.int 1)).set 56 (.int 2)))), (6, .inl (cy 0, 30, .inl tt_139_380)), (9, .inl (cy 0, 5, .inl (fun _ => 0))), (10, .inl (cy 0, 5, .inl (fun _ => 0))), (12, .inl (cy 2, 5, .inl (fun _ => 0))), (7, .inl (cy 0, 120, .inl (fun _ => 0))), (8, .inl (cy 0, 120, .inl cd_139_381)), (3, .inl (cy 0, 30, .inl c1_139_377)), (4, .inl (cy 0, 30, .inl c2_139_378)), (11, .inl (cy 2, 30, .inl c3_139_379)), (5, .inl (cy 0, 5, .inl (fun _ => 0))), (13, .inl (cy 0, 24, .inl (fun _ => 0)))] g) _ _ := hO
                  refine lv_iinc (v := 1) (lv' := [(9, .int 1), (6, .int (nI (((x5_n * ((0 + 0) + 0)) + 0) + 0))), (10, .int (nI (((x5_n * ((0 + 0) + 0)) + 0) + 0))), (8, .int 0), (7, .int 0), (0, .ref (ad 0)), (1, .int (nI x1_n)), (2, .int x2), (3, .int x3), (4, .int (nI x4_n)), (5, .int (nI x5_n))]) hx hb dX12_party_187 hl (k := 2) rfl (by decide) (by decide) rfl (fun ls hl => ?_)
                  refine lv_goto (tgt := 110) hx hb dX12_party_190 (by decide) ?_
                  simp only [List.set_set, st_can] at hO
                  have hO : cO D cy A s.heap s 14 ad (cup [(0, .inr (12, (((f0.set 62 (.int 0)).set 56 (.int 2)).set 57 (.int 10000)))), (6, .inl (cy 0, 30, .inl tt_139_380)), (9, .inl (cy 0, 5, .inl (fun _ => 0))), (10, .inl (cy 0, 5, .inl (fun _ => 0))), (12, .inl (cy 2, 5, .inl (fun _ => 0))), (7, .inl (cy 0, 120, .inl (fun _ => 0))), (8, .inl (cy 0, 120, .inl cd_139_381)), (3, .inl (cy 0, 30, .inl c1_139_377)), (4, .inl (cy 0, 30, .inl c2_139_378)), (11, .inl (cy 2, 30, .inl c3_139_379)), (5, .inl (cy 0, 5, .inl (fun _ => 0))), (13, .inl (cy 0, 24, .inl (fun _ => 0)))] g) _ _ := hO
                  have loop_110_386 : ∀ (d_110_387 : Nat) (z : Nat) (bb : Nat) (r3 : Nat → Int32) (r4 : Nat → Int32) (r11 : Nat → Int32) (r6 : Nat → Int32) (r8 : Nat → Int32), (z ≤ 0 + 1) → (bb = 0) → 0 + 1 - z < d_110_387 → ∀ (H : Heap) (locs : List Loc), cO D cy A s.heap s 14 ad (cup [(0, .inr (12, (((f0.set 62 (.int 0)).set 56 (.int 2)).set 57 (.int 10000)))), (6, .inl (cy 0, 30, .inl r6)), (9, .inl (cy 0, 5, .inl (fun _ => 0))), (10, .inl (cy 0, 5, .inl (fun _ => 0))), (12, .inl (cy 2, 5, .inl (fun _ => 0))), (7, .inl (cy 0, 120, .inl (fun _ => 0))), (8, .inl (cy 0, 120, .inl r8)), (3, .inl (cy 0, 30, .inl r3)), (4, .inl (cy 0, 30, .inl r4)), (11, .inl (cy 2, 30, .inl r11)), (5, .inl (cy 0, 5, .inl (fun _ => 0))), (13, .inl (cy 0, 24, .inl (fun _ => 0)))] g) H locs → ∀ ls : Array Slot, lv_has ls 11 [(9, .int (nI z)), (6, .int (nI bb)), (8, .int 0), (7, .int 0), (0, .ref (ad 0)), (1, .int (nI x1_n)), (2, .int x2), (3, .int x3), (4, .int (nI x4_n)), (5, .int (nI x5_n))] → W p l e { frames := 4, cells := 0, slots := 0, locals := 93 } s m [.ref (ad 0), .int x1, .int x2, .int x3, .int x4, .int x5].toArray below meth c H locs 0 0 (MQ below (cQi (fun r nw lu => r = ans_party x1 x2 x3 x4 x5) D 14 0 ad g A) [.ref (ad 0), .int x1, .int x2, .int x3, .int x4, .int x5].toArray s 0 0 A) (F0 m 110 ls []) := by
                    intro d_110_387
                    induction d_110_387 with
                    | zero => intro z bb r3 r4 r11 r6 r8 hz hbb mu_110_388; exact absurd mu_110_388 (Nat.not_lt_zero _)
                    | succ d_110_387 ih_110_389 =>
                      intro z bb r3 r4 r11 r6 r8 hz hbb mu_110_388 H locs hO ls hl
                      refine lv_iload hx hb dX12_party_110 (lv_at hl 0 rfl) ?_
                      refine lv_iload_n hx hb dX12_party_112 rfl (lv_at hl 5 rfl) ?_
                      refine lv_iconst (v := 2) hx hb dX12_party_113 (by decide) ?_
                      refine lv_icmp_le (tgt := 122) hx hb dX12_party_114 (by decide) (fun _ => ?_) (fun h => absurd h_114_355 h)
                      refine lv_iload hx hb dX12_party_122 (lv_at hl 2 rfl) ?_
                      refine lv_icmp_gt (tgt := 193) hx hb dX12_party_124 (by decide) (fun h_124_390 => ?_) (fun h_124_390 => ?_)
                      · have nh_124_390 : 0 < z := (nI_ltI (a := 0) (b := z) (by omega) (by omega)).mp h_124_390
                        refine lv_iinc (v := 1) (lv' := [(8, .int 1), (9, .int (nI z)), (6, .int (nI bb)), (7, .int 0), (0, .ref (ad 0)), (1, .int (nI x1_n)), (2, .int x2), (3, .int x3), (4, .int (nI x4_n)), (5, .int (nI x5_n))]) hx hb dX12_party_193 hl (k := 2) rfl (by decide) (by decide) rfl (fun ls hl => ?_)
                        refine lv_goto (tgt := 89) hx hb dX12_party_196 (by decide) ?_
                        have hO : cO D cy A s.heap s 14 ad (cup [(0, .inr (12, (((f0.set 62 (.int 0)).set 56 (.int 2)).set 57 (.int 10000)))), (6, .inl (cy 0, 30, .inl r6)), (9, .inl (cy 0, 5, .inl (fun _ => 0))), (10, .inl (cy 0, 5, .inl (fun _ => 0))), (12, .inl (cy 2, 5, .inl (fun _ => 0))), (7, .inl (cy 0, 120, .inl (fun _ => 0))), (8, .inl (cy 0, 120, .inl r8)), (3, .inl (cy 0, 30, .inl r3)), (4, .inl (cy 0, 30, .inl r4)), (11, .inl (cy 2, 30, .inl r11)), (5, .inl (cy 0, 5, .inl (fun _ => 0))), (13, .inl (cy 0, 24, .inl (fun _ => 0)))] g) _ _ := hO
                        have loop_89_391 : ∀ (d_89_392 : Nat) (y : Nat) (bm : Nat) (t3 : Nat → Int32) (t4 : Nat → Int32) (t11 : Nat → Int32) (t6 : Nat → Int32) (t8 : Nat → Int32), (y ≤ x4_n + 1) → (bm = 0) → x4_n + 1 - y < d_89_392 → ∀ (H : Heap) (locs : List Loc), cO D cy A s.heap s 14 ad (cup [(0, .inr (12, (((f0.set 62 (.int 0)).set 56 (.int 2)).set 57 (.int 10000)))), (6, .inl (cy 0, 30, .inl t6)), (9, .inl (cy 0, 5, .inl (fun _ => 0))), (10, .inl (cy 0, 5, .inl (fun _ => 0))), (12, .inl (cy 2, 5, .inl (fun _ => 0))), (7, .inl (cy 0, 120, .inl (fun _ => 0))), (8, .inl (cy 0, 120, .inl t8)), (3, .inl (cy 0, 30, .inl t3)), (4, .inl (cy 0, 30, .inl t4)), (11, .inl (cy 2, 30, .inl t11)), (5, .inl (cy 0, 5, .inl (fun _ => 0))), (13, .inl (cy 0, 24, .inl (fun _ => 0)))] g) H locs → ∀ ls : Array Slot, lv_has ls 11 [(8, .int (nI y)), (6, .int (nI bm)), (7, .int 0), (0, .ref (ad 0)), (1, .int (nI x1_n)), (2, .int x2), (3, .int x3), (4, .int (nI x4_n)), (5, .int (nI x5_n))] → W p l e { frames := 4, cells := 0, slots := 0, locals := 93 } s m [.ref (ad 0), .int x1, .int x2, .int x3, .int x4, .int x5].toArray below meth c H locs 0 0 (MQ below (cQi (fun r nw lu => r = ans_party x1 x2 x3 x4 x5) D 14 0 ad g A) [.ref (ad 0), .int x1, .int x2, .int x3, .int x4, .int x5].toArray s 0 0 A) (F0 m 89 ls []) := by
                          intro d_89_392
                          induction d_89_392 with
                          | zero => intro y bm t3 t4 t11 t6 t8 hy hbm mu_89_393; exact absurd mu_89_393 (Nat.not_lt_zero _)
                          | succ d_89_392 ih_89_394 =>
                            intro y bm t3 t4 t11 t6 t8 hy hbm mu_89_393 H locs hO ls hl
                            refine lv_iload hx hb dX12_party_89 (lv_at hl 0 rfl) ?_
                            refine lv_iload_n hx hb dX12_party_91 rfl (lv_at hl 4 rfl) ?_
                            refine lv_iconst (v := 1) hx hb dX12_party_92 (by decide) ?_
                            refine lv_icmp_le (tgt := 101) hx hb dX12_party_93 (by decide) (fun h => absurd h h_93_21) (fun _ => ?_)
                            refine lv_iload hx hb dX12_party_96 (lv_at hl 7 rfl) ?_
                            refine lv_goto (tgt := 103) hx hb dX12_party_98 (by decide) ?_
                            refine lv_icmp_gt (tgt := 199) hx hb dX12_party_103 (by decide) (fun h_103_395 => ?_) (fun h_103_395 => ?_)
                            · have nh_103_395 : x4_n < y := (nI_ltI (by omega) (by omega)).mp h_103_395
                              refine lv_iinc (v := 1) (lv' := [(7, .int 1), (8, .int (nI y)), (6, .int (nI bm)), (0, .ref (ad 0)), (1, .int (nI x1_n)), (2, .int x2), (3, .int x3), (4, .int (nI x4_n)), (5, .int (nI x5_n))]) hx hb dX12_party_199 hl (k := 2) rfl (by decide) (by decide) rfl (fun ls hl => ?_)
                              refine lv_goto (tgt := 78) hx hb dX12_party_202 (by decide) ?_
                              have hO : cO D cy A s.heap s 14 ad (cup [(0, .inr (12, (((f0.set 62 (.int 0)).set 56 (.int 2)).set 57 (.int 10000)))), (6, .inl (cy 0, 30, .inl t6)), (9, .inl (cy 0, 5, .inl (fun _ => 0))), (10, .inl (cy 0, 5, .inl (fun _ => 0))), (12, .inl (cy 2, 5, .inl (fun _ => 0))), (7, .inl (cy 0, 120, .inl (fun _ => 0))), (8, .inl (cy 0, 120, .inl t8)), (3, .inl (cy 0, 30, .inl t3)), (4, .inl (cy 0, 30, .inl t4)), (11, .inl (cy 2, 30, .inl t11)), (5, .inl (cy 0, 5, .inl (fun _ => 0))), (13, .inl (cy 0, 24, .inl (fun _ => 0)))] g) _ _ := hO
                              have loop_78_396 : ∀ (d_78_397 : Nat) (o : Nat) (bo : Nat) (u3 : Nat → Int32) (u4 : Nat → Int32) (u11 : Nat → Int32) (u6 : Nat → Int32) (u8 : Nat → Int32), (o ≤ x4_n + 1) → (bo = 0) → x4_n + 1 - o < d_78_397 → ∀ (H : Heap) (locs : List Loc), cO D cy A s.heap s 14 ad (cup [(0, .inr (12, (((f0.set 62 (.int 0)).set 56 (.int 2)).set 57 (.int 10000)))), (6, .inl (cy 0, 30, .inl u6)), (9, .inl (cy 0, 5, .inl (fun _ => 0))), (10, .inl (cy 0, 5, .inl (fun _ => 0))), (12, .inl (cy 2, 5, .inl (fun _ => 0))), (7, .inl (cy 0, 120, .inl (fun _ => 0))), (8, .inl (cy 0, 120, .inl u8)), (3, .inl (cy 0, 30, .inl u3)), (4, .inl (cy 0, 30, .inl u4)), (11, .inl (cy 2, 30, .inl u11)), (5, .inl (cy 0, 5, .inl (fun _ => 0))), (13, .inl (cy 0, 24, .inl (fun _ => 0)))] g) H locs → ∀ ls : Array Slot, lv_has ls 11 [(7, .int (nI o)), (6, .int (nI bo)), (0, .ref (ad 0)), (1, .int (nI x1_n)), (2, .int x2), (3, .int x3), (4, .int (nI x4_n)), (5, .int (nI x5_n))] → W p l e { frames := 4, cells := 0, slots := 0, locals := 93 } s m [.ref (ad 0), .int x1, .int x2, .int x3, .int x4, .int x5].toArray below meth c H locs 0 0 (MQ below (cQi (fun r nw lu => r = ans_party x1 x2 x3 x4 x5) D 14 0 ad g A) [.ref (ad 0), .int x1, .int x2, .int x3, .int x4, .int x5].toArray s 0 0 A) (F0 m 78 ls []) := by
                                intro d_78_397
                                induction d_78_397 with
                                | zero => intro o bo u3 u4 u11 u6 u8 ho hbo mu_78_398; exact absurd mu_78_398 (Nat.not_lt_zero _)
                                | succ d_78_397 ih_78_399 =>
                                  intro o bo u3 u4 u11 u6 u8 ho hbo mu_78_398 H locs hO ls hl
                                  refine lv_iload hx hb dX12_party_78 (lv_at hl 0 rfl) ?_
                                  refine lv_iload hx hb dX12_party_80 (lv_at hl 6 rfl) ?_
                                  refine lv_icmp_gt (tgt := 205) hx hb dX12_party_82 (by decide) (fun h_82_400 => ?_) (fun h_82_400 => ?_)
                                  · have nh_82_400 : x4_n < o := (nI_ltI (by omega) (by omega)).mp h_82_400
                                    refine lv_aload_n hx hb dX12_party_205 rfl (lv_at hl 2 rfl) ?_
                                    refine lv_iload_n hx hb dX12_party_206 rfl (lv_at hl 3 rfl) ?_
                                    refine cg_put hC hO 0 (by decide) rfl rfl i_X12 tyX12_ok nmX12 62 (by decide) (List.mem_of_getElem? (i := 1) rfl) rfl rfl rfl (fs_lt (fs_ne (by decide) (fs_ne (by decide) (fs_eq f0_62)))) dX12_party_207 (fun H locs hO => ?_)
                                    have hO : cO D cy A s.heap s 14 ad (cup [(0, .inr (12, ((((f0.set 62 (.int 0)).set 56 (.int 2)).set 57 (.int 10000)).set 62 (.int (nI x1_n))))), (6, .inl (cy 0, 30, .inl u6)), (9, .inl (cy 0, 5, .inl (fun _ => 0))), (10, .inl (cy 0, 5, .inl (fun _ => 0))), (12, .inl (cy 2, 5, .inl (fun _ => 0))), (7, .inl (cy 0, 120, .inl (fun _ => 0))), (8, .inl (cy 0, 120, .inl u8)), (3, .inl (cy 0, 30, .inl u3)), (4, .inl (cy 0, 30, .inl u4)), (11, .inl (cy 2, 30, .inl u11)), (5, .inl (cy 0, 5, .inl (fun _ => 0))), (13, .inl (cy 0, 24, .inl (fun _ => 0)))] g) _ _ := hO
                                    refine lv_iload hx hb dX12_party_210 (lv_at hl 1 rfl) ?_
                                    exact cg_iret (nw := fun _ => 0) hC hr hlk hO.same rfl (Nat.le_of_ble_eq_true rfl) (Nat.le_of_ble_eq_true rfl) (by rw [hbo]; exact (if_pos ⟨hr_8_4, hr_18_8, hr_29_12, hr_40_16, hr_51_20⟩).symm) dX12_party_212
                                  · have nh_82_400 : ¬ x4_n < o := fun z => h_82_400 ((nI_ltI (by omega) (by omega)).mpr z)
                                    refine lv_iload hx hb dX12_party_85 (lv_at hl 0 rfl) ?_
                                    refine lv_istore (lv' := [(8, .int (nI o)), (7, .int (nI o)), (6, .int (nI bo)), (0, .ref (ad 0)), (1, .int (nI x1_n)), (2, .int x2), (3, .int x3), (4, .int (nI x4_n)), (5, .int (nI x5_n))]) hx hb dX12_party_87 hl (by decide) rfl (fun ls hl => ?_)
                                    have hO : cO D cy A s.heap s 14 ad (cup [(0, .inr (12, (((f0.set 62 (.int 0)).set 56 (.int 2)).set 57 (.int 10000)))), (6, .inl (cy 0, 30, .inl u6)), (9, .inl (cy 0, 5, .inl (fun _ => 0))), (10, .inl (cy 0, 5, .inl (fun _ => 0))), (12, .inl (cy 2, 5, .inl (fun _ => 0))), (7, .inl (cy 0, 120, .inl (fun _ => 0))), (8, .inl (cy 0, 120, .inl u8)), (3, .inl (cy 0, 30, .inl u3)), (4, .inl (cy 0, 30, .inl u4)), (11, .inl (cy 2, 30, .inl u11)), (5, .inl (cy 0, 5, .inl (fun _ => 0))), (13, .inl (cy 0, 24, .inl (fun _ => 0)))] g) _ _ := hO
                                    have loop_89_401 : ∀ (d_89_402 : Nat) (y : Nat) (bm : Nat) (t3 : Nat → Int32) (t4 : Nat → Int32) (t11 : Nat → Int32) (t6 : Nat → Int32) (t8 : Nat → Int32), (y ≤ x4_n + 1) → (bm = 0) → x4_n + 1 - y < d_89_402 → ∀ (H : Heap) (locs : List Loc), cO D cy A s.heap s 14 ad (cup [(0, .inr (12, (((f0.set 62 (.int 0)).set 56 (.int 2)).set 57 (.int 10000)))), (6, .inl (cy 0, 30, .inl t6)), (9, .inl (cy 0, 5, .inl (fun _ => 0))), (10, .inl (cy 0, 5, .inl (fun _ => 0))), (12, .inl (cy 2, 5, .inl (fun _ => 0))), (7, .inl (cy 0, 120, .inl (fun _ => 0))), (8, .inl (cy 0, 120, .inl t8)), (3, .inl (cy 0, 30, .inl t3)), (4, .inl (cy 0, 30, .inl t4)), (11, .inl (cy 2, 30, .inl t11)), (5, .inl (cy 0, 5, .inl (fun _ => 0))), (13, .inl (cy 0, 24, .inl (fun _ => 0)))] g) H locs → ∀ ls : Array Slot, lv_has ls 11 [(8, .int (nI y)), (7, .int (nI o)), (6, .int (nI bm)), (0, .ref (ad 0)), (1, .int (nI x1_n)), (2, .int x2), (3, .int x3), (4, .int (nI x4_n)), (5, .int (nI x5_n))] → W p l e { frames := 4, cells := 0, slots := 0, locals := 93 } s m [.ref (ad 0), .int x1, .int x2, .int x3, .int x4, .int x5].toArray below meth c H locs 0 0 (MQ below (cQi (fun r nw lu => r = ans_party x1 x2 x3 x4 x5) D 14 0 ad g A) [.ref (ad 0), .int x1, .int x2, .int x3, .int x4, .int x5].toArray s 0 0 A) (F0 m 89 ls []) := by
                                      intro d_89_402
                                      induction d_89_402 with
                                      | zero => intro y bm t3 t4 t11 t6 t8 hy hbm mu_89_403; exact absurd mu_89_403 (Nat.not_lt_zero _)
                                      | succ d_89_402 ih_89_404 =>
                                        intro y bm t3 t4 t11 t6 t8 hy hbm mu_89_403 H locs hO ls hl
                                        refine lv_iload hx hb dX12_party_89 (lv_at hl 0 rfl) ?_
                                        refine lv_iload_n hx hb dX12_party_91 rfl (lv_at hl 4 rfl) ?_
                                        refine lv_iconst (v := 1) hx hb dX12_party_92 (by decide) ?_
                                        refine lv_icmp_le (tgt := 101) hx hb dX12_party_93 (by decide) (fun h => absurd h h_93_21) (fun _ => ?_)
                                        refine lv_iload hx hb dX12_party_96 (lv_at hl 7 rfl) ?_
                                        refine lv_goto (tgt := 103) hx hb dX12_party_98 (by decide) ?_
                                        refine lv_icmp_gt (tgt := 199) hx hb dX12_party_103 (by decide) (fun _ => ?_) (fun h => absurd h_103_395 h)
                                        refine lv_iinc (v := (nI (o + 1))) (lv' := [(7, .int (nI (o + 1))), (8, .int (nI y)), (6, .int (nI bm)), (0, .ref (ad 0)), (1, .int (nI x1_n)), (2, .int x2), (3, .int x3), (4, .int (nI x4_n)), (5, .int (nI x5_n))]) hx hb dX12_party_199 hl (k := 1) rfl (nI_add o 1) (by decide) rfl (fun ls hl => ?_)
                                        refine lv_goto (tgt := 78) hx hb dX12_party_202 (by decide) ?_
                                        have hO : cO D cy A s.heap s 14 ad (cup [(0, .inr (12, (((f0.set 62 (.int 0)).set 56 (.int 2)).set 57 (.int 10000)))), (6, .inl (cy 0, 30, .inl t6)), (9, .inl (cy 0, 5, .inl (fun _ => 0))), (10, .inl (cy 0, 5, .inl (fun _ => 0))), (12, .inl (cy 2, 5, .inl (fun _ => 0))), (7, .inl (cy 0, 120, .inl (fun _ => 0))), (8, .inl (cy 0, 120, .inl t8)), (3, .inl (cy 0, 30, .inl t3)), (4, .inl (cy 0, 30, .inl t4)), (11, .inl (cy 2, 30, .inl t11)), (5, .inl (cy 0, 5, .inl (fun _ => 0))), (13, .inl (cy 0, 24, .inl (fun _ => 0)))] g) _ _ := hO
                                        exact ih_78_399 (o + 1) bm t3 t4 t11 t6 t8 (by omega) hbm (by omega) _ _ hO ls (lv_sub hl [0, 2, 3, 4, 5, 6, 7, 8] rfl)
                                    exact loop_89_401 ((x4_n + 1) + 1) o bo u3 u4 u11 u6 u8 (by omega) hbo (by omega) _ _ hO ls (lv_sub hl [0, 1, 2, 3, 4, 5, 6, 7, 8] rfl)
                              exact loop_78_396 ((x4_n + 1) + 1) 1 bm t3 t4 t11 t6 t8 (by omega) hbm (by omega) _ _ hO ls (lv_sub hl [0, 2, 3, 4, 5, 6, 7, 8] rfl)
                            · have nh_103_395 : ¬ x4_n < y := fun z => h_103_395 ((nI_ltI (by omega) (by omega)).mpr z)
                              refine lv_iload hx hb dX12_party_106 (lv_at hl 0 rfl) ?_
                              refine lv_istore (lv' := [(9, .int (nI y)), (8, .int (nI y)), (6, .int (nI bm)), (7, .int 0), (0, .ref (ad 0)), (1, .int (nI x1_n)), (2, .int x2), (3, .int x3), (4, .int (nI x4_n)), (5, .int (nI x5_n))]) hx hb dX12_party_108 hl (by decide) rfl (fun ls hl => ?_)
                              have hO : cO D cy A s.heap s 14 ad (cup [(0, .inr (12, (((f0.set 62 (.int 0)).set 56 (.int 2)).set 57 (.int 10000)))), (6, .inl (cy 0, 30, .inl t6)), (9, .inl (cy 0, 5, .inl (fun _ => 0))), (10, .inl (cy 0, 5, .inl (fun _ => 0))), (12, .inl (cy 2, 5, .inl (fun _ => 0))), (7, .inl (cy 0, 120, .inl (fun _ => 0))), (8, .inl (cy 0, 120, .inl t8)), (3, .inl (cy 0, 30, .inl t3)), (4, .inl (cy 0, 30, .inl t4)), (11, .inl (cy 2, 30, .inl t11)), (5, .inl (cy 0, 5, .inl (fun _ => 0))), (13, .inl (cy 0, 24, .inl (fun _ => 0)))] g) _ _ := hO
                              have loop_110_405 : ∀ (d_110_406 : Nat) (z : Nat) (bb : Nat) (r3 : Nat → Int32) (r4 : Nat → Int32) (r11 : Nat → Int32) (r6 : Nat → Int32) (r8 : Nat → Int32), (z ≤ y + 1) → (bb = 0) → y + 1 - z < d_110_406 → ∀ (H : Heap) (locs : List Loc), cO D cy A s.heap s 14 ad (cup [(0, .inr (12, (((f0.set 62 (.int 0)).set 56 (.int 2)).set 57 (.int 10000)))), (6, .inl (cy 0, 30, .inl r6)), (9, .inl (cy 0, 5, .inl (fun _ => 0))), (10, .inl (cy 0, 5, .inl (fun _ => 0))), (12, .inl (cy 2, 5, .inl (fun _ => 0))), (7, .inl (cy 0, 120, .inl (fun _ => 0))), (8, .inl (cy 0, 120, .inl r8)), (3, .inl (cy 0, 30, .inl r3)), (4, .inl (cy 0, 30, .inl r4)), (11, .inl (cy 2, 30, .inl r11)), (5, .inl (cy 0, 5, .inl (fun _ => 0))), (13, .inl (cy 0, 24, .inl (fun _ => 0)))] g) H locs → ∀ ls : Array Slot, lv_has ls 11 [(9, .int (nI z)), (8, .int (nI y)), (6, .int (nI bb)), (7, .int 0), (0, .ref (ad 0)), (1, .int (nI x1_n)), (2, .int x2), (3, .int x3), (4, .int (nI x4_n)), (5, .int (nI x5_n))] → W p l e { frames := 4, cells := 0, slots := 0, locals := 93 } s m [.ref (ad 0), .int x1, .int x2, .int x3, .int x4, .int x5].toArray below meth c H locs 0 0 (MQ below (cQi (fun r nw lu => r = ans_party x1 x2 x3 x4 x5) D 14 0 ad g A) [.ref (ad 0), .int x1, .int x2, .int x3, .int x4, .int x5].toArray s 0 0 A) (F0 m 110 ls []) := by
                                intro d_110_406
                                induction d_110_406 with
                                | zero => intro z bb r3 r4 r11 r6 r8 hz hbb mu_110_407; exact absurd mu_110_407 (Nat.not_lt_zero _)
                                | succ d_110_406 ih_110_408 =>
                                  intro z bb r3 r4 r11 r6 r8 hz hbb mu_110_407 H locs hO ls hl
                                  refine lv_iload hx hb dX12_party_110 (lv_at hl 0 rfl) ?_
                                  refine lv_iload_n hx hb dX12_party_112 rfl (lv_at hl 5 rfl) ?_
                                  refine lv_iconst (v := 2) hx hb dX12_party_113 (by decide) ?_
                                  refine lv_icmp_le (tgt := 122) hx hb dX12_party_114 (by decide) (fun _ => ?_) (fun h => absurd h_114_355 h)
                                  refine lv_iload hx hb dX12_party_122 (lv_at hl 1 rfl) ?_
                                  refine lv_icmp_gt (tgt := 193) hx hb dX12_party_124 (by decide) (fun h_124_409 => ?_) (fun h_124_409 => ?_)
                                  · have nh_124_409 : y < z := (nI_ltI (by omega) (by omega)).mp h_124_409
                                    refine lv_iinc (v := (nI (y + 1))) (lv' := [(8, .int (nI (y + 1))), (9, .int (nI z)), (6, .int (nI bb)), (7, .int 0), (0, .ref (ad 0)), (1, .int (nI x1_n)), (2, .int x2), (3, .int x3), (4, .int (nI x4_n)), (5, .int (nI x5_n))]) hx hb dX12_party_193 hl (k := 1) rfl (nI_add y 1) (by decide) rfl (fun ls hl => ?_)
                                    refine lv_goto (tgt := 89) hx hb dX12_party_196 (by decide) ?_
                                    have hO : cO D cy A s.heap s 14 ad (cup [(0, .inr (12, (((f0.set 62 (.int 0)).set 56 (.int 2)).set 57 (.int 10000)))), (6, .inl (cy 0, 30, .inl r6)), (9, .inl (cy 0, 5, .inl (fun _ => 0))), (10, .inl (cy 0, 5, .inl (fun _ => 0))), (12, .inl (cy 2, 5, .inl (fun _ => 0))), (7, .inl (cy 0, 120, .inl (fun _ => 0))), (8, .inl (cy 0, 120, .inl r8)), (3, .inl (cy 0, 30, .inl r3)), (4, .inl (cy 0, 30, .inl r4)), (11, .inl (cy 2, 30, .inl r11)), (5, .inl (cy 0, 5, .inl (fun _ => 0))), (13, .inl (cy 0, 24, .inl (fun _ => 0)))] g) _ _ := hO
                                    exact ih_89_394 (y + 1) bb r3 r4 r11 r6 r8 (by omega) hbb (by omega) _ _ hO ls (lv_sub hl [0, 2, 3, 4, 5, 6, 7, 8, 9] rfl)
                                  · have nh_124_409 : ¬ y < z := fun z => h_124_409 ((nI_ltI (by omega) (by omega)).mpr z)
                                    refine lv_aload_n hx hb dX12_party_127 rfl (lv_at hl 4 rfl) ?_
                                    refine lv_iload_n hx hb dX12_party_128 rfl (lv_at hl 5 rfl) ?_
                                    refine lv_iload_n hx hb dX12_party_129 rfl (lv_at hl 6 rfl) ?_
                                    refine lv_iload_n hx hb dX12_party_130 rfl (lv_at hl 7 rfl) ?_
                                    refine lv_iload hx hb dX12_party_131 (lv_at hl 9 rfl) ?_
                                    refine lv_iload hx hb dX12_party_133 (lv_at hl 3 rfl) ?_
                                    refine lv_iload hx hb dX12_party_135 (lv_at hl 1 rfl) ?_
                                    refine lv_iload hx hb dX12_party_137 (lv_at hl 0 rfl) ?_
                                    refine cg_Vi (As := [.int (nI x1_n), .int x2, .int x3, .int (nI x5_n), .int 0, .int (nI y), .int (nI z)]) (rest := []) (mc := 0) (ms := 0) (rm := { frames := 3, cells := 0, slots := 0, locals := 63 }) hC hl.1 hO [0, 2, 1, 5, 3, 4, 11, 6, 7, 8, 9, 10, 12] rfl (c_X12_partyPays l D cy _ _ (f0 := (((f0.set 62 (.int 0)).set 56 (.int 2)).set 57 (.int 10000))) (c4 := r3) (c5 := r4) (c7 := r6) (c9 := r8) (c6 := r11) (xm := 2) (xl := 10000) (n := x1_n) (s1 := x2) (mi := x3) (la := x5_n) (o1 := 0) (o2 := y) (o3 := z) rfl (fs_ne (by decide) (fs_ne (by decide) (fs_ne (by decide) f0_12))) (fs_ne (by decide) (fs_ne (by decide) (fs_ne (by decide) f0_36))) (fs_ne (by decide) (fs_ne (by decide) (fs_ne (by decide) f0_41))) (fs_ne (by decide) (fs_ne (by decide) (fs_ne (by decide) f0_42))) (fs_ne (by decide) (fs_ne (by decide) (fs_ne (by decide) f0_43))) (fs_ne (by decide) (fs_ne (by decide) (fs_ne (by decide) f0_44))) (fs_ne (by decide) (fs_ne (by decide) (fs_ne (by decide) f0_47))) (fs_ne (by decide) (fs_ne (by decide) (fs_ne (by decide) f0_48))) (fs_ne (by decide) (fs_ne (by decide) (fs_ne (by decide) f0_49))) (fs_ne (by decide) (fs_ne (by decide) (fs_ne (by decide) f0_50))) (fs_ne (by decide) (fs_ne (by decide) (fs_ne (by decide) f0_53))) (fs_ne (by decide) (fs_ne (by decide) (fs_ne (by decide) f0_54))) (fs_ne (by decide) (fs_ne (by decide) (fs_ne (by decide) f0_55))) (fs_ne (by decide) (fs_eq (fs_ne (by decide) f0_56))) (fs_eq (fs_ne (by decide) (fs_ne (by decide) f0_57))) a2 a1 rfl rfl rfl rfl rfl rfl rfl rfl rfl rfl (by omega) (by omega) (by omega) (by omega) (by omega)) gq_c_X12_party_c_X12_partyPays_433 rfl rfl rfl 7 (by decide +kernel) ⟨Nat.le_of_ble_eq_true rfl, Nat.le_of_ble_eq_true rfl⟩ rfl (by decide) rfl rfl rfl (Nat.le_of_ble_eq_true rfl) dX12_party_139 ⟨Nat.le_of_ble_eq_true rfl, Nat.le_of_ble_eq_true rfl⟩ (fun r_139_412 nw_139_410 l_139_411 H locs hw hO => ?_)
                                    rcases hw with hw | hw | hw | hw
                                    · obtain ⟨c1_139_413, c2_139_414, c3_139_415, tt_139_416, cd_139_417, hS_139_418, hZ_139_419, h_139_420, h_139_421, rfl, rfl⟩ := hw
                                      exact absurd h_139_420 h_93_21
                                    · obtain ⟨c1_139_422, c2_139_423, c3_139_424, tt_139_425, cd_139_426, hS_139_427, hZ_139_428, h_139_429, h_139_430, rfl, rfl⟩ := hw
                                      exact absurd h_139_429 h_93_21
                                    · obtain ⟨c1_139_431, c2_139_432, c3_139_433, tt_139_434, cd_139_435, hS_139_436, hZ_139_437, h_139_438, h_139_439, rfl, rfl⟩ := hw
                                      have hO : cO D cy A s.heap s 14 ad (cup [(0, .inr (12, (((((((f0.set 62 (.int 0)).set 56 (.int 2)).set 57 (.int 10000)).set 56 (.int 0)).set 57 (.int 10000)).set 56 (.int 1)).set 56 (.int 2)))), (6, .inl (cy 0, 30, .inl tt_139_434)), (9, .inl (cy 0, 5, .inl (fun _ => 0))), (10, .inl (cy 0, 5, .inl (fun _ => 0))), (12, .inl (cy 2, 5, .inl (fun _ => 0))), (7, .inl (cy 0, 120, .inl (fun _ => 0))), (8, .inl (cy 0, 120, .inl cd_139_435)), (3, .inl (cy 0, 30, .inl c1_139_431)), (4, .inl (cy 0, 30, .inl c2_139_432)), (11, .inl (cy 2, 30, .inl c3_139_433)), (5, .inl (cy 0, 5, .inl (fun _ => 0))), (13, .inl (cy 0, 24, .inl (fun _ => 0)))] g) _ _ := hO
                                      refine lv_istore (lv' := [(10, .int (nI (((x5_n * ((0 + y) + 0)) + 0) + 0))), (9, .int (nI z)), (8, .int (nI y)), (6, .int (nI bb)), (7, .int 0), (0, .ref (ad 0)), (1, .int (nI x1_n)), (2, .int x2), (3, .int x3), (4, .int (nI x4_n)), (5, .int (nI x5_n))]) hx hb dX12_party_142 hl (by decide) rfl (fun ls hl => ?_)
                                      refine lv_iload hx hb dX12_party_144 (lv_at hl 3 rfl) ?_
                                      refine lv_if_lt (tgt := 159) hx hb dX12_party_146 (by decide) (fun h => (show False from by have z := (nI_ltI (a := bb) (b := 0) (by omega) (by omega)).mp h; omega).elim) (fun _ => ?_)
                                      refine lv_iload hx hb dX12_party_149 (lv_at hl 0 rfl) ?_
                                      refine lv_iload hx hb dX12_party_151 (lv_at hl 3 rfl) ?_
                                      refine lv_icmp_lt (tgt := 159) hx hb dX12_party_153 (by decide) (fun h => (show False from by have z := (nI_ltI (a := (((x5_n * ((0 + y) + 0)) + 0) + 0)) (b := bb) (by omega) (by omega)).mp h; omega).elim) (fun _ => ?_)
                                      refine lv_goto (tgt := 187) hx hb dX12_party_156 (by decide) ?_
                                      refine lv_iinc (v := (nI (z + 1))) (lv' := [(9, .int (nI (z + 1))), (10, .int (nI (((x5_n * ((0 + y) + 0)) + 0) + 0))), (8, .int (nI y)), (6, .int (nI bb)), (7, .int 0), (0, .ref (ad 0)), (1, .int (nI x1_n)), (2, .int x2), (3, .int x3), (4, .int (nI x4_n)), (5, .int (nI x5_n))]) hx hb dX12_party_187 hl (k := 1) rfl (nI_add z 1) (by decide) rfl (fun ls hl => ?_)
                                      refine lv_goto (tgt := 110) hx hb dX12_party_190 (by decide) ?_
                                      simp only [List.set_set, st_can] at hO
                                      have hO : cO D cy A s.heap s 14 ad (cup [(0, .inr (12, (((f0.set 62 (.int 0)).set 56 (.int 2)).set 57 (.int 10000)))), (6, .inl (cy 0, 30, .inl tt_139_434)), (9, .inl (cy 0, 5, .inl (fun _ => 0))), (10, .inl (cy 0, 5, .inl (fun _ => 0))), (12, .inl (cy 2, 5, .inl (fun _ => 0))), (7, .inl (cy 0, 120, .inl (fun _ => 0))), (8, .inl (cy 0, 120, .inl cd_139_435)), (3, .inl (cy 0, 30, .inl c1_139_431)), (4, .inl (cy 0, 30, .inl c2_139_432)), (11, .inl (cy 2, 30, .inl c3_139_433)), (5, .inl (cy 0, 5, .inl (fun _ => 0))), (13, .inl (cy 0, 24, .inl (fun _ => 0)))] g) _ _ := hO
                                      exact ih_110_408 (z + 1) bb c1_139_431 c2_139_432 c3_139_433 tt_139_434 cd_139_435 (by omega) hbb (by omega) _ _ hO ls (lv_sub hl [0, 2, 3, 4, 5, 6, 7, 8, 9, 10] rfl)
                                    · obtain ⟨c1_139_440, c2_139_441, c3_139_442, tt_139_443, cd_139_444, hS_139_445, hZ_139_446, h_139_447, h_139_448, rfl, rfl⟩ := hw
                                      exact absurd h_114_355 h_139_448
                              exact loop_110_405 ((y + 1) + 1) y bm t3 t4 t11 t6 t8 (by omega) hbm (by omega) _ _ hO ls (lv_sub hl [0, 1, 2, 3, 4, 5, 6, 7, 8, 9] rfl)
                        exact loop_89_391 ((x4_n + 1) + 1) 1 bb r3 r4 r11 r6 r8 (by omega) hbb (by omega) _ _ hO ls (lv_sub hl [0, 2, 3, 4, 5, 6, 7, 8, 9] rfl)
                      · have nh_124_390 : ¬ 0 < z := fun z => h_124_390 ((nI_ltI (a := 0) (b := z) (by omega) (by omega)).mpr z)
                        refine lv_aload_n hx hb dX12_party_127 rfl (lv_at hl 4 rfl) ?_
                        refine lv_iload_n hx hb dX12_party_128 rfl (lv_at hl 5 rfl) ?_
                        refine lv_iload_n hx hb dX12_party_129 rfl (lv_at hl 6 rfl) ?_
                        refine lv_iload_n hx hb dX12_party_130 rfl (lv_at hl 7 rfl) ?_
                        refine lv_iload hx hb dX12_party_131 (lv_at hl 9 rfl) ?_
                        refine lv_iload hx hb dX12_party_133 (lv_at hl 3 rfl) ?_
                        refine lv_iload hx hb dX12_party_135 (lv_at hl 2 rfl) ?_
                        refine lv_iload hx hb dX12_party_137 (lv_at hl 0 rfl) ?_
                        refine cg_Vi (As := [.int (nI x1_n), .int x2, .int x3, .int (nI x5_n), .int 0, .int 0, .int (nI z)]) (rest := []) (mc := 0) (ms := 0) (rm := { frames := 3, cells := 0, slots := 0, locals := 63 }) hC hl.1 hO [0, 2, 1, 5, 3, 4, 11, 6, 7, 8, 9, 10, 12] rfl (c_X12_partyPays l D cy _ _ (f0 := (((f0.set 62 (.int 0)).set 56 (.int 2)).set 57 (.int 10000))) (c4 := r3) (c5 := r4) (c7 := r6) (c9 := r8) (c6 := r11) (xm := 2) (xl := 10000) (n := x1_n) (s1 := x2) (mi := x3) (la := x5_n) (o1 := 0) (o2 := 0) (o3 := z) rfl (fs_ne (by decide) (fs_ne (by decide) (fs_ne (by decide) f0_12))) (fs_ne (by decide) (fs_ne (by decide) (fs_ne (by decide) f0_36))) (fs_ne (by decide) (fs_ne (by decide) (fs_ne (by decide) f0_41))) (fs_ne (by decide) (fs_ne (by decide) (fs_ne (by decide) f0_42))) (fs_ne (by decide) (fs_ne (by decide) (fs_ne (by decide) f0_43))) (fs_ne (by decide) (fs_ne (by decide) (fs_ne (by decide) f0_44))) (fs_ne (by decide) (fs_ne (by decide) (fs_ne (by decide) f0_47))) (fs_ne (by decide) (fs_ne (by decide) (fs_ne (by decide) f0_48))) (fs_ne (by decide) (fs_ne (by decide) (fs_ne (by decide) f0_49))) (fs_ne (by decide) (fs_ne (by decide) (fs_ne (by decide) f0_50))) (fs_ne (by decide) (fs_ne (by decide) (fs_ne (by decide) f0_53))) (fs_ne (by decide) (fs_ne (by decide) (fs_ne (by decide) f0_54))) (fs_ne (by decide) (fs_ne (by decide) (fs_ne (by decide) f0_55))) (fs_ne (by decide) (fs_eq (fs_ne (by decide) f0_56))) (fs_eq (fs_ne (by decide) (fs_ne (by decide) f0_57))) a2 a1 rfl rfl rfl rfl rfl rfl rfl rfl rfl rfl (by omega) (by omega) (by omega) (by omega) (by omega)) gq_c_X12_party_c_X12_partyPays_433 rfl rfl rfl 7 (by decide +kernel) ⟨Nat.le_of_ble_eq_true rfl, Nat.le_of_ble_eq_true rfl⟩ rfl (by decide) rfl rfl rfl (Nat.le_of_ble_eq_true rfl) dX12_party_139 ⟨Nat.le_of_ble_eq_true rfl, Nat.le_of_ble_eq_true rfl⟩ (fun r_139_451 nw_139_449 l_139_450 H locs hw hO => ?_)
                        rcases hw with hw | hw | hw | hw
                        · obtain ⟨c1_139_452, c2_139_453, c3_139_454, tt_139_455, cd_139_456, hS_139_457, hZ_139_458, h_139_459, h_139_460, rfl, rfl⟩ := hw
                          exact absurd h_139_459 h_93_21
                        · obtain ⟨c1_139_461, c2_139_462, c3_139_463, tt_139_464, cd_139_465, hS_139_466, hZ_139_467, h_139_468, h_139_469, rfl, rfl⟩ := hw
                          exact absurd h_139_468 h_93_21
                        · obtain ⟨c1_139_470, c2_139_471, c3_139_472, tt_139_473, cd_139_474, hS_139_475, hZ_139_476, h_139_477, h_139_478, rfl, rfl⟩ := hw
                          have hO : cO D cy A s.heap s 14 ad (cup [(0, .inr (12, (((((((f0.set 62 (.int 0)).set 56 (.int 2)).set 57 (.int 10000)).set 56 (.int 0)).set 57 (.int 10000)).set 56 (.int 1)).set 56 (.int 2)))), (6, .inl (cy 0, 30, .inl tt_139_473)), (9, .inl (cy 0, 5, .inl (fun _ => 0))), (10, .inl (cy 0, 5, .inl (fun _ => 0))), (12, .inl (cy 2, 5, .inl (fun _ => 0))), (7, .inl (cy 0, 120, .inl (fun _ => 0))), (8, .inl (cy 0, 120, .inl cd_139_474)), (3, .inl (cy 0, 30, .inl c1_139_470)), (4, .inl (cy 0, 30, .inl c2_139_471)), (11, .inl (cy 2, 30, .inl c3_139_472)), (5, .inl (cy 0, 5, .inl (fun _ => 0))), (13, .inl (cy 0, 24, .inl (fun _ => 0)))] g) _ _ := hO
                          refine lv_istore (lv' := [(10, .int (nI (((x5_n * ((0 + 0) + 0)) + 0) + 0))), (9, .int (nI z)), (6, .int (nI bb)), (8, .int 0), (7, .int 0), (0, .ref (ad 0)), (1, .int (nI x1_n)), (2, .int x2), (3, .int x3), (4, .int (nI x4_n)), (5, .int (nI x5_n))]) hx hb dX12_party_142 hl (by decide) rfl (fun ls hl => ?_)
                          refine lv_iload hx hb dX12_party_144 (lv_at hl 2 rfl) ?_
                          refine lv_if_lt (tgt := 159) hx hb dX12_party_146 (by decide) (fun h => (show False from by have z := (nI_ltI (a := bb) (b := 0) (by omega) (by omega)).mp h; omega).elim) (fun _ => ?_)
                          refine lv_iload hx hb dX12_party_149 (lv_at hl 0 rfl) ?_
                          refine lv_iload hx hb dX12_party_151 (lv_at hl 2 rfl) ?_
                          refine lv_icmp_lt (tgt := 159) hx hb dX12_party_153 (by decide) (fun h => (show False from by have z := (nI_ltI (a := (((x5_n * ((0 + 0) + 0)) + 0) + 0)) (b := bb) (by omega) (by omega)).mp h; omega).elim) (fun _ => ?_)
                          refine lv_goto (tgt := 187) hx hb dX12_party_156 (by decide) ?_
                          refine lv_iinc (v := (nI (z + 1))) (lv' := [(9, .int (nI (z + 1))), (10, .int (nI (((x5_n * ((0 + 0) + 0)) + 0) + 0))), (6, .int (nI bb)), (8, .int 0), (7, .int 0), (0, .ref (ad 0)), (1, .int (nI x1_n)), (2, .int x2), (3, .int x3), (4, .int (nI x4_n)), (5, .int (nI x5_n))]) hx hb dX12_party_187 hl (k := 1) rfl (nI_add z 1) (by decide) rfl (fun ls hl => ?_)
                          refine lv_goto (tgt := 110) hx hb dX12_party_190 (by decide) ?_
                          simp only [List.set_set, st_can] at hO
                          have hO : cO D cy A s.heap s 14 ad (cup [(0, .inr (12, (((f0.set 62 (.int 0)).set 56 (.int 2)).set 57 (.int 10000)))), (6, .inl (cy 0, 30, .inl tt_139_473)), (9, .inl (cy 0, 5, .inl (fun _ => 0))), (10, .inl (cy 0, 5, .inl (fun _ => 0))), (12, .inl (cy 2, 5, .inl (fun _ => 0))), (7, .inl (cy 0, 120, .inl (fun _ => 0))), (8, .inl (cy 0, 120, .inl cd_139_474)), (3, .inl (cy 0, 30, .inl c1_139_470)), (4, .inl (cy 0, 30, .inl c2_139_471)), (11, .inl (cy 2, 30, .inl c3_139_472)), (5, .inl (cy 0, 5, .inl (fun _ => 0))), (13, .inl (cy 0, 24, .inl (fun _ => 0)))] g) _ _ := hO
                          exact ih_110_389 (z + 1) bb c1_139_470 c2_139_471 c3_139_472 tt_139_473 cd_139_474 (by omega) hbb (by omega) _ _ hO ls (lv_sub hl [0, 2, 3, 4, 5, 6, 7, 8, 9, 10] rfl)
                        · obtain ⟨c1_139_479, c2_139_480, c3_139_481, tt_139_482, cd_139_483, hS_139_484, hZ_139_485, h_139_486, h_139_487, rfl, rfl⟩ := hw
                          exact absurd h_114_355 h_139_487
                  exact loop_110_386 ((0 + 1) + 1) 1 (((x5_n * ((0 + 0) + 0)) + 0) + 0) c1_139_377 c2_139_378 c3_139_379 tt_139_380 cd_139_381 (by omega) (hZ_139_383 rfl) (by omega) _ _ hO ls (lv_sub hl [0, 1, 3, 4, 5, 6, 7, 8, 9, 10] rfl)
                · obtain ⟨c1_139_488, c2_139_489, c3_139_490, tt_139_491, cd_139_492, hS_139_493, hZ_139_494, h_139_495, h_139_496, rfl, rfl⟩ := hw
                  exact absurd h_114_355 h_139_496
              · have nh_114_355 : ¬ x1_n ≤ 2 := fun z => h_114_355 ((nI_leI (a := x1_n) (b := 2) (by omega) (by omega)).mpr z)
                refine lv_iload hx hb dX12_party_117 (lv_at hl 8 rfl) ?_
                refine lv_goto (tgt := 124) hx hb dX12_party_119 (by decide) ?_
                refine lv_icmp_gt (tgt := 193) hx hb dX12_party_124 (by decide) (fun h => (show False from by have z := (nI_ltI (a := x4_n) (b := 0) (by omega) (by omega)).mp h; omega).elim) (fun _ => ?_)
                refine lv_aload_n hx hb dX12_party_127 rfl (lv_at hl 4 rfl) ?_
                refine lv_iload_n hx hb dX12_party_128 rfl (lv_at hl 5 rfl) ?_
                refine lv_iload_n hx hb dX12_party_129 rfl (lv_at hl 6 rfl) ?_
                refine lv_iload_n hx hb dX12_party_130 rfl (lv_at hl 7 rfl) ?_
                refine lv_iload hx hb dX12_party_131 (lv_at hl 9 rfl) ?_
                refine lv_iload hx hb dX12_party_133 (lv_at hl 2 rfl) ?_
                refine lv_iload hx hb dX12_party_135 (lv_at hl 1 rfl) ?_
                refine lv_iload hx hb dX12_party_137 (lv_at hl 0 rfl) ?_
                refine cg_Vi (As := [.int (nI x1_n), .int x2, .int x3, .int (nI x5_n), .int 0, .int 0, .int 0]) (rest := []) (mc := 0) (ms := 0) (rm := { frames := 3, cells := 0, slots := 0, locals := 63 }) hC hl.1 hO [0, 2, 1, 5, 3, 4, 11, 6, 7, 8, 9, 10, 12] rfl (c_X12_partyPays l D cy _ _ (f0 := (f0.set 62 (.int 0))) (c4 := c3) (c5 := c4) (c7 := c6) (c9 := c8) (c6 := c11) (xm := 0) (xl := 0) (n := x1_n) (s1 := x2) (mi := x3) (la := x5_n) (o1 := 0) (o2 := 0) (o3 := 0) rfl (fs_ne (by decide) f0_12) (fs_ne (by decide) f0_36) (fs_ne (by decide) f0_41) (fs_ne (by decide) f0_42) (fs_ne (by decide) f0_43) (fs_ne (by decide) f0_44) (fs_ne (by decide) f0_47) (fs_ne (by decide) f0_48) (fs_ne (by decide) f0_49) (fs_ne (by decide) f0_50) (fs_ne (by decide) f0_53) (fs_ne (by decide) f0_54) (fs_ne (by decide) f0_55) (fs_ne (by decide) f0_56) (fs_ne (by decide) f0_57) a2 a1 a5 a3 a4 a11 a6 a7 a8 a9 a10 a12 (by omega) (by omega) (by omega) (by omega) (by omega)) gq_c_X12_party_c_X12_partyPays_433 rfl rfl rfl 7 (by decide +kernel) ⟨Nat.le_of_ble_eq_true rfl, Nat.le_of_ble_eq_true rfl⟩ rfl (by decide) rfl rfl rfl (Nat.le_of_ble_eq_true rfl) dX12_party_139 ⟨Nat.le_of_ble_eq_true rfl, Nat.le_of_ble_eq_true rfl⟩ (fun r_139_499 nw_139_497 l_139_498 H locs hw hO => ?_)
                rcases hw with hw | hw | hw | hw
                · obtain ⟨c1_139_500, c2_139_501, c3_139_502, tt_139_503, cd_139_504, hS_139_505, hZ_139_506, h_139_507, h_139_508, rfl, rfl⟩ := hw
                  exact absurd h_139_507 h_93_21
                · obtain ⟨c1_139_509, c2_139_510, c3_139_511, tt_139_512, cd_139_513, hS_139_514, hZ_139_515, h_139_516, h_139_517, rfl, rfl⟩ := hw
                  exact absurd h_139_516 h_93_21
                · obtain ⟨c1_139_518, c2_139_519, c3_139_520, tt_139_521, cd_139_522, hS_139_523, hZ_139_524, h_139_525, h_139_526, rfl, rfl⟩ := hw
                  exact absurd h_139_526 h_114_355
                · obtain ⟨c1_139_527, c2_139_528, c3_139_529, tt_139_530, cd_139_531, hS_139_532, hZ_139_533, h_139_534, h_139_535, rfl, rfl⟩ := hw
                  have hO : cO D cy A s.heap s 14 ad (cup [(0, .inr (12, ((((((f0.set 62 (.int 0)).set 56 (.int 0)).set 57 (.int 10000)).set 56 (.int 1)).set 56 (.int 2)).set 56 (.int 3)))), (6, .inl (cy 0, 30, .inl tt_139_530)), (9, .inl (cy 0, 5, .inl (fun _ => 0))), (10, .inl (cy 0, 5, .inl (fun _ => 0))), (12, .inl (cy 2, 5, .inl (fun _ => 0))), (7, .inl (cy 0, 120, .inl (fun _ => 0))), (8, .inl (cy 0, 120, .inl cd_139_531)), (3, .inl (cy 0, 30, .inl c1_139_527)), (4, .inl (cy 0, 30, .inl c2_139_528)), (11, .inl (cy 2, 30, .inl c3_139_529)), (5, .inl (cy 0, 5, .inl (fun _ => 0)))] g) _ _ := hO
                  refine lv_istore (lv' := [(10, .int (nI ((((x5_n * ((0 + 0) + 0)) + 0) + 0) + 0))), (9, .int 0), (8, .int 0), (7, .int 0), (6, .int (-1)), (0, .ref (ad 0)), (1, .int (nI x1_n)), (2, .int x2), (3, .int x3), (4, .int (nI x4_n)), (5, .int (nI x5_n))]) hx hb dX12_party_142 hl (by decide) rfl (fun ls hl => ?_)
                  refine lv_iload hx hb dX12_party_144 (lv_at hl 4 rfl) ?_
                  refine lv_if_lt (tgt := 159) hx hb dX12_party_146 (by decide) (fun _ => ?_) (fun h => absurd h (by decide))
                  refine lv_iload hx hb dX12_party_159 (lv_at hl 0 rfl) ?_
                  refine lv_istore (lv' := [(6, .int (nI ((((x5_n * ((0 + 0) + 0)) + 0) + 0) + 0))), (10, .int (nI ((((x5_n * ((0 + 0) + 0)) + 0) + 0) + 0))), (9, .int 0), (8, .int 0), (7, .int 0), (0, .ref (ad 0)), (1, .int (nI x1_n)), (2, .int x2), (3, .int x3), (4, .int (nI x4_n)), (5, .int (nI x5_n))]) hx hb dX12_party_161 hl (by decide) rfl (fun ls hl => ?_)
                  refine lv_aload_n hx hb dX12_party_163 rfl (lv_at hl 5 rfl) ?_
                  refine cg_get hC hO 0 (by decide) rfl rfl i_X12 61 (by decide) (List.mem_of_getElem? (i := 53) rfl) (fs_ne (by decide) (fs_ne (by decide) (fs_ne (by decide) (fs_ne (by decide) (fs_ne (by decide) (fs_ne (by decide) f0_61)))))) dX12_party_164 ?_
                  refine lv_iconst (v := 0) hx hb dX12_party_167 (by decide) ?_
                  refine lv_iload hx hb dX12_party_168 (lv_at hl 4 rfl) ?_
                  refine cg_iast hC hO 13 (by decide) a13 (cin (by decide)) dX12_party_170 (fun H locs hO => ?_)
                  have hO : cO D cy A s.heap s 14 ad (cup [(0, .inr (12, ((((((f0.set 62 (.int 0)).set 56 (.int 0)).set 57 (.int 10000)).set 56 (.int 1)).set 56 (.int 2)).set 56 (.int 3)))), (6, .inl (cy 0, 30, .inl tt_139_530)), (9, .inl (cy 0, 5, .inl (fun _ => 0))), (10, .inl (cy 0, 5, .inl (fun _ => 0))), (12, .inl (cy 2, 5, .inl (fun _ => 0))), (7, .inl (cy 0, 120, .inl (fun _ => 0))), (8, .inl (cy 0, 120, .inl cd_139_531)), (3, .inl (cy 0, 30, .inl c1_139_527)), (4, .inl (cy 0, 30, .inl c2_139_528)), (11, .inl (cy 2, 30, .inl c3_139_529)), (5, .inl (cy 0, 5, .inl (fun _ => 0))), (13, .inl (cy 0, 24, .inl (upd (fun _ => 0) (0 : Int32).toNatClampNeg 0)))] g) _ _ := hO
                  rw [upd_const] at hO
                  have hO : cO D cy A s.heap s 14 ad (cup [(0, .inr (12, ((((((f0.set 62 (.int 0)).set 56 (.int 0)).set 57 (.int 10000)).set 56 (.int 1)).set 56 (.int 2)).set 56 (.int 3)))), (6, .inl (cy 0, 30, .inl tt_139_530)), (9, .inl (cy 0, 5, .inl (fun _ => 0))), (10, .inl (cy 0, 5, .inl (fun _ => 0))), (12, .inl (cy 2, 5, .inl (fun _ => 0))), (7, .inl (cy 0, 120, .inl (fun _ => 0))), (8, .inl (cy 0, 120, .inl cd_139_531)), (3, .inl (cy 0, 30, .inl c1_139_527)), (4, .inl (cy 0, 30, .inl c2_139_528)), (11, .inl (cy 2, 30, .inl c3_139_529)), (5, .inl (cy 0, 5, .inl (fun _ => 0))), (13, .inl (cy 0, 24, .inl (fun _ => 0)))] g) _ _ := hO
                  refine lv_aload_n hx hb dX12_party_171 rfl (lv_at hl 5 rfl) ?_
                  refine cg_get hC hO 0 (by decide) rfl rfl i_X12 61 (by decide) (List.mem_of_getElem? (i := 53) rfl) (fs_ne (by decide) (fs_ne (by decide) (fs_ne (by decide) (fs_ne (by decide) (fs_ne (by decide) (fs_ne (by decide) f0_61)))))) dX12_party_172 ?_
                  refine lv_iconst (v := 1) hx hb dX12_party_175 (by decide) ?_
                  refine lv_iload hx hb dX12_party_176 (lv_at hl 3 rfl) ?_
                  refine cg_iast hC hO 13 (by decide) rfl (cin (by decide)) dX12_party_178 (fun H locs hO => ?_)
                  have hO : cO D cy A s.heap s 14 ad (cup [(0, .inr (12, ((((((f0.set 62 (.int 0)).set 56 (.int 0)).set 57 (.int 10000)).set 56 (.int 1)).set 56 (.int 2)).set 56 (.int 3)))), (6, .inl (cy 0, 30, .inl tt_139_530)), (9, .inl (cy 0, 5, .inl (fun _ => 0))), (10, .inl (cy 0, 5, .inl (fun _ => 0))), (12, .inl (cy 2, 5, .inl (fun _ => 0))), (7, .inl (cy 0, 120, .inl (fun _ => 0))), (8, .inl (cy 0, 120, .inl cd_139_531)), (3, .inl (cy 0, 30, .inl c1_139_527)), (4, .inl (cy 0, 30, .inl c2_139_528)), (11, .inl (cy 2, 30, .inl c3_139_529)), (5, .inl (cy 0, 5, .inl (fun _ => 0))), (13, .inl (cy 0, 24, .inl (upd (fun _ => 0) (1 : Int32).toNatClampNeg 0)))] g) _ _ := hO
                  rw [upd_const] at hO
                  have hO : cO D cy A s.heap s 14 ad (cup [(0, .inr (12, ((((((f0.set 62 (.int 0)).set 56 (.int 0)).set 57 (.int 10000)).set 56 (.int 1)).set 56 (.int 2)).set 56 (.int 3)))), (6, .inl (cy 0, 30, .inl tt_139_530)), (9, .inl (cy 0, 5, .inl (fun _ => 0))), (10, .inl (cy 0, 5, .inl (fun _ => 0))), (12, .inl (cy 2, 5, .inl (fun _ => 0))), (7, .inl (cy 0, 120, .inl (fun _ => 0))), (8, .inl (cy 0, 120, .inl cd_139_531)), (3, .inl (cy 0, 30, .inl c1_139_527)), (4, .inl (cy 0, 30, .inl c2_139_528)), (11, .inl (cy 2, 30, .inl c3_139_529)), (5, .inl (cy 0, 5, .inl (fun _ => 0))), (13, .inl (cy 0, 24, .inl (fun _ => 0)))] g) _ _ := hO
                  refine lv_aload_n hx hb dX12_party_179 rfl (lv_at hl 5 rfl) ?_
                  refine cg_get hC hO 0 (by decide) rfl rfl i_X12 61 (by decide) (List.mem_of_getElem? (i := 53) rfl) (fs_ne (by decide) (fs_ne (by decide) (fs_ne (by decide) (fs_ne (by decide) (fs_ne (by decide) (fs_ne (by decide) f0_61)))))) dX12_party_180 ?_
                  refine lv_iconst (v := 2) hx hb dX12_party_183 (by decide) ?_
                  refine lv_iload hx hb dX12_party_184 (lv_at hl 2 rfl) ?_
                  refine cg_iast hC hO 13 (by decide) rfl (cin (by decide)) dX12_party_186 (fun H locs hO => ?_)
                  have hO : cO D cy A s.heap s 14 ad (cup [(0, .inr (12, ((((((f0.set 62 (.int 0)).set 56 (.int 0)).set 57 (.int 10000)).set 56 (.int 1)).set 56 (.int 2)).set 56 (.int 3)))), (6, .inl (cy 0, 30, .inl tt_139_530)), (9, .inl (cy 0, 5, .inl (fun _ => 0))), (10, .inl (cy 0, 5, .inl (fun _ => 0))), (12, .inl (cy 2, 5, .inl (fun _ => 0))), (7, .inl (cy 0, 120, .inl (fun _ => 0))), (8, .inl (cy 0, 120, .inl cd_139_531)), (3, .inl (cy 0, 30, .inl c1_139_527)), (4, .inl (cy 0, 30, .inl c2_139_528)), (11, .inl (cy 2, 30, .inl c3_139_529)), (5, .inl (cy 0, 5, .inl (fun _ => 0))), (13, .inl (cy 0, 24, .inl (upd (fun _ => 0) (2 : Int32).toNatClampNeg 0)))] g) _ _ := hO
                  rw [upd_const] at hO
                  have hO : cO D cy A s.heap s 14 ad (cup [(0, .inr (12, ((((((f0.set 62 (.int 0)).set 56 (.int 0)).set 57 (.int 10000)).set 56 (.int 1)).set 56 (.int 2)).set 56 (.int 3)))), (6, .inl (cy 0, 30, .inl tt_139_530)), (9, .inl (cy 0, 5, .inl (fun _ => 0))), (10, .inl (cy 0, 5, .inl (fun _ => 0))), (12, .inl (cy 2, 5, .inl (fun _ => 0))), (7, .inl (cy 0, 120, .inl (fun _ => 0))), (8, .inl (cy 0, 120, .inl cd_139_531)), (3, .inl (cy 0, 30, .inl c1_139_527)), (4, .inl (cy 0, 30, .inl c2_139_528)), (11, .inl (cy 2, 30, .inl c3_139_529)), (5, .inl (cy 0, 5, .inl (fun _ => 0))), (13, .inl (cy 0, 24, .inl (fun _ => 0)))] g) _ _ := hO
                  refine lv_iinc (v := 1) (lv' := [(9, .int 1), (6, .int (nI ((((x5_n * ((0 + 0) + 0)) + 0) + 0) + 0))), (10, .int (nI ((((x5_n * ((0 + 0) + 0)) + 0) + 0) + 0))), (8, .int 0), (7, .int 0), (0, .ref (ad 0)), (1, .int (nI x1_n)), (2, .int x2), (3, .int x3), (4, .int (nI x4_n)), (5, .int (nI x5_n))]) hx hb dX12_party_187 hl (k := 2) rfl (by decide) (by decide) rfl (fun ls hl => ?_)
                  refine lv_goto (tgt := 110) hx hb dX12_party_190 (by decide) ?_
                  simp only [List.set_set, st_can] at hO
                  have hO : cO D cy A s.heap s 14 ad (cup [(0, .inr (12, (((f0.set 62 (.int 0)).set 56 (.int 3)).set 57 (.int 10000)))), (6, .inl (cy 0, 30, .inl tt_139_530)), (9, .inl (cy 0, 5, .inl (fun _ => 0))), (10, .inl (cy 0, 5, .inl (fun _ => 0))), (12, .inl (cy 2, 5, .inl (fun _ => 0))), (7, .inl (cy 0, 120, .inl (fun _ => 0))), (8, .inl (cy 0, 120, .inl cd_139_531)), (3, .inl (cy 0, 30, .inl c1_139_527)), (4, .inl (cy 0, 30, .inl c2_139_528)), (11, .inl (cy 2, 30, .inl c3_139_529)), (5, .inl (cy 0, 5, .inl (fun _ => 0))), (13, .inl (cy 0, 24, .inl (fun _ => 0)))] g) _ _ := hO
                  have loop_110_536 : ∀ (d_110_537 : Nat) (z : Nat) (bb : Nat) (r3 : Nat → Int32) (r4 : Nat → Int32) (r11 : Nat → Int32) (r6 : Nat → Int32) (r8 : Nat → Int32), (z ≤ x4_n + 1) → (bb = 0) → x4_n + 1 - z < d_110_537 → ∀ (H : Heap) (locs : List Loc), cO D cy A s.heap s 14 ad (cup [(0, .inr (12, (((f0.set 62 (.int 0)).set 56 (.int 3)).set 57 (.int 10000)))), (6, .inl (cy 0, 30, .inl r6)), (9, .inl (cy 0, 5, .inl (fun _ => 0))), (10, .inl (cy 0, 5, .inl (fun _ => 0))), (12, .inl (cy 2, 5, .inl (fun _ => 0))), (7, .inl (cy 0, 120, .inl (fun _ => 0))), (8, .inl (cy 0, 120, .inl r8)), (3, .inl (cy 0, 30, .inl r3)), (4, .inl (cy 0, 30, .inl r4)), (11, .inl (cy 2, 30, .inl r11)), (5, .inl (cy 0, 5, .inl (fun _ => 0))), (13, .inl (cy 0, 24, .inl (fun _ => 0)))] g) H locs → ∀ ls : Array Slot, lv_has ls 11 [(9, .int (nI z)), (6, .int (nI bb)), (8, .int 0), (7, .int 0), (0, .ref (ad 0)), (1, .int (nI x1_n)), (2, .int x2), (3, .int x3), (4, .int (nI x4_n)), (5, .int (nI x5_n))] → W p l e { frames := 4, cells := 0, slots := 0, locals := 93 } s m [.ref (ad 0), .int x1, .int x2, .int x3, .int x4, .int x5].toArray below meth c H locs 0 0 (MQ below (cQi (fun r nw lu => r = ans_party x1 x2 x3 x4 x5) D 14 0 ad g A) [.ref (ad 0), .int x1, .int x2, .int x3, .int x4, .int x5].toArray s 0 0 A) (F0 m 110 ls []) := by
                    intro d_110_537
                    induction d_110_537 with
                    | zero => intro z bb r3 r4 r11 r6 r8 hz hbb mu_110_538; exact absurd mu_110_538 (Nat.not_lt_zero _)
                    | succ d_110_537 ih_110_539 =>
                      intro z bb r3 r4 r11 r6 r8 hz hbb mu_110_538 H locs hO ls hl
                      refine lv_iload hx hb dX12_party_110 (lv_at hl 0 rfl) ?_
                      refine lv_iload_n hx hb dX12_party_112 rfl (lv_at hl 5 rfl) ?_
                      refine lv_iconst (v := 2) hx hb dX12_party_113 (by decide) ?_
                      refine lv_icmp_le (tgt := 122) hx hb dX12_party_114 (by decide) (fun h => absurd h h_114_355) (fun _ => ?_)
                      refine lv_iload hx hb dX12_party_117 (lv_at hl 8 rfl) ?_
                      refine lv_goto (tgt := 124) hx hb dX12_party_119 (by decide) ?_
                      refine lv_icmp_gt (tgt := 193) hx hb dX12_party_124 (by decide) (fun h_124_540 => ?_) (fun h_124_540 => ?_)
                      · have nh_124_540 : x4_n < z := (nI_ltI (by omega) (by omega)).mp h_124_540
                        refine lv_iinc (v := 1) (lv' := [(8, .int 1), (9, .int (nI z)), (6, .int (nI bb)), (7, .int 0), (0, .ref (ad 0)), (1, .int (nI x1_n)), (2, .int x2), (3, .int x3), (4, .int (nI x4_n)), (5, .int (nI x5_n))]) hx hb dX12_party_193 hl (k := 2) rfl (by decide) (by decide) rfl (fun ls hl => ?_)
                        refine lv_goto (tgt := 89) hx hb dX12_party_196 (by decide) ?_
                        have hO : cO D cy A s.heap s 14 ad (cup [(0, .inr (12, (((f0.set 62 (.int 0)).set 56 (.int 3)).set 57 (.int 10000)))), (6, .inl (cy 0, 30, .inl r6)), (9, .inl (cy 0, 5, .inl (fun _ => 0))), (10, .inl (cy 0, 5, .inl (fun _ => 0))), (12, .inl (cy 2, 5, .inl (fun _ => 0))), (7, .inl (cy 0, 120, .inl (fun _ => 0))), (8, .inl (cy 0, 120, .inl r8)), (3, .inl (cy 0, 30, .inl r3)), (4, .inl (cy 0, 30, .inl r4)), (11, .inl (cy 2, 30, .inl r11)), (5, .inl (cy 0, 5, .inl (fun _ => 0))), (13, .inl (cy 0, 24, .inl (fun _ => 0)))] g) _ _ := hO
                        have loop_89_541 : ∀ (d_89_542 : Nat) (y : Nat) (bm : Nat) (t3 : Nat → Int32) (t4 : Nat → Int32) (t11 : Nat → Int32) (t6 : Nat → Int32) (t8 : Nat → Int32), (y ≤ x4_n + 1) → (bm = 0) → x4_n + 1 - y < d_89_542 → ∀ (H : Heap) (locs : List Loc), cO D cy A s.heap s 14 ad (cup [(0, .inr (12, (((f0.set 62 (.int 0)).set 56 (.int 3)).set 57 (.int 10000)))), (6, .inl (cy 0, 30, .inl t6)), (9, .inl (cy 0, 5, .inl (fun _ => 0))), (10, .inl (cy 0, 5, .inl (fun _ => 0))), (12, .inl (cy 2, 5, .inl (fun _ => 0))), (7, .inl (cy 0, 120, .inl (fun _ => 0))), (8, .inl (cy 0, 120, .inl t8)), (3, .inl (cy 0, 30, .inl t3)), (4, .inl (cy 0, 30, .inl t4)), (11, .inl (cy 2, 30, .inl t11)), (5, .inl (cy 0, 5, .inl (fun _ => 0))), (13, .inl (cy 0, 24, .inl (fun _ => 0)))] g) H locs → ∀ ls : Array Slot, lv_has ls 11 [(8, .int (nI y)), (6, .int (nI bm)), (7, .int 0), (0, .ref (ad 0)), (1, .int (nI x1_n)), (2, .int x2), (3, .int x3), (4, .int (nI x4_n)), (5, .int (nI x5_n))] → W p l e { frames := 4, cells := 0, slots := 0, locals := 93 } s m [.ref (ad 0), .int x1, .int x2, .int x3, .int x4, .int x5].toArray below meth c H locs 0 0 (MQ below (cQi (fun r nw lu => r = ans_party x1 x2 x3 x4 x5) D 14 0 ad g A) [.ref (ad 0), .int x1, .int x2, .int x3, .int x4, .int x5].toArray s 0 0 A) (F0 m 89 ls []) := by
                          intro d_89_542
                          induction d_89_542 with
                          | zero => intro y bm t3 t4 t11 t6 t8 hy hbm mu_89_543; exact absurd mu_89_543 (Nat.not_lt_zero _)
                          | succ d_89_542 ih_89_544 =>
                            intro y bm t3 t4 t11 t6 t8 hy hbm mu_89_543 H locs hO ls hl
                            refine lv_iload hx hb dX12_party_89 (lv_at hl 0 rfl) ?_
                            refine lv_iload_n hx hb dX12_party_91 rfl (lv_at hl 4 rfl) ?_
                            refine lv_iconst (v := 1) hx hb dX12_party_92 (by decide) ?_
                            refine lv_icmp_le (tgt := 101) hx hb dX12_party_93 (by decide) (fun h => absurd h h_93_21) (fun _ => ?_)
                            refine lv_iload hx hb dX12_party_96 (lv_at hl 7 rfl) ?_
                            refine lv_goto (tgt := 103) hx hb dX12_party_98 (by decide) ?_
                            refine lv_icmp_gt (tgt := 199) hx hb dX12_party_103 (by decide) (fun h_103_545 => ?_) (fun h_103_545 => ?_)
                            · have nh_103_545 : x4_n < y := (nI_ltI (by omega) (by omega)).mp h_103_545
                              refine lv_iinc (v := 1) (lv' := [(7, .int 1), (8, .int (nI y)), (6, .int (nI bm)), (0, .ref (ad 0)), (1, .int (nI x1_n)), (2, .int x2), (3, .int x3), (4, .int (nI x4_n)), (5, .int (nI x5_n))]) hx hb dX12_party_199 hl (k := 2) rfl (by decide) (by decide) rfl (fun ls hl => ?_)
                              refine lv_goto (tgt := 78) hx hb dX12_party_202 (by decide) ?_
                              have hO : cO D cy A s.heap s 14 ad (cup [(0, .inr (12, (((f0.set 62 (.int 0)).set 56 (.int 3)).set 57 (.int 10000)))), (6, .inl (cy 0, 30, .inl t6)), (9, .inl (cy 0, 5, .inl (fun _ => 0))), (10, .inl (cy 0, 5, .inl (fun _ => 0))), (12, .inl (cy 2, 5, .inl (fun _ => 0))), (7, .inl (cy 0, 120, .inl (fun _ => 0))), (8, .inl (cy 0, 120, .inl t8)), (3, .inl (cy 0, 30, .inl t3)), (4, .inl (cy 0, 30, .inl t4)), (11, .inl (cy 2, 30, .inl t11)), (5, .inl (cy 0, 5, .inl (fun _ => 0))), (13, .inl (cy 0, 24, .inl (fun _ => 0)))] g) _ _ := hO
                              have loop_78_546 : ∀ (d_78_547 : Nat) (o : Nat) (bo : Nat) (u3 : Nat → Int32) (u4 : Nat → Int32) (u11 : Nat → Int32) (u6 : Nat → Int32) (u8 : Nat → Int32), (o ≤ x4_n + 1) → (bo = 0) → x4_n + 1 - o < d_78_547 → ∀ (H : Heap) (locs : List Loc), cO D cy A s.heap s 14 ad (cup [(0, .inr (12, (((f0.set 62 (.int 0)).set 56 (.int 3)).set 57 (.int 10000)))), (6, .inl (cy 0, 30, .inl u6)), (9, .inl (cy 0, 5, .inl (fun _ => 0))), (10, .inl (cy 0, 5, .inl (fun _ => 0))), (12, .inl (cy 2, 5, .inl (fun _ => 0))), (7, .inl (cy 0, 120, .inl (fun _ => 0))), (8, .inl (cy 0, 120, .inl u8)), (3, .inl (cy 0, 30, .inl u3)), (4, .inl (cy 0, 30, .inl u4)), (11, .inl (cy 2, 30, .inl u11)), (5, .inl (cy 0, 5, .inl (fun _ => 0))), (13, .inl (cy 0, 24, .inl (fun _ => 0)))] g) H locs → ∀ ls : Array Slot, lv_has ls 11 [(7, .int (nI o)), (6, .int (nI bo)), (0, .ref (ad 0)), (1, .int (nI x1_n)), (2, .int x2), (3, .int x3), (4, .int (nI x4_n)), (5, .int (nI x5_n))] → W p l e { frames := 4, cells := 0, slots := 0, locals := 93 } s m [.ref (ad 0), .int x1, .int x2, .int x3, .int x4, .int x5].toArray below meth c H locs 0 0 (MQ below (cQi (fun r nw lu => r = ans_party x1 x2 x3 x4 x5) D 14 0 ad g A) [.ref (ad 0), .int x1, .int x2, .int x3, .int x4, .int x5].toArray s 0 0 A) (F0 m 78 ls []) := by
                                intro d_78_547
                                induction d_78_547 with
                                | zero => intro o bo u3 u4 u11 u6 u8 ho hbo mu_78_548; exact absurd mu_78_548 (Nat.not_lt_zero _)
                                | succ d_78_547 ih_78_549 =>
                                  intro o bo u3 u4 u11 u6 u8 ho hbo mu_78_548 H locs hO ls hl
                                  refine lv_iload hx hb dX12_party_78 (lv_at hl 0 rfl) ?_
                                  refine lv_iload hx hb dX12_party_80 (lv_at hl 6 rfl) ?_
                                  refine lv_icmp_gt (tgt := 205) hx hb dX12_party_82 (by decide) (fun h_82_550 => ?_) (fun h_82_550 => ?_)
                                  · have nh_82_550 : x4_n < o := (nI_ltI (by omega) (by omega)).mp h_82_550
                                    refine lv_aload_n hx hb dX12_party_205 rfl (lv_at hl 2 rfl) ?_
                                    refine lv_iload_n hx hb dX12_party_206 rfl (lv_at hl 3 rfl) ?_
                                    refine cg_put hC hO 0 (by decide) rfl rfl i_X12 tyX12_ok nmX12 62 (by decide) (List.mem_of_getElem? (i := 1) rfl) rfl rfl rfl (fs_lt (fs_ne (by decide) (fs_ne (by decide) (fs_eq f0_62)))) dX12_party_207 (fun H locs hO => ?_)
                                    have hO : cO D cy A s.heap s 14 ad (cup [(0, .inr (12, ((((f0.set 62 (.int 0)).set 56 (.int 3)).set 57 (.int 10000)).set 62 (.int (nI x1_n))))), (6, .inl (cy 0, 30, .inl u6)), (9, .inl (cy 0, 5, .inl (fun _ => 0))), (10, .inl (cy 0, 5, .inl (fun _ => 0))), (12, .inl (cy 2, 5, .inl (fun _ => 0))), (7, .inl (cy 0, 120, .inl (fun _ => 0))), (8, .inl (cy 0, 120, .inl u8)), (3, .inl (cy 0, 30, .inl u3)), (4, .inl (cy 0, 30, .inl u4)), (11, .inl (cy 2, 30, .inl u11)), (5, .inl (cy 0, 5, .inl (fun _ => 0))), (13, .inl (cy 0, 24, .inl (fun _ => 0)))] g) _ _ := hO
                                    refine lv_iload hx hb dX12_party_210 (lv_at hl 1 rfl) ?_
                                    exact cg_iret (nw := fun _ => 0) hC hr hlk hO.same rfl (Nat.le_of_ble_eq_true rfl) (Nat.le_of_ble_eq_true rfl) (by rw [hbo]; exact (if_pos ⟨hr_8_4, hr_18_8, hr_29_12, hr_40_16, hr_51_20⟩).symm) dX12_party_212
                                  · have nh_82_550 : ¬ x4_n < o := fun z => h_82_550 ((nI_ltI (by omega) (by omega)).mpr z)
                                    refine lv_iload hx hb dX12_party_85 (lv_at hl 0 rfl) ?_
                                    refine lv_istore (lv' := [(8, .int (nI o)), (7, .int (nI o)), (6, .int (nI bo)), (0, .ref (ad 0)), (1, .int (nI x1_n)), (2, .int x2), (3, .int x3), (4, .int (nI x4_n)), (5, .int (nI x5_n))]) hx hb dX12_party_87 hl (by decide) rfl (fun ls hl => ?_)
                                    have hO : cO D cy A s.heap s 14 ad (cup [(0, .inr (12, (((f0.set 62 (.int 0)).set 56 (.int 3)).set 57 (.int 10000)))), (6, .inl (cy 0, 30, .inl u6)), (9, .inl (cy 0, 5, .inl (fun _ => 0))), (10, .inl (cy 0, 5, .inl (fun _ => 0))), (12, .inl (cy 2, 5, .inl (fun _ => 0))), (7, .inl (cy 0, 120, .inl (fun _ => 0))), (8, .inl (cy 0, 120, .inl u8)), (3, .inl (cy 0, 30, .inl u3)), (4, .inl (cy 0, 30, .inl u4)), (11, .inl (cy 2, 30, .inl u11)), (5, .inl (cy 0, 5, .inl (fun _ => 0))), (13, .inl (cy 0, 24, .inl (fun _ => 0)))] g) _ _ := hO
                                    have loop_89_551 : ∀ (d_89_552 : Nat) (y : Nat) (bm : Nat) (t3 : Nat → Int32) (t4 : Nat → Int32) (t11 : Nat → Int32) (t6 : Nat → Int32) (t8 : Nat → Int32), (y ≤ x4_n + 1) → (bm = 0) → x4_n + 1 - y < d_89_552 → ∀ (H : Heap) (locs : List Loc), cO D cy A s.heap s 14 ad (cup [(0, .inr (12, (((f0.set 62 (.int 0)).set 56 (.int 3)).set 57 (.int 10000)))), (6, .inl (cy 0, 30, .inl t6)), (9, .inl (cy 0, 5, .inl (fun _ => 0))), (10, .inl (cy 0, 5, .inl (fun _ => 0))), (12, .inl (cy 2, 5, .inl (fun _ => 0))), (7, .inl (cy 0, 120, .inl (fun _ => 0))), (8, .inl (cy 0, 120, .inl t8)), (3, .inl (cy 0, 30, .inl t3)), (4, .inl (cy 0, 30, .inl t4)), (11, .inl (cy 2, 30, .inl t11)), (5, .inl (cy 0, 5, .inl (fun _ => 0))), (13, .inl (cy 0, 24, .inl (fun _ => 0)))] g) H locs → ∀ ls : Array Slot, lv_has ls 11 [(8, .int (nI y)), (7, .int (nI o)), (6, .int (nI bm)), (0, .ref (ad 0)), (1, .int (nI x1_n)), (2, .int x2), (3, .int x3), (4, .int (nI x4_n)), (5, .int (nI x5_n))] → W p l e { frames := 4, cells := 0, slots := 0, locals := 93 } s m [.ref (ad 0), .int x1, .int x2, .int x3, .int x4, .int x5].toArray below meth c H locs 0 0 (MQ below (cQi (fun r nw lu => r = ans_party x1 x2 x3 x4 x5) D 14 0 ad g A) [.ref (ad 0), .int x1, .int x2, .int x3, .int x4, .int x5].toArray s 0 0 A) (F0 m 89 ls []) := by
                                      intro d_89_552
                                      induction d_89_552 with
                                      | zero => intro y bm t3 t4 t11 t6 t8 hy hbm mu_89_553; exact absurd mu_89_553 (Nat.not_lt_zero _)
                                      | succ d_89_552 ih_89_554 =>
                                        intro y bm t3 t4 t11 t6 t8 hy hbm mu_89_553 H locs hO ls hl
                                        refine lv_iload hx hb dX12_party_89 (lv_at hl 0 rfl) ?_
                                        refine lv_iload_n hx hb dX12_party_91 rfl (lv_at hl 4 rfl) ?_
                                        refine lv_iconst (v := 1) hx hb dX12_party_92 (by decide) ?_
                                        refine lv_icmp_le (tgt := 101) hx hb dX12_party_93 (by decide) (fun h => absurd h h_93_21) (fun _ => ?_)
                                        refine lv_iload hx hb dX12_party_96 (lv_at hl 7 rfl) ?_
                                        refine lv_goto (tgt := 103) hx hb dX12_party_98 (by decide) ?_
                                        refine lv_icmp_gt (tgt := 199) hx hb dX12_party_103 (by decide) (fun _ => ?_) (fun h => absurd h_103_545 h)
                                        refine lv_iinc (v := (nI (o + 1))) (lv' := [(7, .int (nI (o + 1))), (8, .int (nI y)), (6, .int (nI bm)), (0, .ref (ad 0)), (1, .int (nI x1_n)), (2, .int x2), (3, .int x3), (4, .int (nI x4_n)), (5, .int (nI x5_n))]) hx hb dX12_party_199 hl (k := 1) rfl (nI_add o 1) (by decide) rfl (fun ls hl => ?_)
                                        refine lv_goto (tgt := 78) hx hb dX12_party_202 (by decide) ?_
                                        have hO : cO D cy A s.heap s 14 ad (cup [(0, .inr (12, (((f0.set 62 (.int 0)).set 56 (.int 3)).set 57 (.int 10000)))), (6, .inl (cy 0, 30, .inl t6)), (9, .inl (cy 0, 5, .inl (fun _ => 0))), (10, .inl (cy 0, 5, .inl (fun _ => 0))), (12, .inl (cy 2, 5, .inl (fun _ => 0))), (7, .inl (cy 0, 120, .inl (fun _ => 0))), (8, .inl (cy 0, 120, .inl t8)), (3, .inl (cy 0, 30, .inl t3)), (4, .inl (cy 0, 30, .inl t4)), (11, .inl (cy 2, 30, .inl t11)), (5, .inl (cy 0, 5, .inl (fun _ => 0))), (13, .inl (cy 0, 24, .inl (fun _ => 0)))] g) _ _ := hO
                                        exact ih_78_549 (o + 1) bm t3 t4 t11 t6 t8 (by omega) hbm (by omega) _ _ hO ls (lv_sub hl [0, 2, 3, 4, 5, 6, 7, 8] rfl)
                                    exact loop_89_551 ((x4_n + 1) + 1) o bo u3 u4 u11 u6 u8 (by omega) hbo (by omega) _ _ hO ls (lv_sub hl [0, 1, 2, 3, 4, 5, 6, 7, 8] rfl)
                              exact loop_78_546 ((x4_n + 1) + 1) 1 bm t3 t4 t11 t6 t8 (by omega) hbm (by omega) _ _ hO ls (lv_sub hl [0, 2, 3, 4, 5, 6, 7, 8] rfl)
                            · have nh_103_545 : ¬ x4_n < y := fun z => h_103_545 ((nI_ltI (by omega) (by omega)).mpr z)
                              refine lv_iload hx hb dX12_party_106 (lv_at hl 0 rfl) ?_
                              refine lv_istore (lv' := [(9, .int (nI y)), (8, .int (nI y)), (6, .int (nI bm)), (7, .int 0), (0, .ref (ad 0)), (1, .int (nI x1_n)), (2, .int x2), (3, .int x3), (4, .int (nI x4_n)), (5, .int (nI x5_n))]) hx hb dX12_party_108 hl (by decide) rfl (fun ls hl => ?_)
                              have hO : cO D cy A s.heap s 14 ad (cup [(0, .inr (12, (((f0.set 62 (.int 0)).set 56 (.int 3)).set 57 (.int 10000)))), (6, .inl (cy 0, 30, .inl t6)), (9, .inl (cy 0, 5, .inl (fun _ => 0))), (10, .inl (cy 0, 5, .inl (fun _ => 0))), (12, .inl (cy 2, 5, .inl (fun _ => 0))), (7, .inl (cy 0, 120, .inl (fun _ => 0))), (8, .inl (cy 0, 120, .inl t8)), (3, .inl (cy 0, 30, .inl t3)), (4, .inl (cy 0, 30, .inl t4)), (11, .inl (cy 2, 30, .inl t11)), (5, .inl (cy 0, 5, .inl (fun _ => 0))), (13, .inl (cy 0, 24, .inl (fun _ => 0)))] g) _ _ := hO
                              have loop_110_555 : ∀ (d_110_556 : Nat) (z : Nat) (bb : Nat) (r3 : Nat → Int32) (r4 : Nat → Int32) (r11 : Nat → Int32) (r6 : Nat → Int32) (r8 : Nat → Int32), (z ≤ x4_n + 1) → (bb = 0) → x4_n + 1 - z < d_110_556 → ∀ (H : Heap) (locs : List Loc), cO D cy A s.heap s 14 ad (cup [(0, .inr (12, (((f0.set 62 (.int 0)).set 56 (.int 3)).set 57 (.int 10000)))), (6, .inl (cy 0, 30, .inl r6)), (9, .inl (cy 0, 5, .inl (fun _ => 0))), (10, .inl (cy 0, 5, .inl (fun _ => 0))), (12, .inl (cy 2, 5, .inl (fun _ => 0))), (7, .inl (cy 0, 120, .inl (fun _ => 0))), (8, .inl (cy 0, 120, .inl r8)), (3, .inl (cy 0, 30, .inl r3)), (4, .inl (cy 0, 30, .inl r4)), (11, .inl (cy 2, 30, .inl r11)), (5, .inl (cy 0, 5, .inl (fun _ => 0))), (13, .inl (cy 0, 24, .inl (fun _ => 0)))] g) H locs → ∀ ls : Array Slot, lv_has ls 11 [(9, .int (nI z)), (8, .int (nI y)), (6, .int (nI bb)), (7, .int 0), (0, .ref (ad 0)), (1, .int (nI x1_n)), (2, .int x2), (3, .int x3), (4, .int (nI x4_n)), (5, .int (nI x5_n))] → W p l e { frames := 4, cells := 0, slots := 0, locals := 93 } s m [.ref (ad 0), .int x1, .int x2, .int x3, .int x4, .int x5].toArray below meth c H locs 0 0 (MQ below (cQi (fun r nw lu => r = ans_party x1 x2 x3 x4 x5) D 14 0 ad g A) [.ref (ad 0), .int x1, .int x2, .int x3, .int x4, .int x5].toArray s 0 0 A) (F0 m 110 ls []) := by
                                intro d_110_556
                                induction d_110_556 with
                                | zero => intro z bb r3 r4 r11 r6 r8 hz hbb mu_110_557; exact absurd mu_110_557 (Nat.not_lt_zero _)
                                | succ d_110_556 ih_110_558 =>
                                  intro z bb r3 r4 r11 r6 r8 hz hbb mu_110_557 H locs hO ls hl
                                  refine lv_iload hx hb dX12_party_110 (lv_at hl 0 rfl) ?_
                                  refine lv_iload_n hx hb dX12_party_112 rfl (lv_at hl 5 rfl) ?_
                                  refine lv_iconst (v := 2) hx hb dX12_party_113 (by decide) ?_
                                  refine lv_icmp_le (tgt := 122) hx hb dX12_party_114 (by decide) (fun h => absurd h h_114_355) (fun _ => ?_)
                                  refine lv_iload hx hb dX12_party_117 (lv_at hl 8 rfl) ?_
                                  refine lv_goto (tgt := 124) hx hb dX12_party_119 (by decide) ?_
                                  refine lv_icmp_gt (tgt := 193) hx hb dX12_party_124 (by decide) (fun _ => ?_) (fun h => absurd h_124_540 h)
                                  refine lv_iinc (v := (nI (y + 1))) (lv' := [(8, .int (nI (y + 1))), (9, .int (nI z)), (6, .int (nI bb)), (7, .int 0), (0, .ref (ad 0)), (1, .int (nI x1_n)), (2, .int x2), (3, .int x3), (4, .int (nI x4_n)), (5, .int (nI x5_n))]) hx hb dX12_party_193 hl (k := 1) rfl (nI_add y 1) (by decide) rfl (fun ls hl => ?_)
                                  refine lv_goto (tgt := 89) hx hb dX12_party_196 (by decide) ?_
                                  have hO : cO D cy A s.heap s 14 ad (cup [(0, .inr (12, (((f0.set 62 (.int 0)).set 56 (.int 3)).set 57 (.int 10000)))), (6, .inl (cy 0, 30, .inl r6)), (9, .inl (cy 0, 5, .inl (fun _ => 0))), (10, .inl (cy 0, 5, .inl (fun _ => 0))), (12, .inl (cy 2, 5, .inl (fun _ => 0))), (7, .inl (cy 0, 120, .inl (fun _ => 0))), (8, .inl (cy 0, 120, .inl r8)), (3, .inl (cy 0, 30, .inl r3)), (4, .inl (cy 0, 30, .inl r4)), (11, .inl (cy 2, 30, .inl r11)), (5, .inl (cy 0, 5, .inl (fun _ => 0))), (13, .inl (cy 0, 24, .inl (fun _ => 0)))] g) _ _ := hO
                                  exact ih_89_544 (y + 1) bb r3 r4 r11 r6 r8 (by omega) hbb (by omega) _ _ hO ls (lv_sub hl [0, 2, 3, 4, 5, 6, 7, 8, 9] rfl)
                              exact loop_110_555 ((x4_n + 1) + 1) y bm t3 t4 t11 t6 t8 (by omega) hbm (by omega) _ _ hO ls (lv_sub hl [0, 1, 2, 3, 4, 5, 6, 7, 8, 9] rfl)
                        exact loop_89_541 ((x4_n + 1) + 1) 1 bb r3 r4 r11 r6 r8 (by omega) hbb (by omega) _ _ hO ls (lv_sub hl [0, 2, 3, 4, 5, 6, 7, 8, 9] rfl)
                      · have nh_124_540 : ¬ x4_n < z := fun z => h_124_540 ((nI_ltI (by omega) (by omega)).mpr z)
                        refine lv_aload_n hx hb dX12_party_127 rfl (lv_at hl 4 rfl) ?_
                        refine lv_iload_n hx hb dX12_party_128 rfl (lv_at hl 5 rfl) ?_
                        refine lv_iload_n hx hb dX12_party_129 rfl (lv_at hl 6 rfl) ?_
                        refine lv_iload_n hx hb dX12_party_130 rfl (lv_at hl 7 rfl) ?_
                        refine lv_iload hx hb dX12_party_131 (lv_at hl 9 rfl) ?_
                        refine lv_iload hx hb dX12_party_133 (lv_at hl 3 rfl) ?_
                        refine lv_iload hx hb dX12_party_135 (lv_at hl 2 rfl) ?_
                        refine lv_iload hx hb dX12_party_137 (lv_at hl 0 rfl) ?_
                        refine cg_Vi (As := [.int (nI x1_n), .int x2, .int x3, .int (nI x5_n), .int 0, .int 0, .int (nI z)]) (rest := []) (mc := 0) (ms := 0) (rm := { frames := 3, cells := 0, slots := 0, locals := 63 }) hC hl.1 hO [0, 2, 1, 5, 3, 4, 11, 6, 7, 8, 9, 10, 12] rfl (c_X12_partyPays l D cy _ _ (f0 := (((f0.set 62 (.int 0)).set 56 (.int 3)).set 57 (.int 10000))) (c4 := r3) (c5 := r4) (c7 := r6) (c9 := r8) (c6 := r11) (xm := 3) (xl := 10000) (n := x1_n) (s1 := x2) (mi := x3) (la := x5_n) (o1 := 0) (o2 := 0) (o3 := z) rfl (fs_ne (by decide) (fs_ne (by decide) (fs_ne (by decide) f0_12))) (fs_ne (by decide) (fs_ne (by decide) (fs_ne (by decide) f0_36))) (fs_ne (by decide) (fs_ne (by decide) (fs_ne (by decide) f0_41))) (fs_ne (by decide) (fs_ne (by decide) (fs_ne (by decide) f0_42))) (fs_ne (by decide) (fs_ne (by decide) (fs_ne (by decide) f0_43))) (fs_ne (by decide) (fs_ne (by decide) (fs_ne (by decide) f0_44))) (fs_ne (by decide) (fs_ne (by decide) (fs_ne (by decide) f0_47))) (fs_ne (by decide) (fs_ne (by decide) (fs_ne (by decide) f0_48))) (fs_ne (by decide) (fs_ne (by decide) (fs_ne (by decide) f0_49))) (fs_ne (by decide) (fs_ne (by decide) (fs_ne (by decide) f0_50))) (fs_ne (by decide) (fs_ne (by decide) (fs_ne (by decide) f0_53))) (fs_ne (by decide) (fs_ne (by decide) (fs_ne (by decide) f0_54))) (fs_ne (by decide) (fs_ne (by decide) (fs_ne (by decide) f0_55))) (fs_ne (by decide) (fs_eq (fs_ne (by decide) f0_56))) (fs_eq (fs_ne (by decide) (fs_ne (by decide) f0_57))) a2 a1 rfl rfl rfl rfl rfl rfl rfl rfl rfl rfl (by omega) (by omega) (by omega) (by omega) (by omega)) gq_c_X12_party_c_X12_partyPays_433 rfl rfl rfl 7 (by decide +kernel) ⟨Nat.le_of_ble_eq_true rfl, Nat.le_of_ble_eq_true rfl⟩ rfl (by decide) rfl rfl rfl (Nat.le_of_ble_eq_true rfl) dX12_party_139 ⟨Nat.le_of_ble_eq_true rfl, Nat.le_of_ble_eq_true rfl⟩ (fun r_139_561 nw_139_559 l_139_560 H locs hw hO => ?_)
                        rcases hw with hw | hw | hw | hw
                        · obtain ⟨c1_139_562, c2_139_563, c3_139_564, tt_139_565, cd_139_566, hS_139_567, hZ_139_568, h_139_569, h_139_570, rfl, rfl⟩ := hw
                          exact absurd h_139_569 h_93_21
                        · obtain ⟨c1_139_571, c2_139_572, c3_139_573, tt_139_574, cd_139_575, hS_139_576, hZ_139_577, h_139_578, h_139_579, rfl, rfl⟩ := hw
                          exact absurd h_139_578 h_93_21
                        · obtain ⟨c1_139_580, c2_139_581, c3_139_582, tt_139_583, cd_139_584, hS_139_585, hZ_139_586, h_139_587, h_139_588, rfl, rfl⟩ := hw
                          exact absurd h_139_588 h_114_355
                        · obtain ⟨c1_139_589, c2_139_590, c3_139_591, tt_139_592, cd_139_593, hS_139_594, hZ_139_595, h_139_596, h_139_597, rfl, rfl⟩ := hw
                          have hO : cO D cy A s.heap s 14 ad (cup [(0, .inr (12, ((((((((f0.set 62 (.int 0)).set 56 (.int 3)).set 57 (.int 10000)).set 56 (.int 0)).set 57 (.int 10000)).set 56 (.int 1)).set 56 (.int 2)).set 56 (.int 3)))), (6, .inl (cy 0, 30, .inl tt_139_592)), (9, .inl (cy 0, 5, .inl (fun _ => 0))), (10, .inl (cy 0, 5, .inl (fun _ => 0))), (12, .inl (cy 2, 5, .inl (fun _ => 0))), (7, .inl (cy 0, 120, .inl (fun _ => 0))), (8, .inl (cy 0, 120, .inl cd_139_593)), (3, .inl (cy 0, 30, .inl c1_139_589)), (4, .inl (cy 0, 30, .inl c2_139_590)), (11, .inl (cy 2, 30, .inl c3_139_591)), (5, .inl (cy 0, 5, .inl (fun _ => 0))), (13, .inl (cy 0, 24, .inl (fun _ => 0)))] g) _ _ := hO
                          refine lv_istore (lv' := [(10, .int (nI ((((x5_n * ((0 + 0) + z)) + 0) + 0) + 0))), (9, .int (nI z)), (6, .int (nI bb)), (8, .int 0), (7, .int 0), (0, .ref (ad 0)), (1, .int (nI x1_n)), (2, .int x2), (3, .int x3), (4, .int (nI x4_n)), (5, .int (nI x5_n))]) hx hb dX12_party_142 hl (by decide) rfl (fun ls hl => ?_)
                          refine lv_iload hx hb dX12_party_144 (lv_at hl 2 rfl) ?_
                          refine lv_if_lt (tgt := 159) hx hb dX12_party_146 (by decide) (fun h => (show False from by have z := (nI_ltI (a := bb) (b := 0) (by omega) (by omega)).mp h; omega).elim) (fun _ => ?_)
                          refine lv_iload hx hb dX12_party_149 (lv_at hl 0 rfl) ?_
                          refine lv_iload hx hb dX12_party_151 (lv_at hl 2 rfl) ?_
                          refine lv_icmp_lt (tgt := 159) hx hb dX12_party_153 (by decide) (fun h => (show False from by have z := (nI_ltI (a := ((((x5_n * ((0 + 0) + z)) + 0) + 0) + 0)) (b := bb) (by omega) (by omega)).mp h; omega).elim) (fun _ => ?_)
                          refine lv_goto (tgt := 187) hx hb dX12_party_156 (by decide) ?_
                          refine lv_iinc (v := (nI (z + 1))) (lv' := [(9, .int (nI (z + 1))), (10, .int (nI ((((x5_n * ((0 + 0) + z)) + 0) + 0) + 0))), (6, .int (nI bb)), (8, .int 0), (7, .int 0), (0, .ref (ad 0)), (1, .int (nI x1_n)), (2, .int x2), (3, .int x3), (4, .int (nI x4_n)), (5, .int (nI x5_n))]) hx hb dX12_party_187 hl (k := 1) rfl (nI_add z 1) (by decide) rfl (fun ls hl => ?_)
                          refine lv_goto (tgt := 110) hx hb dX12_party_190 (by decide) ?_
                          simp only [List.set_set, st_can] at hO
                          have hO : cO D cy A s.heap s 14 ad (cup [(0, .inr (12, (((f0.set 62 (.int 0)).set 56 (.int 3)).set 57 (.int 10000)))), (6, .inl (cy 0, 30, .inl tt_139_592)), (9, .inl (cy 0, 5, .inl (fun _ => 0))), (10, .inl (cy 0, 5, .inl (fun _ => 0))), (12, .inl (cy 2, 5, .inl (fun _ => 0))), (7, .inl (cy 0, 120, .inl (fun _ => 0))), (8, .inl (cy 0, 120, .inl cd_139_593)), (3, .inl (cy 0, 30, .inl c1_139_589)), (4, .inl (cy 0, 30, .inl c2_139_590)), (11, .inl (cy 2, 30, .inl c3_139_591)), (5, .inl (cy 0, 5, .inl (fun _ => 0))), (13, .inl (cy 0, 24, .inl (fun _ => 0)))] g) _ _ := hO
                          exact ih_110_539 (z + 1) bb c1_139_589 c2_139_590 c3_139_591 tt_139_592 cd_139_593 (by omega) hbb (by omega) _ _ hO ls (lv_sub hl [0, 2, 3, 4, 5, 6, 7, 8, 9, 10] rfl)
                  exact loop_110_536 ((x4_n + 1) + 1) 1 ((((x5_n * ((0 + 0) + 0)) + 0) + 0) + 0) c1_139_527 c2_139_528 c3_139_529 tt_139_530 cd_139_531 (by omega) (hZ_139_533 rfl) (by omega) _ _ hO ls (lv_sub hl [0, 1, 3, 4, 5, 6, 7, 8, 9, 10] rfl)
          · obtain ⟨hr_51_598, rfl, rfl⟩ := hw
            have hO : cO D cy A s.heap s 14 ad (cup [(0, .inr (12, (f0.set 62 (.int 0))))] g) _ _ := hO
            refine lv_if_eq (tgt := 70) hx hb dX12_party_54 (by decide) (fun _ => ?_) (fun h => absurd h (by decide))
            refine lv_iconst (v := (-1)) hx hb dX12_party_70 (by decide) ?_
            exact cg_iret (nw := fun _ => 0) hC hr hlk hO.same rfl (Nat.le_of_ble_eq_true rfl) (Nat.le_of_ble_eq_true rfl) ((if_neg (fun z => hr_51_598 z.2.2.2.2)).symm) dX12_party_71
        · obtain ⟨hr_40_599, rfl, rfl⟩ := hw
          have hO : cO D cy A s.heap s 14 ad (cup [(0, .inr (12, (f0.set 62 (.int 0))))] g) _ _ := hO
          refine lv_if_eq (tgt := 70) hx hb dX12_party_43 (by decide) (fun _ => ?_) (fun h => absurd h (by decide))
          refine lv_iconst (v := (-1)) hx hb dX12_party_70 (by decide) ?_
          exact cg_iret (nw := fun _ => 0) hC hr hlk hO.same rfl (Nat.le_of_ble_eq_true rfl) (Nat.le_of_ble_eq_true rfl) ((if_neg (fun z => hr_40_599 z.2.2.2.1)).symm) dX12_party_71
      · obtain ⟨hr_29_600, rfl, rfl⟩ := hw
        have hO : cO D cy A s.heap s 14 ad (cup [(0, .inr (12, (f0.set 62 (.int 0))))] g) _ _ := hO
        refine lv_if_eq (tgt := 70) hx hb dX12_party_32 (by decide) (fun _ => ?_) (fun h => absurd h (by decide))
        refine lv_iconst (v := (-1)) hx hb dX12_party_70 (by decide) ?_
        exact cg_iret (nw := fun _ => 0) hC hr hlk hO.same rfl (Nat.le_of_ble_eq_true rfl) (Nat.le_of_ble_eq_true rfl) ((if_neg (fun z => hr_29_600 z.2.2.1)).symm) dX12_party_71
    · obtain ⟨hr_18_601, rfl, rfl⟩ := hw
      have hO : cO D cy A s.heap s 14 ad (cup [(0, .inr (12, (f0.set 62 (.int 0))))] g) _ _ := hO
      refine lv_if_eq (tgt := 70) hx hb dX12_party_21 (by decide) (fun _ => ?_) (fun h => absurd h (by decide))
      refine lv_iconst (v := (-1)) hx hb dX12_party_70 (by decide) ?_
      exact cg_iret (nw := fun _ => 0) hC hr hlk hO.same rfl (Nat.le_of_ble_eq_true rfl) (Nat.le_of_ble_eq_true rfl) ((if_neg (fun z => hr_18_601 z.2.1)).symm) dX12_party_71
  · obtain ⟨hr_8_602, rfl, rfl⟩ := hw
    have hO : cO D cy A s.heap s 14 ad (cup [(0, .inr (12, (f0.set 62 (.int 0))))] g) _ _ := hO
    refine lv_if_eq (tgt := 70) hx hb dX12_party_11 (by decide) (fun _ => ?_) (fun h => absurd h (by decide))
    refine lv_iconst (v := (-1)) hx hb dX12_party_70 (by decide) ?_
    exact cg_iret (nw := fun _ => 0) hC hr hlk hO.same rfl (Nat.le_of_ble_eq_true rfl) (Nat.le_of_ble_eq_true rfl) ((if_neg (fun z => hr_8_602 z.1)).symm) dX12_party_71
