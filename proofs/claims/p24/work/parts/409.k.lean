theorem ddX3_mostBySeats_0 : decode cX3_mostBySeats 0 = .ok (.aload_n 0, 1) := by decide +kernel
theorem ddX3_mostBySeats_1 : decode cX3_mostBySeats 1 = .ok (.invokevirtual 45, 3) := by decide +kernel
theorem ddX3_mostBySeats_4 : decode cX3_mostBySeats 4 = .ok (.iconst 1, 1) := by decide +kernel
theorem ddX3_mostBySeats_5 : decode cX3_mostBySeats 5 = .ok (.aload_n 0, 1) := by decide +kernel
theorem ddX3_mostBySeats_6 : decode cX3_mostBySeats 6 = .ok (.getfield 24, 3) := by decide +kernel
theorem ddX3_mostBySeats_9 : decode cX3_mostBySeats 9 = .ok (.getfield 48, 3) := by decide +kernel
theorem ddX3_mostBySeats_12 : decode cX3_mostBySeats 12 = .ok (.ishl, 1) := by decide +kernel
theorem ddX3_mostBySeats_13 : decode cX3_mostBySeats 13 = .ok (.istore_n 1, 1) := by decide +kernel
theorem ddX3_mostBySeats_14 : decode cX3_mostBySeats 14 = .ok (.iconst 0, 1) := by decide +kernel
theorem ddX3_mostBySeats_15 : decode cX3_mostBySeats 15 = .ok (.istore_n 2, 1) := by decide +kernel
theorem ddX3_mostBySeats_16 : decode cX3_mostBySeats 16 = .ok (.iload_n 2, 1) := by decide +kernel
theorem ddX3_mostBySeats_17 : decode cX3_mostBySeats 17 = .ok (.aload_n 0, 1) := by decide +kernel
theorem ddX3_mostBySeats_18 : decode cX3_mostBySeats 18 = .ok (.getfield 24, 3) := by decide +kernel
theorem ddX3_mostBySeats_21 : decode cX3_mostBySeats 21 = .ok (.getfield 82, 3) := by decide +kernel
theorem ddX3_mostBySeats_24 : decode cX3_mostBySeats 24 = .ok (.if_icmp .ge 54, 3) := by decide +kernel
theorem ddX3_mostBySeats_27 : decode cX3_mostBySeats 27 = .ok (.iconst 0, 1) := by decide +kernel
theorem ddX3_mostBySeats_28 : decode cX3_mostBySeats 28 = .ok (.istore_n 3, 1) := by decide +kernel
theorem ddX3_mostBySeats_29 : decode cX3_mostBySeats 29 = .ok (.iload_n 3, 1) := by decide +kernel
theorem ddX3_mostBySeats_30 : decode cX3_mostBySeats 30 = .ok (.iload_n 1, 1) := by decide +kernel
theorem ddX3_mostBySeats_31 : decode cX3_mostBySeats 31 = .ok (.if_icmp .ge 41, 3) := by decide +kernel
theorem ddX3_mostBySeats_34 : decode cX3_mostBySeats 34 = .ok (.aload_n 0, 1) := by decide +kernel
theorem ddX3_mostBySeats_35 : decode cX3_mostBySeats 35 = .ok (.getfield 41, 3) := by decide +kernel
theorem ddX3_mostBySeats_38 : decode cX3_mostBySeats 38 = .ok (.iload_n 2, 1) := by decide +kernel
theorem ddX3_mostBySeats_39 : decode cX3_mostBySeats 39 = .ok (.iload_n 3, 1) := by decide +kernel
theorem ddX3_mostBySeats_40 : decode cX3_mostBySeats 40 = .ok (.invokevirtual 89, 3) := by decide +kernel
theorem ddX3_mostBySeats_43 : decode cX3_mostBySeats 43 = .ok (.aload_n 0, 1) := by decide +kernel
theorem ddX3_mostBySeats_44 : decode cX3_mostBySeats 44 = .ok (.getfield 41, 3) := by decide +kernel
theorem ddX3_mostBySeats_47 : decode cX3_mostBySeats 47 = .ok (.invokevirtual 81, 3) := by decide +kernel
theorem ddX3_mostBySeats_50 : decode cX3_mostBySeats 50 = .ok (.aload_n 0, 1) := by decide +kernel
theorem ddX3_mostBySeats_51 : decode cX3_mostBySeats 51 = .ok (.getfield 18, 3) := by decide +kernel
theorem ddX3_mostBySeats_54 : decode cX3_mostBySeats 54 = .ok (.iload_n 2, 1) := by decide +kernel
theorem ddX3_mostBySeats_55 : decode cX3_mostBySeats 55 = .ok (.bipush 32, 2) := by decide +kernel
theorem ddX3_mostBySeats_57 : decode cX3_mostBySeats 57 = .ok (.imul, 1) := by decide +kernel
theorem ddX3_mostBySeats_58 : decode cX3_mostBySeats 58 = .ok (.iload_n 3, 1) := by decide +kernel
theorem ddX3_mostBySeats_59 : decode cX3_mostBySeats 59 = .ok (.iadd, 1) := by decide +kernel
theorem ddX3_mostBySeats_60 : decode cX3_mostBySeats 60 = .ok (.aload_n 0, 1) := by decide +kernel
theorem ddX3_mostBySeats_61 : decode cX3_mostBySeats 61 = .ok (.iload_n 2, 1) := by decide +kernel
theorem ddX3_mostBySeats_62 : decode cX3_mostBySeats 62 = .ok (.invokevirtual 85, 3) := by decide +kernel
theorem ddX3_mostBySeats_65 : decode cX3_mostBySeats 65 = .ok (.iastore, 1) := by decide +kernel
theorem ddX3_mostBySeats_66 : decode cX3_mostBySeats 66 = .ok (.iinc 3 1, 3) := by decide +kernel
theorem ddX3_mostBySeats_69 : decode cX3_mostBySeats 69 = .ok (.goto (-40), 3) := by decide +kernel
theorem ddX3_mostBySeats_72 : decode cX3_mostBySeats 72 = .ok (.iinc 2 1, 3) := by decide +kernel
theorem ddX3_mostBySeats_75 : decode cX3_mostBySeats 75 = .ok (.goto (-59), 3) := by decide +kernel
theorem ddX3_mostBySeats_78 : decode cX3_mostBySeats 78 = .ok (.iconst (-1), 1) := by decide +kernel
theorem ddX3_mostBySeats_79 : decode cX3_mostBySeats 79 = .ok (.istore_n 2, 1) := by decide +kernel
theorem ddX3_mostBySeats_80 : decode cX3_mostBySeats 80 = .ok (.aload_n 0, 1) := by decide +kernel
theorem ddX3_mostBySeats_81 : decode cX3_mostBySeats 81 = .ok (.getfield 24, 3) := by decide +kernel
theorem ddX3_mostBySeats_84 : decode cX3_mostBySeats 84 = .ok (.getfield 82, 3) := by decide +kernel
theorem ddX3_mostBySeats_87 : decode cX3_mostBySeats 87 = .ok (.aload_n 0, 1) := by decide +kernel
theorem ddX3_mostBySeats_88 : decode cX3_mostBySeats 88 = .ok (.getfield 24, 3) := by decide +kernel
theorem ddX3_mostBySeats_91 : decode cX3_mostBySeats 91 = .ok (.getfield 48, 3) := by decide +kernel
theorem ddX3_mostBySeats_94 : decode cX3_mostBySeats 94 = .ok (.invokestatic 54, 3) := by decide +kernel
theorem ddX3_mostBySeats_97 : decode cX3_mostBySeats 97 = .ok (.istore_n 3, 1) := by decide +kernel
theorem ddX3_mostBySeats_98 : decode cX3_mostBySeats 98 = .ok (.iconst 0, 1) := by decide +kernel
theorem ddX3_mostBySeats_99 : decode cX3_mostBySeats 99 = .ok (.istore 4, 2) := by decide +kernel
theorem ddX3_mostBySeats_101 : decode cX3_mostBySeats 101 = .ok (.iload 4, 2) := by decide +kernel
theorem ddX3_mostBySeats_103 : decode cX3_mostBySeats 103 = .ok (.iload_n 3, 1) := by decide +kernel
theorem ddX3_mostBySeats_104 : decode cX3_mostBySeats 104 = .ok (.if_icmp .ge 42, 3) := by decide +kernel
theorem ddX3_mostBySeats_107 : decode cX3_mostBySeats 107 = .ok (.iload 4, 2) := by decide +kernel
theorem ddX3_mostBySeats_109 : decode cX3_mostBySeats 109 = .ok (.aload_n 0, 1) := by decide +kernel
theorem ddX3_mostBySeats_110 : decode cX3_mostBySeats 110 = .ok (.getfield 24, 3) := by decide +kernel
theorem ddX3_mostBySeats_113 : decode cX3_mostBySeats 113 = .ok (.getfield 82, 3) := by decide +kernel
theorem ddX3_mostBySeats_116 : decode cX3_mostBySeats 116 = .ok (.aload_n 0, 1) := by decide +kernel
theorem ddX3_mostBySeats_117 : decode cX3_mostBySeats 117 = .ok (.getfield 24, 3) := by decide +kernel
theorem ddX3_mostBySeats_120 : decode cX3_mostBySeats 120 = .ok (.getfield 48, 3) := by decide +kernel
theorem ddX3_mostBySeats_123 : decode cX3_mostBySeats 123 = .ok (.aload_n 0, 1) := by decide +kernel
theorem ddX3_mostBySeats_124 : decode cX3_mostBySeats 124 = .ok (.getfield 15, 3) := by decide +kernel
theorem ddX3_mostBySeats_127 : decode cX3_mostBySeats 127 = .ok (.invokestatic 58, 3) := by decide +kernel
theorem ddX3_mostBySeats_130 : decode cX3_mostBySeats 130 = .ok (.aload_n 0, 1) := by decide +kernel
theorem ddX3_mostBySeats_131 : decode cX3_mostBySeats 131 = .ok (.aload_n 0, 1) := by decide +kernel
theorem ddX3_mostBySeats_132 : decode cX3_mostBySeats 132 = .ok (.invokevirtual 93, 3) := by decide +kernel
theorem ddX3_mostBySeats_135 : decode cX3_mostBySeats 135 = .ok (.iload_n 2, 1) := by decide +kernel
theorem ddX3_mostBySeats_136 : decode cX3_mostBySeats 136 = .ok (.invokevirtual 70, 3) := by decide +kernel
theorem ddX3_mostBySeats_139 : decode cX3_mostBySeats 139 = .ok (.istore_n 2, 1) := by decide +kernel
theorem ddX3_mostBySeats_140 : decode cX3_mostBySeats 140 = .ok (.iinc 4 1, 3) := by decide +kernel
theorem ddX3_mostBySeats_143 : decode cX3_mostBySeats 143 = .ok (.goto (-42), 3) := by decide +kernel
theorem ddX3_mostBySeats_146 : decode cX3_mostBySeats 146 = .ok (.iload_n 2, 1) := by decide +kernel
theorem ddX3_mostBySeats_147 : decode cX3_mostBySeats 147 = .ok (.ireturn, 1) := by decide +kernel
def wq_k_X3_mostBySeats : List Cond := Cond.code yX3_mostBySeats cX3_mostBySeats 5 (some .int) :: (([Cond.methodLink RX3 45 yX3_begin, Cond.instanceMethod yX3_begin, Cond.selects RX3 yX3_begin yX3_begin, Cond.initialized RX3, Cond.code yX3_begin cX3_begin 1 none, Cond.fieldLink RX3 28 "CrowToll$Keepers" "stand" "LCrowToll$Stand;", Cond.fieldLink RX3 9 "CrowToll$Keepers" "order" "[I", Cond.methodLink RX3 96 yX9_coming, Cond.instanceMethod yX9_coming, Cond.selects RX9 yX9_coming yX9_coming, Cond.initialized RX9, Cond.code yX9_coming cX9_coming 4 (some .int), Cond.fieldLink RX9 21 "CrowToll$Stand" "carts" "I", Cond.fieldLink RX9 37 "CrowToll$Stand" "comes" "I", Cond.code yX11_has cX11_has 2 (some .boolean), Cond.static yX11_has, Cond.initialized RX11, Cond.fieldLink RX3 100 "CrowToll$Keepers" "going" "I", Cond.fieldLink RX3 103 "CrowToll$Stand" "minute" "[I", Cond.code yX11_putByMinutes cX11_putByMinutes 6 none, Cond.static yX11_putByMinutes, Cond.fieldLink RX3 41 "CrowToll$Keepers" "watch" "LCrowToll$Watch;", Cond.fieldLink RX3 73 "CrowToll$Stand" "counts" "[I", Cond.methodLink RX3 110 yX10_sit, Cond.instanceMethod yX10_sit, Cond.selects RX10 yX10_sit yX10_sit, Cond.initialized RX10, Cond.code yX10_sit cX10_sit 2 none, Cond.fieldLink RX10 9 "CrowToll$Watch" "limit" "[I", Cond.methodLink RX10 37 arraycopyName, Cond.native arraycopyName, Cond.static arraycopyName, Cond.initialized "java/lang/System", Cond.fieldLink RX10 33 "CrowToll$Watch" "road" "LCrowToll$Road;", Cond.fieldLink RX10 43 "CrowToll$Road" "seat" "[I", Cond.fieldLink RX10 15 "CrowToll$Watch" "seat" "[I", Cond.fieldLink RX10 46 "CrowToll$Road" "seated" "[I", Cond.fieldLink RX10 18 "CrowToll$Watch" "seated" "[I", Cond.methodLink RX10 47 yX10_begin, Cond.instanceMethod yX10_begin, Cond.selects RX10 yX10_begin yX10_begin, Cond.code yX10_begin cX10_begin 1 none, Cond.fieldLink RX10 21 "CrowToll$Watch" "count" "[I", Cond.methodLink RX10 54 yJ7_fill_53178, Cond.static yJ7_fill_53178, Cond.initialized RJ7, Cond.code yJ7_fill_53178 cJ7_fill_53178 4 none, Cond.fieldLink RX10 24 "CrowToll$Watch" "total" "[I", Cond.fieldLink RX10 27 "CrowToll$Watch" "lookedAt" "[I", Cond.fieldLink RX10 30 "CrowToll$Watch" "countedAt" "[I", Cond.fieldLink RX3 24 "CrowToll$Keepers" "road" "LCrowToll$Road;", Cond.fieldLink RX3 48 "CrowToll$Road" "birds" "I", Cond.fieldLink RX3 82 "CrowToll$Road" "posts" "I", Cond.methodLink RX3 89 yX10_seatSet, Cond.instanceMethod yX10_seatSet, Cond.selects RX10 yX10_seatSet yX10_seatSet, Cond.code yX10_seatSet cX10_seatSet 4 none, Cond.methodLink RX3 81 yX10_begin, Cond.fieldLink RX3 18 "CrowToll$Keepers" "taken" "[I", Cond.methodLink RX3 85 yX3_takenAt, Cond.instanceMethod yX3_takenAt, Cond.selects RX3 yX3_takenAt yX3_takenAt, Cond.code yX3_takenAt cX3_takenAt 6 (some .int), Cond.fieldLink RX3 120 "CrowToll$Road" "at" "[I", Cond.methodLink RX3 123 yX10_look, Cond.instanceMethod yX10_look, Cond.selects RX10 yX10_look yX10_look, Cond.code yX10_look cX10_look 5 (some .int), Cond.fieldLink RX10 60 "CrowToll$Road" "gap" "[I", Cond.fieldLink RX10 63 "CrowToll$Road" "takes" "[I", Cond.fieldLink RX3 32 "CrowToll$Keepers" "prices" "LCrowToll$Prices;", Cond.fieldLink RX3 126 "CrowToll$Stand" "sacks" "[I", Cond.fieldLink RX3 129 "CrowToll$Watch" "count" "[I", Cond.methodLink RX3 132 yX5_of, Cond.instanceMethod yX5_of, Cond.selects RX5 yX5_of yX5_of, Cond.initialized RX5, Cond.code yX5_of cX5_of 5 (some .int), Cond.fieldLink RX5 15 "CrowToll$Prices" "known" "[I", Cond.fieldLink RX5 9 "CrowToll$Prices" "sacksKnown" "[I", Cond.fieldLink RX5 18 "CrowToll$Prices" "road" "LCrowToll$Road;", Cond.fieldLink RX5 28 "CrowToll$Road" "law" "LCrowToll$Law;", Cond.fieldLink RX5 34 "CrowToll$Road" "toll" "[I", Cond.methodLink RX5 37 yX4_pay, Cond.instanceMethod yX4_pay, Cond.selects RX4 yX4_pay yX4_pay, Cond.initialized RX4, Cond.code yX4_pay cX4_pay 7 (some .int), Cond.fieldLink RX4 25 "CrowToll$Law" "isTold" "Z", Cond.fieldLink RX4 18 "CrowToll$Law" "steps" "I", Cond.fieldLink RX4 11 "CrowToll$Law" "step" "[I", Cond.fieldLink RX4 15 "CrowToll$Law" "stack" "[I", Cond.methodLink RX4 39 Lib.Math.min.name, Cond.static Lib.Math.min.name, Cond.initialized "java/lang/Math", Cond.code Lib.Math.min.name Lib.Math.min.code 2 (some .int), Cond.methodLink RX4 45 Lib.Math.max.name, Cond.static Lib.Math.max.name, Cond.code Lib.Math.max.name Lib.Math.max.code 2 (some .int), Cond.methodLink RX4 35 yX4_joined, Cond.static yX4_joined, Cond.code yX4_joined cX4_joined 3 (some .int), Cond.code yX11_power cX11_power 4 (some .int), Cond.static yX11_power, Cond.fieldLink RX3 15 "CrowToll$Keepers" "way" "[I", Cond.code yX11_spread cX11_spread 6 none, Cond.static yX11_spread, Cond.methodLink RX3 93 yX3_takenBySeats, Cond.instanceMethod yX3_takenBySeats, Cond.selects RX3 yX3_takenBySeats yX3_takenBySeats, Cond.code yX3_takenBySeats cX3_takenBySeats 5 (some .int), Cond.methodLink RX3 70 yX3_better, Cond.instanceMethod yX3_better, Cond.selects RX3 yX3_better yX3_better, Cond.code yX3_better cX3_better 3 (some .int), Cond.fieldLink RX3 21 "CrowToll$Keepers" "best" "[I", Cond.methodLink RX3 114 arraycopyName] : List Cond) ++ wsX30 ++ wsX40 ++ wsX50 ++ wsX70 ++ wsX90 ++ wsX100)
set_option maxRecDepth 20000 in
theorem gr_k_X3_mostBySeats_k_X3_begin : GoodIn wq_k_X3_mostBySeats wq_k_X3_begin := List.forall_mem_cons.mpr ⟨⟨(List.mem_of_getElem? (i := 5) rfl), good_of_word rfl⟩, List.forall_mem_append.mpr ⟨List.forall_mem_append.mpr ⟨List.forall_mem_append.mpr ⟨List.forall_mem_append.mpr ⟨List.forall_mem_cons.mpr ⟨⟨(List.mem_of_getElem? (i := 6) rfl), good_of_word rfl⟩, List.forall_mem_cons.mpr ⟨⟨(List.mem_of_getElem? (i := 7) rfl), good_of_word rfl⟩, List.forall_mem_cons.mpr ⟨⟨(List.mem_of_getElem? (i := 8) rfl), good_of_word rfl⟩, List.forall_mem_cons.mpr ⟨⟨(List.mem_of_getElem? (i := 9) rfl), good_of_word rfl⟩, List.forall_mem_cons.mpr ⟨⟨(List.mem_of_getElem? (i := 10) rfl), good_of_word rfl⟩, List.forall_mem_cons.mpr ⟨⟨(List.mem_of_getElem? (i := 11) rfl), good_of_word rfl⟩, List.forall_mem_cons.mpr ⟨⟨(List.mem_of_getElem? (i := 12) rfl), good_of_word rfl⟩, List.forall_mem_cons.mpr ⟨⟨(List.mem_of_getElem? (i := 13) rfl), good_of_word rfl⟩, List.forall_mem_cons.mpr ⟨⟨(List.mem_of_getElem? (i := 14) rfl), good_of_word rfl⟩, List.forall_mem_cons.mpr ⟨⟨(List.mem_of_getElem? (i := 15) rfl), good_of_word rfl⟩, List.forall_mem_cons.mpr ⟨⟨(List.mem_of_getElem? (i := 16) rfl), good_of_word rfl⟩, List.forall_mem_cons.mpr ⟨⟨(List.mem_of_getElem? (i := 17) rfl), good_of_word rfl⟩, List.forall_mem_cons.mpr ⟨⟨(List.mem_of_getElem? (i := 18) rfl), good_of_word rfl⟩, List.forall_mem_cons.mpr ⟨⟨(List.mem_of_getElem? (i := 19) rfl), good_of_word rfl⟩, List.forall_mem_cons.mpr ⟨⟨(List.mem_of_getElem? (i := 20) rfl), good_of_word rfl⟩, List.forall_mem_cons.mpr ⟨⟨(List.mem_of_getElem? (i := 21) rfl), good_of_word rfl⟩, List.forall_mem_cons.mpr ⟨⟨(List.mem_of_getElem? (i := 22) rfl), good_of_word rfl⟩, List.forall_mem_cons.mpr ⟨⟨(List.mem_of_getElem? (i := 23) rfl), good_of_word rfl⟩, List.forall_mem_cons.mpr ⟨⟨(List.mem_of_getElem? (i := 24) rfl), good_of_word rfl⟩, List.forall_mem_cons.mpr ⟨⟨(List.mem_of_getElem? (i := 25) rfl), good_of_word rfl⟩, List.forall_mem_cons.mpr ⟨⟨(List.mem_of_getElem? (i := 26) rfl), good_of_word rfl⟩, List.forall_mem_cons.mpr ⟨⟨(List.mem_of_getElem? (i := 27) rfl), good_of_word rfl⟩, List.forall_mem_cons.mpr ⟨⟨(List.mem_of_getElem? (i := 28) rfl), good_of_word rfl⟩, List.forall_mem_cons.mpr ⟨⟨(List.mem_of_getElem? (i := 29) rfl), good_of_word rfl⟩, List.forall_mem_cons.mpr ⟨⟨(List.mem_of_getElem? (i := 30) rfl), good_of_word rfl⟩, List.forall_mem_cons.mpr ⟨⟨(List.mem_of_getElem? (i := 31) rfl), good_of_word rfl⟩, List.forall_mem_cons.mpr ⟨⟨(List.mem_of_getElem? (i := 32) rfl), good_of_word rfl⟩, List.forall_mem_cons.mpr ⟨⟨(List.mem_of_getElem? (i := 33) rfl), good_of_word rfl⟩, List.forall_mem_cons.mpr ⟨⟨(List.mem_of_getElem? (i := 34) rfl), good_of_word rfl⟩, List.forall_mem_cons.mpr ⟨⟨(List.mem_of_getElem? (i := 35) rfl), good_of_word rfl⟩, List.forall_mem_cons.mpr ⟨⟨(List.mem_of_getElem? (i := 36) rfl), good_of_word rfl⟩, List.forall_mem_cons.mpr ⟨⟨(List.mem_of_getElem? (i := 37) rfl), good_of_word rfl⟩, List.forall_mem_cons.mpr ⟨⟨(List.mem_of_getElem? (i := 38) rfl), good_of_word rfl⟩, List.forall_mem_cons.mpr ⟨⟨(List.mem_of_getElem? (i := 39) rfl), good_of_word rfl⟩, List.forall_mem_cons.mpr ⟨⟨(List.mem_of_getElem? (i := 40) rfl), good_of_word rfl⟩, List.forall_mem_cons.mpr ⟨⟨(List.mem_of_getElem? (i := 41) rfl), good_of_word rfl⟩, List.forall_mem_cons.mpr ⟨⟨(List.mem_of_getElem? (i := 42) rfl), good_of_word rfl⟩, List.forall_mem_cons.mpr ⟨⟨(List.mem_of_getElem? (i := 43) rfl), good_of_word rfl⟩, List.forall_mem_cons.mpr ⟨⟨(List.mem_of_getElem? (i := 44) rfl), good_of_word rfl⟩, List.forall_mem_cons.mpr ⟨⟨(List.mem_of_getElem? (i := 45) rfl), good_of_word rfl⟩, List.forall_mem_cons.mpr ⟨⟨(List.mem_of_getElem? (i := 46) rfl), good_of_word rfl⟩, List.forall_mem_cons.mpr ⟨⟨(List.mem_of_getElem? (i := 47) rfl), good_of_word rfl⟩, List.forall_mem_cons.mpr ⟨⟨(List.mem_of_getElem? (i := 48) rfl), good_of_word rfl⟩, List.forall_mem_cons.mpr ⟨⟨(List.mem_of_getElem? (i := 49) rfl), good_of_word rfl⟩, List.forall_mem_cons.mpr ⟨⟨(List.mem_of_getElem? (i := 50) rfl), good_of_word rfl⟩, (fun _ h => absurd h List.not_mem_nil)⟩⟩⟩⟩⟩⟩⟩⟩⟩⟩⟩⟩⟩⟩⟩⟩⟩⟩⟩⟩⟩⟩⟩⟩⟩⟩⟩⟩⟩⟩⟩⟩⟩⟩⟩⟩⟩⟩⟩⟩⟩⟩⟩⟩⟩, fun w h => ⟨(fun w h => List.mem_cons_of_mem _ (List.mem_append_left _ (List.mem_append_left _ (List.mem_append_left _ (List.mem_append_left _ (List.mem_append_left _ (List.mem_append_right _ h))))))) w h, good_of_word (List.all_eq_true.mp gw_X3 w h)⟩⟩, fun w h => ⟨(fun w h => List.mem_cons_of_mem _ (List.mem_append_left _ (List.mem_append_left _ (List.mem_append_right _ h)))) w h, good_of_word (List.all_eq_true.mp gw_X7 w h)⟩⟩, fun w h => ⟨(fun w h => List.mem_cons_of_mem _ (List.mem_append_left _ (List.mem_append_right _ h))) w h, good_of_word (List.all_eq_true.mp gw_X9 w h)⟩⟩, fun w h => ⟨(fun w h => List.mem_cons_of_mem _ (List.mem_append_right _ h)) w h, good_of_word (List.all_eq_true.mp gw_X10 w h)⟩⟩⟩
set_option maxRecDepth 20000 in
theorem gq_k_X3_mostBySeats_k_X3_begin_45 : GoodIn wq_k_X3_mostBySeats (wsV RX3 45 RX3 yX3_begin wq_k_X3_begin) := goodIn_app (List.forall_mem_cons.mpr ⟨⟨(List.mem_of_getElem? (i := 1) rfl), good_of_word rfl⟩, List.forall_mem_cons.mpr ⟨⟨(List.mem_of_getElem? (i := 2) rfl), good_of_word rfl⟩, List.forall_mem_cons.mpr ⟨⟨(List.mem_of_getElem? (i := 3) rfl), good_of_word rfl⟩, List.forall_mem_cons.mpr ⟨⟨(List.mem_of_getElem? (i := 4) rfl), good_of_word rfl⟩, (fun _ h => absurd h List.not_mem_nil)⟩⟩⟩⟩) gr_k_X3_mostBySeats_k_X3_begin
set_option maxRecDepth 20000 in
theorem gr_k_X3_mostBySeats_k_X10_seatSet : GoodIn wq_k_X3_mostBySeats wq_k_X10_seatSet := List.forall_mem_cons.mpr ⟨⟨(List.mem_of_getElem? (i := 57) rfl), good_of_word rfl⟩, List.forall_mem_append.mpr ⟨List.forall_mem_cons.mpr ⟨⟨(List.mem_of_getElem? (i := 38) rfl), good_of_word rfl⟩, List.forall_mem_cons.mpr ⟨⟨(List.mem_of_getElem? (i := 15) rfl), good_of_word rfl⟩, List.forall_mem_cons.mpr ⟨⟨(List.mem_of_getElem? (i := 16) rfl), good_of_word rfl⟩, List.forall_mem_cons.mpr ⟨⟨(List.mem_of_getElem? (i := 17) rfl), good_of_word rfl⟩, List.forall_mem_cons.mpr ⟨⟨(List.mem_of_getElem? (i := 36) rfl), good_of_word rfl⟩, (fun _ h => absurd h List.not_mem_nil)⟩⟩⟩⟩⟩, fun w h => ⟨(fun w h => List.mem_cons_of_mem _ (List.mem_append_right _ h)) w h, good_of_word (List.all_eq_true.mp gw_X10 w h)⟩⟩⟩
set_option maxRecDepth 20000 in
theorem gq_k_X3_mostBySeats_k_X10_seatSet_89 : GoodIn wq_k_X3_mostBySeats (wsV RX3 89 RX10 yX10_seatSet wq_k_X10_seatSet) := goodIn_app (List.forall_mem_cons.mpr ⟨⟨(List.mem_of_getElem? (i := 54) rfl), good_of_word rfl⟩, List.forall_mem_cons.mpr ⟨⟨(List.mem_of_getElem? (i := 55) rfl), good_of_word rfl⟩, List.forall_mem_cons.mpr ⟨⟨(List.mem_of_getElem? (i := 56) rfl), good_of_word rfl⟩, List.forall_mem_cons.mpr ⟨⟨(List.mem_of_getElem? (i := 27) rfl), good_of_word rfl⟩, (fun _ h => absurd h List.not_mem_nil)⟩⟩⟩⟩) gr_k_X3_mostBySeats_k_X10_seatSet
set_option maxRecDepth 20000 in
theorem gr_k_X3_mostBySeats_k_X10_begin : GoodIn wq_k_X3_mostBySeats wq_k_X10_begin := List.forall_mem_cons.mpr ⟨⟨(List.mem_of_getElem? (i := 42) rfl), good_of_word rfl⟩, List.forall_mem_append.mpr ⟨List.forall_mem_cons.mpr ⟨⟨(List.mem_of_getElem? (i := 43) rfl), good_of_word rfl⟩, List.forall_mem_cons.mpr ⟨⟨(List.mem_of_getElem? (i := 44) rfl), good_of_word rfl⟩, List.forall_mem_cons.mpr ⟨⟨(List.mem_of_getElem? (i := 45) rfl), good_of_word rfl⟩, List.forall_mem_cons.mpr ⟨⟨(List.mem_of_getElem? (i := 46) rfl), good_of_word rfl⟩, List.forall_mem_cons.mpr ⟨⟨(List.mem_of_getElem? (i := 47) rfl), good_of_word rfl⟩, List.forall_mem_cons.mpr ⟨⟨(List.mem_of_getElem? (i := 48) rfl), good_of_word rfl⟩, List.forall_mem_cons.mpr ⟨⟨(List.mem_of_getElem? (i := 49) rfl), good_of_word rfl⟩, List.forall_mem_cons.mpr ⟨⟨(List.mem_of_getElem? (i := 50) rfl), good_of_word rfl⟩, (fun _ h => absurd h List.not_mem_nil)⟩⟩⟩⟩⟩⟩⟩⟩, fun w h => ⟨(fun w h => List.mem_cons_of_mem _ (List.mem_append_right _ h)) w h, good_of_word (List.all_eq_true.mp gw_X10 w h)⟩⟩⟩
set_option maxRecDepth 20000 in
theorem gq_k_X3_mostBySeats_k_X10_begin_81 : GoodIn wq_k_X3_mostBySeats (wsV RX3 81 RX10 yX10_begin wq_k_X10_begin) := goodIn_app (List.forall_mem_cons.mpr ⟨⟨(List.mem_of_getElem? (i := 58) rfl), good_of_word rfl⟩, List.forall_mem_cons.mpr ⟨⟨(List.mem_of_getElem? (i := 40) rfl), good_of_word rfl⟩, List.forall_mem_cons.mpr ⟨⟨(List.mem_of_getElem? (i := 41) rfl), good_of_word rfl⟩, List.forall_mem_cons.mpr ⟨⟨(List.mem_of_getElem? (i := 27) rfl), good_of_word rfl⟩, (fun _ h => absurd h List.not_mem_nil)⟩⟩⟩⟩) gr_k_X3_mostBySeats_k_X10_begin
set_option maxRecDepth 20000 in
theorem gr_k_X3_mostBySeats_k_X3_takenAt : GoodIn wq_k_X3_mostBySeats wq_k_X3_takenAt := List.forall_mem_cons.mpr ⟨⟨(List.mem_of_getElem? (i := 63) rfl), good_of_word rfl⟩, List.forall_mem_append.mpr ⟨List.forall_mem_append.mpr ⟨List.forall_mem_append.mpr ⟨List.forall_mem_append.mpr ⟨List.forall_mem_append.mpr ⟨List.forall_mem_append.mpr ⟨List.forall_mem_cons.mpr ⟨⟨(List.mem_of_getElem? (i := 18) rfl), good_of_word rfl⟩, List.forall_mem_cons.mpr ⟨⟨(List.mem_of_getElem? (i := 7) rfl), good_of_word rfl⟩, List.forall_mem_cons.mpr ⟨⟨(List.mem_of_getElem? (i := 22) rfl), good_of_word rfl⟩, List.forall_mem_cons.mpr ⟨⟨(List.mem_of_getElem? (i := 6) rfl), good_of_word rfl⟩, List.forall_mem_cons.mpr ⟨⟨(List.mem_of_getElem? (i := 19) rfl), good_of_word rfl⟩, List.forall_mem_cons.mpr ⟨⟨(List.mem_of_getElem? (i := 51) rfl), good_of_word rfl⟩, List.forall_mem_cons.mpr ⟨⟨(List.mem_of_getElem? (i := 64) rfl), good_of_word rfl⟩, List.forall_mem_cons.mpr ⟨⟨(List.mem_of_getElem? (i := 65) rfl), good_of_word rfl⟩, List.forall_mem_cons.mpr ⟨⟨(List.mem_of_getElem? (i := 66) rfl), good_of_word rfl⟩, List.forall_mem_cons.mpr ⟨⟨(List.mem_of_getElem? (i := 67) rfl), good_of_word rfl⟩, List.forall_mem_cons.mpr ⟨⟨(List.mem_of_getElem? (i := 27) rfl), good_of_word rfl⟩, List.forall_mem_cons.mpr ⟨⟨(List.mem_of_getElem? (i := 68) rfl), good_of_word rfl⟩, List.forall_mem_cons.mpr ⟨⟨(List.mem_of_getElem? (i := 38) rfl), good_of_word rfl⟩, List.forall_mem_cons.mpr ⟨⟨(List.mem_of_getElem? (i := 36) rfl), good_of_word rfl⟩, List.forall_mem_cons.mpr ⟨⟨(List.mem_of_getElem? (i := 50) rfl), good_of_word rfl⟩, List.forall_mem_cons.mpr ⟨⟨(List.mem_of_getElem? (i := 49) rfl), good_of_word rfl⟩, List.forall_mem_cons.mpr ⟨⟨(List.mem_of_getElem? (i := 34) rfl), good_of_word rfl⟩, List.forall_mem_cons.mpr ⟨⟨(List.mem_of_getElem? (i := 69) rfl), good_of_word rfl⟩, List.forall_mem_cons.mpr ⟨⟨(List.mem_of_getElem? (i := 43) rfl), good_of_word rfl⟩, List.forall_mem_cons.mpr ⟨⟨(List.mem_of_getElem? (i := 29) rfl), good_of_word rfl⟩, List.forall_mem_cons.mpr ⟨⟨(List.mem_of_getElem? (i := 48) rfl), good_of_word rfl⟩, List.forall_mem_cons.mpr ⟨⟨(List.mem_of_getElem? (i := 70) rfl), good_of_word rfl⟩, List.forall_mem_cons.mpr ⟨⟨(List.mem_of_getElem? (i := 71) rfl), good_of_word rfl⟩, List.forall_mem_cons.mpr ⟨⟨(List.mem_of_getElem? (i := 72) rfl), good_of_word rfl⟩, List.forall_mem_cons.mpr ⟨⟨(List.mem_of_getElem? (i := 73) rfl), good_of_word rfl⟩, List.forall_mem_cons.mpr ⟨⟨(List.mem_of_getElem? (i := 74) rfl), good_of_word rfl⟩, List.forall_mem_cons.mpr ⟨⟨(List.mem_of_getElem? (i := 75) rfl), good_of_word rfl⟩, List.forall_mem_cons.mpr ⟨⟨(List.mem_of_getElem? (i := 76) rfl), good_of_word rfl⟩, List.forall_mem_cons.mpr ⟨⟨(List.mem_of_getElem? (i := 77) rfl), good_of_word rfl⟩, List.forall_mem_cons.mpr ⟨⟨(List.mem_of_getElem? (i := 78) rfl), good_of_word rfl⟩, List.forall_mem_cons.mpr ⟨⟨(List.mem_of_getElem? (i := 79) rfl), good_of_word rfl⟩, List.forall_mem_cons.mpr ⟨⟨(List.mem_of_getElem? (i := 80) rfl), good_of_word rfl⟩, List.forall_mem_cons.mpr ⟨⟨(List.mem_of_getElem? (i := 81) rfl), good_of_word rfl⟩, List.forall_mem_cons.mpr ⟨⟨(List.mem_of_getElem? (i := 82) rfl), good_of_word rfl⟩, List.forall_mem_cons.mpr ⟨⟨(List.mem_of_getElem? (i := 83) rfl), good_of_word rfl⟩, List.forall_mem_cons.mpr ⟨⟨(List.mem_of_getElem? (i := 84) rfl), good_of_word rfl⟩, List.forall_mem_cons.mpr ⟨⟨(List.mem_of_getElem? (i := 85) rfl), good_of_word rfl⟩, List.forall_mem_cons.mpr ⟨⟨(List.mem_of_getElem? (i := 86) rfl), good_of_word rfl⟩, List.forall_mem_cons.mpr ⟨⟨(List.mem_of_getElem? (i := 87) rfl), good_of_word rfl⟩, List.forall_mem_cons.mpr ⟨⟨(List.mem_of_getElem? (i := 88) rfl), good_of_word rfl⟩, List.forall_mem_cons.mpr ⟨⟨(List.mem_of_getElem? (i := 89) rfl), good_of_word rfl⟩, List.forall_mem_cons.mpr ⟨⟨(List.mem_of_getElem? (i := 90) rfl), good_of_word rfl⟩, List.forall_mem_cons.mpr ⟨⟨(List.mem_of_getElem? (i := 91) rfl), good_of_word rfl⟩, List.forall_mem_cons.mpr ⟨⟨(List.mem_of_getElem? (i := 92) rfl), good_of_word rfl⟩, List.forall_mem_cons.mpr ⟨⟨(List.mem_of_getElem? (i := 93) rfl), good_of_word rfl⟩, List.forall_mem_cons.mpr ⟨⟨(List.mem_of_getElem? (i := 94) rfl), good_of_word rfl⟩, List.forall_mem_cons.mpr ⟨⟨(List.mem_of_getElem? (i := 95) rfl), good_of_word rfl⟩, List.forall_mem_cons.mpr ⟨⟨(List.mem_of_getElem? (i := 96) rfl), good_of_word rfl⟩, List.forall_mem_cons.mpr ⟨⟨(List.mem_of_getElem? (i := 97) rfl), good_of_word rfl⟩, List.forall_mem_cons.mpr ⟨⟨(List.mem_of_getElem? (i := 98) rfl), good_of_word rfl⟩, List.forall_mem_cons.mpr ⟨⟨(List.mem_of_getElem? (i := 99) rfl), good_of_word rfl⟩, List.forall_mem_cons.mpr ⟨⟨(List.mem_of_getElem? (i := 100) rfl), good_of_word rfl⟩, List.forall_mem_cons.mpr ⟨⟨(List.mem_of_getElem? (i := 101) rfl), good_of_word rfl⟩, List.forall_mem_cons.mpr ⟨⟨(List.mem_of_getElem? (i := 102) rfl), good_of_word rfl⟩, (fun _ h => absurd h List.not_mem_nil)⟩⟩⟩⟩⟩⟩⟩⟩⟩⟩⟩⟩⟩⟩⟩⟩⟩⟩⟩⟩⟩⟩⟩⟩⟩⟩⟩⟩⟩⟩⟩⟩⟩⟩⟩⟩⟩⟩⟩⟩⟩⟩⟩⟩⟩⟩⟩⟩⟩⟩⟩⟩⟩⟩, fun w h => ⟨(fun w h => List.mem_cons_of_mem _ (List.mem_append_left _ (List.mem_append_left _ (List.mem_append_left _ (List.mem_append_left _ (List.mem_append_left _ (List.mem_append_right _ h))))))) w h, good_of_word (List.all_eq_true.mp gw_X3 w h)⟩⟩, fun w h => ⟨(fun w h => List.mem_cons_of_mem _ (List.mem_append_left _ (List.mem_append_left _ (List.mem_append_left _ (List.mem_append_left _ (List.mem_append_right _ h)))))) w h, good_of_word (List.all_eq_true.mp gw_X4 w h)⟩⟩, fun w h => ⟨(fun w h => List.mem_cons_of_mem _ (List.mem_append_left _ (List.mem_append_left _ (List.mem_append_left _ (List.mem_append_right _ h))))) w h, good_of_word (List.all_eq_true.mp gw_X5 w h)⟩⟩, fun w h => ⟨(fun w h => List.mem_cons_of_mem _ (List.mem_append_left _ (List.mem_append_left _ (List.mem_append_right _ h)))) w h, good_of_word (List.all_eq_true.mp gw_X7 w h)⟩⟩, fun w h => ⟨(fun w h => List.mem_cons_of_mem _ (List.mem_append_left _ (List.mem_append_right _ h))) w h, good_of_word (List.all_eq_true.mp gw_X9 w h)⟩⟩, fun w h => ⟨(fun w h => List.mem_cons_of_mem _ (List.mem_append_right _ h)) w h, good_of_word (List.all_eq_true.mp gw_X10 w h)⟩⟩⟩
set_option maxRecDepth 20000 in
theorem gq_k_X3_mostBySeats_k_X3_takenAt_85 : GoodIn wq_k_X3_mostBySeats (wsV RX3 85 RX3 yX3_takenAt wq_k_X3_takenAt) := goodIn_app (List.forall_mem_cons.mpr ⟨⟨(List.mem_of_getElem? (i := 60) rfl), good_of_word rfl⟩, List.forall_mem_cons.mpr ⟨⟨(List.mem_of_getElem? (i := 61) rfl), good_of_word rfl⟩, List.forall_mem_cons.mpr ⟨⟨(List.mem_of_getElem? (i := 62) rfl), good_of_word rfl⟩, List.forall_mem_cons.mpr ⟨⟨(List.mem_of_getElem? (i := 4) rfl), good_of_word rfl⟩, (fun _ h => absurd h List.not_mem_nil)⟩⟩⟩⟩) gr_k_X3_mostBySeats_k_X3_takenAt
set_option maxRecDepth 20000 in
theorem gr_k_X3_mostBySeats_k_X11_power : GoodIn wq_k_X3_mostBySeats wq_k_X11_power := List.forall_mem_cons.mpr ⟨⟨(List.mem_of_getElem? (i := 103) rfl), good_of_word rfl⟩, (fun _ h => absurd h List.not_mem_nil)⟩
theorem gq_k_X3_mostBySeats_k_X11_power : GoodIn wq_k_X3_mostBySeats wq_k_X11_power := gr_k_X3_mostBySeats_k_X11_power
set_option maxRecDepth 20000 in
theorem gr_k_X3_mostBySeats_k_X11_spread : GoodIn wq_k_X3_mostBySeats wq_k_X11_spread := List.forall_mem_cons.mpr ⟨⟨(List.mem_of_getElem? (i := 106) rfl), good_of_word rfl⟩, (fun _ h => absurd h List.not_mem_nil)⟩
theorem gq_k_X3_mostBySeats_k_X11_spread : GoodIn wq_k_X3_mostBySeats wq_k_X11_spread := gr_k_X3_mostBySeats_k_X11_spread
set_option maxRecDepth 20000 in
theorem gr_k_X3_mostBySeats_k_X3_takenBySeats : GoodIn wq_k_X3_mostBySeats wq_k_X3_takenBySeats := List.forall_mem_cons.mpr ⟨⟨(List.mem_of_getElem? (i := 111) rfl), good_of_word rfl⟩, List.forall_mem_append.mpr ⟨List.forall_mem_append.mpr ⟨List.forall_mem_cons.mpr ⟨⟨(List.mem_of_getElem? (i := 51) rfl), good_of_word rfl⟩, List.forall_mem_cons.mpr ⟨⟨(List.mem_of_getElem? (i := 53) rfl), good_of_word rfl⟩, List.forall_mem_cons.mpr ⟨⟨(List.mem_of_getElem? (i := 52) rfl), good_of_word rfl⟩, List.forall_mem_cons.mpr ⟨⟨(List.mem_of_getElem? (i := 105) rfl), good_of_word rfl⟩, List.forall_mem_cons.mpr ⟨⟨(List.mem_of_getElem? (i := 59) rfl), good_of_word rfl⟩, (fun _ h => absurd h List.not_mem_nil)⟩⟩⟩⟩⟩, fun w h => ⟨(fun w h => List.mem_cons_of_mem _ (List.mem_append_left _ (List.mem_append_left _ (List.mem_append_left _ (List.mem_append_left _ (List.mem_append_left _ (List.mem_append_right _ h))))))) w h, good_of_word (List.all_eq_true.mp gw_X3 w h)⟩⟩, fun w h => ⟨(fun w h => List.mem_cons_of_mem _ (List.mem_append_left _ (List.mem_append_left _ (List.mem_append_right _ h)))) w h, good_of_word (List.all_eq_true.mp gw_X7 w h)⟩⟩⟩
set_option maxRecDepth 20000 in
theorem gq_k_X3_mostBySeats_k_X3_takenBySeats_93 : GoodIn wq_k_X3_mostBySeats (wsV RX3 93 RX3 yX3_takenBySeats wq_k_X3_takenBySeats) := goodIn_app (List.forall_mem_cons.mpr ⟨⟨(List.mem_of_getElem? (i := 108) rfl), good_of_word rfl⟩, List.forall_mem_cons.mpr ⟨⟨(List.mem_of_getElem? (i := 109) rfl), good_of_word rfl⟩, List.forall_mem_cons.mpr ⟨⟨(List.mem_of_getElem? (i := 110) rfl), good_of_word rfl⟩, List.forall_mem_cons.mpr ⟨⟨(List.mem_of_getElem? (i := 4) rfl), good_of_word rfl⟩, (fun _ h => absurd h List.not_mem_nil)⟩⟩⟩⟩) gr_k_X3_mostBySeats_k_X3_takenBySeats
set_option maxRecDepth 20000 in
theorem gr_k_X3_mostBySeats_k_X3_better : GoodIn wq_k_X3_mostBySeats wq_k_X3_better := List.forall_mem_cons.mpr ⟨⟨(List.mem_of_getElem? (i := 115) rfl), good_of_word rfl⟩, List.forall_mem_append.mpr ⟨List.forall_mem_cons.mpr ⟨⟨(List.mem_of_getElem? (i := 105) rfl), good_of_word rfl⟩, List.forall_mem_cons.mpr ⟨⟨(List.mem_of_getElem? (i := 116) rfl), good_of_word rfl⟩, List.forall_mem_cons.mpr ⟨⟨(List.mem_of_getElem? (i := 117) rfl), good_of_word rfl⟩, List.forall_mem_cons.mpr ⟨⟨(List.mem_of_getElem? (i := 31) rfl), good_of_word rfl⟩, List.forall_mem_cons.mpr ⟨⟨(List.mem_of_getElem? (i := 32) rfl), good_of_word rfl⟩, List.forall_mem_cons.mpr ⟨⟨(List.mem_of_getElem? (i := 33) rfl), good_of_word rfl⟩, (fun _ h => absurd h List.not_mem_nil)⟩⟩⟩⟩⟩⟩, fun w h => ⟨(fun w h => List.mem_cons_of_mem _ (List.mem_append_left _ (List.mem_append_left _ (List.mem_append_left _ (List.mem_append_left _ (List.mem_append_left _ (List.mem_append_right _ h))))))) w h, good_of_word (List.all_eq_true.mp gw_X3 w h)⟩⟩⟩
set_option maxRecDepth 20000 in
theorem gq_k_X3_mostBySeats_k_X3_better_70 : GoodIn wq_k_X3_mostBySeats (wsV RX3 70 RX3 yX3_better wq_k_X3_better) := goodIn_app (List.forall_mem_cons.mpr ⟨⟨(List.mem_of_getElem? (i := 112) rfl), good_of_word rfl⟩, List.forall_mem_cons.mpr ⟨⟨(List.mem_of_getElem? (i := 113) rfl), good_of_word rfl⟩, List.forall_mem_cons.mpr ⟨⟨(List.mem_of_getElem? (i := 114) rfl), good_of_word rfl⟩, List.forall_mem_cons.mpr ⟨⟨(List.mem_of_getElem? (i := 4) rfl), good_of_word rfl⟩, (fun _ h => absurd h List.not_mem_nil)⟩⟩⟩⟩) gr_k_X3_mostBySeats_k_X3_better
set_option maxHeartbeats 8000000 in
set_option maxRecDepth 100000 in
theorem k_X3_mostBySeats (l : Launch) (D : va_G) (cy : Nat → ClassId) (ad : Nat → Nat) (g : Nat → va_E) {x0_5 : Int32} {x1_2 : Int32} {x1_4 : Int32} {u3_0 : Value} {u3_1 : Value} {u3_4 : Value} {x3_5 : Int32} {u3_6 : Value} {x3_11 : Int32} {u3_12 : Value} {u3_13 : Value} {u3_14 : Value} {u3_15 : Value} {u3_16 : Value} {c4 : Nat → Int32} {c5 : Nat → Int32} {c6 : Nat → Int32} {c7 : Nat → Int32} {c8 : Nat → Int32} {c9 : Nat → Int32} {c10 : Nat → Int32} {c11 : Nat → Int32} {c12 : Nat → Int32} {c13 : Nat → Int32} {c14 : Nat → Int32} {c15 : Nat → Int32} {x16_1 : Int32} {u16_2 : Value} {x16_3 : Int32} {c18 : Nat → Int32} {c19 : Nat → Int32} {c20 : Nat → Int32} {c21 : Nat → Int32} {c22 : Nat → Int32} {c23 : Nat → Int32} {c24 : Nat → Int32} {c25 : Nat → Int32} {c26 : Nat → Int32} {c27 : Nat → Int32} {c28 : Nat → Int32} {c29 : Nat → Int32} (o0 : g 0 = .inr (3, [.ref (ad 3), .ref (ad 1), .ref (ad 17), .ref (ad 2), .ref (ad 15), .int x0_5, .ref (ad 28), .ref (ad 27), .ref (ad 29)])) (o1 : g 1 = .inr (9, [.ref (ad 4), .ref (ad 24), .int x1_2, .ref (ad 5), .int x1_4])) (o2 : g 2 = .inr (10, [.ref (ad 3), .ref (ad 8), .ref (ad 9), .ref (ad 10), .ref (ad 11), .ref (ad 12), .ref (ad 13), .ref (ad 14)])) (o3 : g 3 = .inr (7, [u3_0, u3_1, .ref (ad 18), .ref (ad 19), u3_4, .int x3_5, u3_6, .ref (ad 20), .ref (ad 21), .ref (ad 6), .ref (ad 7), .int x3_11, u3_12, u3_13, u3_14, u3_15, u3_16, .ref (ad 16)])) (a4 : g 4 = .inl (cy 0, 24, .inl c4)) (a5 : g 5 = .inl (cy 0, 5, .inl c5)) (a6 : g 6 = .inl (cy 0, 20, .inl c6)) (a7 : g 7 = .inl (cy 0, 4, .inl c7)) (a8 : g 8 = .inl (cy 0, 5, .inl c8)) (a9 : g 9 = .inl (cy 0, 20, .inl c9)) (a10 : g 10 = .inl (cy 0, 4, .inl c10)) (a11 : g 11 = .inl (cy 0, 5, .inl c11)) (a12 : g 12 = .inl (cy 0, 5, .inl c12)) (a13 : g 13 = .inl (cy 0, 5, .inl c13)) (a14 : g 14 = .inl (cy 0, 5, .inl c14)) (a15 : g 15 = .inl (cy 0, 24, .inl c15)) (o16 : g 16 = .inr (4, [.ref (ad 22), .int x16_1, u16_2, .int x16_3, .ref (ad 23)])) (o17 : g 17 = .inr (5, [.ref (ad 3), .ref (ad 25), .ref (ad 26)])) (a18 : g 18 = .inl (cy 0, 5, .inl c18)) (a19 : g 19 = .inl (cy 0, 5, .inl c19)) (a20 : g 20 = .inl (cy 0, 4, .inl c20)) (a21 : g 21 = .inl (cy 0, 4, .inl c21)) (a22 : g 22 = .inl (cy 0, 300, .inl c22)) (a23 : g 23 = .inl (cy 0, 30, .inl c23)) (a24 : g 24 = .inl (cy 0, 24, .inl c24)) (a25 : g 25 = .inl (cy 0, 80, .inl c25)) (a26 : g 26 = .inl (cy 0, 80, .inl c26)) (a27 : g 27 = .inl (cy 0, 128, .inl c27)) (a28 : g 28 = .inl (cy 0, 5, .inl c28)) (a29 : g 29 = .inl (cy 0, 5, .inl c29)) (b0_5 : zi 0 24 x0_5) (b1_4 : zi 0 24 x1_4) (b3_5 : zi 0 5 x3_5) (b3_11 : zi 0 4 x3_11) (ha6 : za 0 4 c6) (ha7 : za 0 5 c7) (ha9 : za 0 4 c9) (ha10 : za 0 5 c10) (ha15 : za 0 23 c15) (b16_1 : zi 0 300 x16_1) (b16_3 : zi 0 1 x16_3) : cMi l yX3_mostBySeats wq_k_X3_mostBySeats { frames := 4, cells := 0, slots := 0, locals := 101 } 30 0 0 0 D cy ad g [.ref (ad 0)] (fun r nw lu => ∃ (y0_5 : Int32) (d8 : Nat → Int32) (d9 : Nat → Int32) (d10 : Nat → Int32) (d11 : Nat → Int32) (d12 : Nat → Int32) (d13 : Nat → Int32) (d14 : Nat → Int32) (d15 : Nat → Int32) (d23 : Nat → Int32) (d25 : Nat → Int32) (d26 : Nat → Int32) (d27 : Nat → Int32) (d28 : Nat → Int32) (d29 : Nat → Int32), (zi 0 24 y0_5) ∧ (za 0 4 d9) ∧ (za 0 5 d10) ∧ (za 0 23 d15) ∧ (lu = [(0, .inr (3, [.ref (ad 3), .ref (ad 1), .ref (ad 17), .ref (ad 2), .ref (ad 15), .int y0_5, .ref (ad 28), .ref (ad 27), .ref (ad 29)])), (8, .inl (cy 0, 5, .inl d8)), (9, .inl (cy 0, 20, .inl d9)), (10, .inl (cy 0, 4, .inl d10)), (11, .inl (cy 0, 5, .inl d11)), (12, .inl (cy 0, 5, .inl d12)), (13, .inl (cy 0, 5, .inl d13)), (14, .inl (cy 0, 5, .inl d14)), (15, .inl (cy 0, 24, .inl d15)), (23, .inl (cy 0, 30, .inl d23)), (25, .inl (cy 0, 80, .inl d25)), (26, .inl (cy 0, 80, .inl d26)), (27, .inl (cy 0, 128, .inl d27)), (28, .inl (cy 0, 5, .inl d28)), (29, .inl (cy 0, 5, .inl d29))])) := by
  refine cM_of (Qc := fun A => cQi (fun r nw lu => ∃ (y0_5 : Int32) (d8 : Nat → Int32) (d9 : Nat → Int32) (d10 : Nat → Int32) (d11 : Nat → Int32) (d12 : Nat → Int32) (d13 : Nat → Int32) (d14 : Nat → Int32) (d15 : Nat → Int32) (d23 : Nat → Int32) (d25 : Nat → Int32) (d26 : Nat → Int32) (d27 : Nat → Int32) (d28 : Nat → Int32) (d29 : Nat → Int32), (zi 0 24 y0_5) ∧ (za 0 4 d9) ∧ (za 0 5 d10) ∧ (za 0 23 d15) ∧ (lu = [(0, .inr (3, [.ref (ad 3), .ref (ad 1), .ref (ad 17), .ref (ad 2), .ref (ad 15), .int y0_5, .ref (ad 28), .ref (ad 27), .ref (ad 29)])), (8, .inl (cy 0, 5, .inl d8)), (9, .inl (cy 0, 20, .inl d9)), (10, .inl (cy 0, 4, .inl d10)), (11, .inl (cy 0, 5, .inl d11)), (12, .inl (cy 0, 5, .inl d12)), (13, .inl (cy 0, 5, .inl d13)), (14, .inl (cy 0, 5, .inl d14)), (15, .inl (cy 0, 24, .inl d15)), (23, .inl (cy 0, 30, .inl d23)), (25, .inl (cy 0, 80, .inl d25)), (26, .inl (cy 0, 80, .inl d26)), (27, .inl (cy 0, 128, .inl d27)), (28, .inl (cy 0, 5, .inl d28)), (29, .inl (cy 0, 5, .inl d29))])) D 30 0 ad g A) (cc := cX3_mostBySeats) (maxL := 5) (ret := (some .int)) (by decide) rfl (Nat.le_of_ble_eq_true rfl) ?_
  intro p e s m below meth c A hC hr hlk hnm hO ls hl
  have hC : CallFix p m c cX3_mostBySeats 5 s [.ref (ad 0)].toArray wq_k_X3_mostBySeats RX3 := hC
  obtain ⟨hx, hb, hml, hown, hts⟩ := id hC
  have hl : lv_has ls 5 [(0, .ref (ad 0))] := hl
  have i_X10 : ∀ w ∈ wsX100, w ∈ wq_k_X3_mostBySeats := fun w h => List.mem_cons_of_mem _ (List.mem_append_right _ h)
  have i_X3 : ∀ w ∈ wsX30, w ∈ wq_k_X3_mostBySeats := fun w h => List.mem_cons_of_mem _ (List.mem_append_left _ (List.mem_append_left _ (List.mem_append_left _ (List.mem_append_left _ (List.mem_append_left _ (List.mem_append_right _ h))))))
  have i_X4 : ∀ w ∈ wsX40, w ∈ wq_k_X3_mostBySeats := fun w h => List.mem_cons_of_mem _ (List.mem_append_left _ (List.mem_append_left _ (List.mem_append_left _ (List.mem_append_left _ (List.mem_append_right _ h)))))
  have i_X5 : ∀ w ∈ wsX50, w ∈ wq_k_X3_mostBySeats := fun w h => List.mem_cons_of_mem _ (List.mem_append_left _ (List.mem_append_left _ (List.mem_append_left _ (List.mem_append_right _ h))))
  have i_X7 : ∀ w ∈ wsX70, w ∈ wq_k_X3_mostBySeats := fun w h => List.mem_cons_of_mem _ (List.mem_append_left _ (List.mem_append_left _ (List.mem_append_right _ h)))
  have i_X9 : ∀ w ∈ wsX90, w ∈ wq_k_X3_mostBySeats := fun w h => List.mem_cons_of_mem _ (List.mem_append_left _ (List.mem_append_right _ h))
  have hO := hO.notes [(0, .inr (3, [.ref (ad 3), .ref (ad 1), .ref (ad 17), .ref (ad 2), .ref (ad 15), .int x0_5, .ref (ad 28), .ref (ad 27), .ref (ad 29)])), (8, .inl (cy 0, 5, .inl c8)), (9, .inl (cy 0, 20, .inl c9)), (10, .inl (cy 0, 4, .inl c10)), (11, .inl (cy 0, 5, .inl c11)), (12, .inl (cy 0, 5, .inl c12)), (13, .inl (cy 0, 5, .inl c13)), (14, .inl (cy 0, 5, .inl c14)), (15, .inl (cy 0, 24, .inl c15)), (23, .inl (cy 0, 30, .inl c23)), (25, .inl (cy 0, 80, .inl c25)), (26, .inl (cy 0, 80, .inl c26)), (27, .inl (cy 0, 128, .inl c27)), (28, .inl (cy 0, 5, .inl c28)), (29, .inl (cy 0, 5, .inl c29))] (List.forall_mem_cons.mpr ⟨o0, List.forall_mem_cons.mpr ⟨a8, List.forall_mem_cons.mpr ⟨a9, List.forall_mem_cons.mpr ⟨a10, List.forall_mem_cons.mpr ⟨a11, List.forall_mem_cons.mpr ⟨a12, List.forall_mem_cons.mpr ⟨a13, List.forall_mem_cons.mpr ⟨a14, List.forall_mem_cons.mpr ⟨a15, List.forall_mem_cons.mpr ⟨a23, List.forall_mem_cons.mpr ⟨a25, List.forall_mem_cons.mpr ⟨a26, List.forall_mem_cons.mpr ⟨a27, List.forall_mem_cons.mpr ⟨a28, List.forall_mem_cons.mpr ⟨a29, (fun _ h => absurd h List.not_mem_nil)⟩⟩⟩⟩⟩⟩⟩⟩⟩⟩⟩⟩⟩⟩⟩)
  refine lv_aload_n hx hb ddX3_mostBySeats_0 rfl (lv_at hl 0 rfl) ?_
  refine cg_Vv (As := []) (rest := []) (mc := 0) (ms := 0) (rm := { frames := 3, cells := 0, slots := 0, locals := 81 }) hC hl.1 hO [0, 1, 15, 4, 2, 3, 6, 7, 8, 9, 10, 11, 12, 13, 14, 5] (by decide +kernel) (k_X3_begin l D cy _ _ (u0_0 := .ref (ad 3)) (c3 := c4) (u1_1 := .ref (ad 24)) (x1_2 := x1_2) (c15 := c5) (x1_4 := x1_4) (u0_2 := .ref (ad 17)) (u5_0 := u3_0) (u5_1 := u3_1) (u5_2 := .ref (ad 18)) (u5_3 := .ref (ad 19)) (u5_4 := u3_4) (u5_5 := .int x3_5) (u5_6 := u3_6) (u5_7 := .ref (ad 20)) (u5_8 := .ref (ad 21)) (c6 := c6) (c7 := c7) (u5_11 := .int x3_11) (u5_12 := u3_12) (u5_13 := u3_13) (u5_14 := u3_14) (u5_15 := u3_15) (u5_16 := u3_16) (u5_17 := .ref (ad 16)) (c8 := c8) (c9 := c9) (c10 := c10) (c11 := c11) (c12 := c12) (c13 := c13) (c14 := c14) (c2 := c15) (x0_5 := x0_5) (u0_6 := .ref (ad 28)) (u0_7 := .ref (ad 27)) (u0_8 := .ref (ad 29)) rfl o1 rfl a4 o2 o3 a6 a7 rfl rfl rfl rfl rfl rfl rfl a5 b0_5 b1_4 ha15 ha6 ha7 ha9 ha10) gq_k_X3_mostBySeats_k_X3_begin_45 rfl rfl rfl 0 (by decide +kernel) ⟨Nat.le_of_ble_eq_true rfl, Nat.le_of_ble_eq_true rfl⟩ rfl (by decide) rfl rfl rfl (Nat.le_of_ble_eq_true rfl) ddX3_mostBySeats_1 ⟨Nat.le_of_ble_eq_true rfl, Nat.le_of_ble_eq_true rfl⟩ (fun nw_1_44733 l_1_44734 H locs hw hO => ?_)
  obtain ⟨y0_1_44736, d2_1_44737, d8_1_44738, d9_1_44739, d10_1_44740, d11_1_44741, d12_1_44742, d13_1_44743, d14_1_44744, z_1_44745, z_1_44746, z_1_44747, z_1_44748, rfl⟩ := hw
  have hO := hO.mrg (lk := [(0, .inr (3, [.ref (ad 3), .ref (ad 1), .ref (ad 17), .ref (ad 2), .ref (ad 15), .int y0_1_44736, .ref (ad 28), .ref (ad 27), .ref (ad 29)])), (15, .inl (cy 0, 24, .inl d2_1_44737)), (8, .inl (cy 0, 5, .inl d8_1_44738)), (9, .inl (cy 0, 20, .inl d9_1_44739)), (10, .inl (cy 0, 4, .inl d10_1_44740)), (11, .inl (cy 0, 5, .inl d11_1_44741)), (12, .inl (cy 0, 5, .inl d12_1_44742)), (13, .inl (cy 0, 5, .inl d13_1_44743)), (14, .inl (cy 0, 5, .inl d14_1_44744))]) (lm := [(0, .inr (3, [.ref (ad 3), .ref (ad 1), .ref (ad 17), .ref (ad 2), .ref (ad 15), .int y0_1_44736, .ref (ad 28), .ref (ad 27), .ref (ad 29)])), (8, .inl (cy 0, 5, .inl d8_1_44738)), (9, .inl (cy 0, 20, .inl d9_1_44739)), (10, .inl (cy 0, 4, .inl d10_1_44740)), (11, .inl (cy 0, 5, .inl d11_1_44741)), (12, .inl (cy 0, 5, .inl d12_1_44742)), (13, .inl (cy 0, 5, .inl d13_1_44743)), (14, .inl (cy 0, 5, .inl d14_1_44744)), (15, .inl (cy 0, 24, .inl d2_1_44737)), (23, .inl (cy 0, 30, .inl c23)), (25, .inl (cy 0, 80, .inl c25)), (26, .inl (cy 0, 80, .inl c26)), (27, .inl (cy 0, 128, .inl c27)), (28, .inl (cy 0, 5, .inl c28)), (29, .inl (cy 0, 5, .inl c29))]) rfl rfl rfl
  refine lv_iconst (v := 1) hx hb ddX3_mostBySeats_4 (by decide) ?_
  refine lv_aload_n hx hb ddX3_mostBySeats_5 rfl (lv_at hl 0 rfl) ?_
  refine cg_get hC hO 0 (by decide) rfl rfl i_X3 0 (by decide) (List.mem_of_getElem? (i := 51) rfl) rfl ddX3_mostBySeats_6 ?_
  refine cg_get hC hO 3 (by decide) o3 rfl i_X7 5 (by decide) (List.mem_of_getElem? (i := 52) rfl) rfl ddX3_mostBySeats_9 ?_
  refine lv_ishl hx hb ddX3_mostBySeats_12 ?_
  refine zg_top (P := fun v => zi 1 32 v) (zi_shl b3_5) (fun v_12_44749 z_12_44750 => ?_)
  refine lv_istore_n (lv' := [(1, .int v_12_44749), (0, .ref (ad 0))]) hx hb ddX3_mostBySeats_13 rfl hl (by decide) rfl (fun ls hl => ?_)
  refine lv_iconst (v := 0) hx hb ddX3_mostBySeats_14 (by decide) ?_
  refine lv_istore_n (lv' := [(2, .int 0), (1, .int v_12_44749), (0, .ref (ad 0))]) hx hb ddX3_mostBySeats_15 rfl hl (by decide) rfl (fun ls hl => ?_)
  have loop_16_69369 : ∀ (d_16_69370 : Nat) (v_16_65218 : Int32) (c_16_65220 : Nat → Int32) (c_16_65222 : Nat → Int32) (c_16_65224 : Nat → Int32) (c_16_65226 : Nat → Int32) (c_16_65228 : Nat → Int32) (c_16_65230 : Nat → Int32) (c_16_65232 : Nat → Int32) (c_16_65234 : Nat → Int32) (c_16_65236 : Nat → Int32) (c_16_65238 : Nat → Int32), zi 0 4 v_16_65218 → za 0 4 c_16_65220 → za 0 5 c_16_65222 → za (-2147483648) 2147483647 c_16_65224 → za (-2147483648) 2147483647 c_16_65226 → za (-2147483648) 2147483647 c_16_65228 → za (-2147483648) 2147483647 c_16_65230 → za (-2147483648) 2147483647 c_16_65232 → za (-2147483648) 2147483647 c_16_65234 → za (-2147483648) 2147483647 c_16_65236 → za (-2147483648) 2147483647 c_16_65238 → (4 + 1 - v_16_65218.toInt).toNat < d_16_69370 → ∀ (H : Heap) (locs : List Loc), cO D cy A s.heap s 30 ad (cup [(0, .inr (3, [.ref (ad 3), .ref (ad 1), .ref (ad 17), .ref (ad 2), .ref (ad 15), .int y0_1_44736, .ref (ad 28), .ref (ad 27), .ref (ad 29)])), (8, .inl (cy 0, 5, .inl d8_1_44738)), (9, .inl (cy 0, 20, .inl c_16_65220)), (10, .inl (cy 0, 4, .inl c_16_65222)), (11, .inl (cy 0, 5, .inl c_16_65224)), (12, .inl (cy 0, 5, .inl c_16_65226)), (13, .inl (cy 0, 5, .inl c_16_65228)), (14, .inl (cy 0, 5, .inl c_16_65230)), (15, .inl (cy 0, 24, .inl d2_1_44737)), (23, .inl (cy 0, 30, .inl c_16_65232)), (25, .inl (cy 0, 80, .inl c_16_65234)), (26, .inl (cy 0, 80, .inl c_16_65236)), (27, .inl (cy 0, 128, .inl c_16_65238)), (28, .inl (cy 0, 5, .inl c28)), (29, .inl (cy 0, 5, .inl c29))] g) H locs → ∀ ls : Array Slot, lv_has ls 5 [(2, .int v_16_65218), (1, .int v_12_44749), (0, .ref (ad 0))] → W p l e { frames := 4, cells := 0, slots := 0, locals := 101 } s m [.ref (ad 0)].toArray below meth c H locs 0 0 (MQ below (cQi (fun r nw lu => ∃ (y0_5 : Int32) (d8 : Nat → Int32) (d9 : Nat → Int32) (d10 : Nat → Int32) (d11 : Nat → Int32) (d12 : Nat → Int32) (d13 : Nat → Int32) (d14 : Nat → Int32) (d15 : Nat → Int32) (d23 : Nat → Int32) (d25 : Nat → Int32) (d26 : Nat → Int32) (d27 : Nat → Int32) (d28 : Nat → Int32) (d29 : Nat → Int32), (zi 0 24 y0_5) ∧ (za 0 4 d9) ∧ (za 0 5 d10) ∧ (za 0 23 d15) ∧ (lu = [(0, .inr (3, [.ref (ad 3), .ref (ad 1), .ref (ad 17), .ref (ad 2), .ref (ad 15), .int y0_5, .ref (ad 28), .ref (ad 27), .ref (ad 29)])), (8, .inl (cy 0, 5, .inl d8)), (9, .inl (cy 0, 20, .inl d9)), (10, .inl (cy 0, 4, .inl d10)), (11, .inl (cy 0, 5, .inl d11)), (12, .inl (cy 0, 5, .inl d12)), (13, .inl (cy 0, 5, .inl d13)), (14, .inl (cy 0, 5, .inl d14)), (15, .inl (cy 0, 24, .inl d15)), (23, .inl (cy 0, 30, .inl d23)), (25, .inl (cy 0, 80, .inl d25)), (26, .inl (cy 0, 80, .inl d26)), (27, .inl (cy 0, 128, .inl d27)), (28, .inl (cy 0, 5, .inl d28)), (29, .inl (cy 0, 5, .inl d29))])) D 30 0 ad g A) [.ref (ad 0)].toArray s 0 0 A) (F0 m 16 ls [])  := by
    intro d_16_69370
    induction d_16_69370 with
    | zero => intro v_16_65218 c_16_65220 c_16_65222 c_16_65224 c_16_65226 c_16_65228 c_16_65230 c_16_65232 c_16_65234 c_16_65236 c_16_65238 z_16_65219 zc_16_65221 zc_16_65223 zc_16_65225 zc_16_65227 zc_16_65229 zc_16_65231 zc_16_65233 zc_16_65235 zc_16_65237 zc_16_65239 mu_16_69371; exact absurd mu_16_69371 (Nat.not_lt_zero _)
    | succ d_16_69370 ih_16_69372 =>
      intro v_16_65218 c_16_65220 c_16_65222 c_16_65224 c_16_65226 c_16_65228 c_16_65230 c_16_65232 c_16_65234 c_16_65236 c_16_65238 z_16_65219 zc_16_65221 zc_16_65223 zc_16_65225 zc_16_65227 zc_16_65229 zc_16_65231 zc_16_65233 zc_16_65235 zc_16_65237 zc_16_65239 mu_16_69371 H locs hO ls hl
      refine lv_iload_n hx hb ddX3_mostBySeats_16 rfl (lv_at hl 0 rfl) ?_
      refine lv_aload_n hx hb ddX3_mostBySeats_17 rfl (lv_at hl 2 rfl) ?_
      refine cg_get hC hO 0 (by decide) rfl rfl i_X3 0 (by decide) (List.mem_of_getElem? (i := 51) rfl) rfl ddX3_mostBySeats_18 ?_
      refine cg_get hC hO 3 (by decide) o3 rfl i_X7 11 (by decide) (List.mem_of_getElem? (i := 53) rfl) rfl ddX3_mostBySeats_21 ?_
      refine lv_icmp_ge (tgt := 78) hx hb ddX3_mostBySeats_24 (by decide) (fun h_24_69373 => ?_) (fun h_24_69373 => ?_)
      · have q_24_71091 := zr_le h_24_69373
        refine lv_iconst (v := (-1)) hx hb ddX3_mostBySeats_78 (by decide) ?_
        refine lv_istore_n (lv' := [(2, .int (-1)), (1, .int v_12_44749), (0, .ref (ad 0))]) hx hb ddX3_mostBySeats_79 rfl hl (by decide) rfl (fun ls hl => ?_)
        refine lv_aload_n hx hb ddX3_mostBySeats_80 rfl (lv_at hl 2 rfl) ?_
        refine cg_get hC hO 0 (by decide) rfl rfl i_X3 0 (by decide) (List.mem_of_getElem? (i := 51) rfl) rfl ddX3_mostBySeats_81 ?_
        refine cg_get hC hO 3 (by decide) o3 rfl i_X7 11 (by decide) (List.mem_of_getElem? (i := 53) rfl) rfl ddX3_mostBySeats_84 ?_
        refine lv_aload_n hx hb ddX3_mostBySeats_87 rfl (lv_at hl 2 rfl) ?_
        refine cg_get hC hO 0 (by decide) rfl rfl i_X3 0 (by decide) (List.mem_of_getElem? (i := 51) rfl) rfl ddX3_mostBySeats_88 ?_
        refine cg_get hC hO 3 (by decide) o3 rfl i_X7 5 (by decide) (List.mem_of_getElem? (i := 52) rfl) rfl ddX3_mostBySeats_91 ?_
        refine cg_Ni (As := [.int x3_11, .int x3_5]) (rest := []) (mc := 0) (ms := 0) (rm := { frames := 0, cells := 0, slots := 0, locals := 0 }) hC hl.1 hO [] (by decide +kernel) (k_X11_power l D cy _ _ (base := x3_11) (n := x3_5) ) gq_k_X3_mostBySeats_k_X11_power rfl rfl rfl (host := "CrowToll") (nestL_mem_11) (List.mem_of_getElem? (i := 104) rfl) (List.mem_of_getElem? (i := 17) rfl) 2 (by decide +kernel) ⟨Nat.le_of_ble_eq_true rfl, Nat.le_of_ble_eq_true rfl⟩ rfl rfl (Nat.le_of_ble_eq_true rfl) ddX3_mostBySeats_94 ⟨Nat.le_of_ble_eq_true rfl, Nat.le_of_ble_eq_true rfl⟩ (fun r_94_71094 nw_94_71092 l_94_71093 H locs hw hO => ?_)
        obtain rfl := hw
        have hO : cO D cy A s.heap s 30 ad (cup [(0, .inr (3, [.ref (ad 3), .ref (ad 1), .ref (ad 17), .ref (ad 2), .ref (ad 15), .int y0_1_44736, .ref (ad 28), .ref (ad 27), .ref (ad 29)])), (8, .inl (cy 0, 5, .inl d8_1_44738)), (9, .inl (cy 0, 20, .inl c_16_65220)), (10, .inl (cy 0, 4, .inl c_16_65222)), (11, .inl (cy 0, 5, .inl c_16_65224)), (12, .inl (cy 0, 5, .inl c_16_65226)), (13, .inl (cy 0, 5, .inl c_16_65228)), (14, .inl (cy 0, 5, .inl c_16_65230)), (15, .inl (cy 0, 24, .inl d2_1_44737)), (23, .inl (cy 0, 30, .inl c_16_65232)), (25, .inl (cy 0, 80, .inl c_16_65234)), (26, .inl (cy 0, 80, .inl c_16_65236)), (27, .inl (cy 0, 128, .inl c_16_65238)), (28, .inl (cy 0, 5, .inl c28)), (29, .inl (cy 0, 5, .inl c29))] g) _ _ := hO
        refine lv_istore_n (lv' := [(3, .int r_94_71094), (2, .int (-1)), (1, .int v_12_44749), (0, .ref (ad 0))]) hx hb ddX3_mostBySeats_97 rfl hl (by decide) rfl (fun ls hl => ?_)
        refine lv_iconst (v := 0) hx hb ddX3_mostBySeats_98 (by decide) ?_
        refine lv_istore (lv' := [(4, .int 0), (3, .int r_94_71094), (2, .int (-1)), (1, .int v_12_44749), (0, .ref (ad 0))]) hx hb ddX3_mostBySeats_99 hl (by decide) rfl (fun ls hl => ?_)
        have loop_101_71786 : ∀ (d_101_71787 : Nat) (v_101_71759 : Int32) (v_101_71761 : Int32) (c_101_71762 : Nat → Int32) (c_101_71764 : Nat → Int32), zi 0 2147483647 v_101_71759 → za (-2147483648) 2147483647 c_101_71762 → za (-2147483648) 2147483647 c_101_71764 → (2147483647 + 1 - v_101_71759.toInt).toNat < d_101_71787 → ∀ (H : Heap) (locs : List Loc), cO D cy A s.heap s 30 ad (cup [(0, .inr (3, [.ref (ad 3), .ref (ad 1), .ref (ad 17), .ref (ad 2), .ref (ad 15), .int y0_1_44736, .ref (ad 28), .ref (ad 27), .ref (ad 29)])), (8, .inl (cy 0, 5, .inl d8_1_44738)), (9, .inl (cy 0, 20, .inl c_16_65220)), (10, .inl (cy 0, 4, .inl c_16_65222)), (11, .inl (cy 0, 5, .inl c_16_65224)), (12, .inl (cy 0, 5, .inl c_16_65226)), (13, .inl (cy 0, 5, .inl c_16_65228)), (14, .inl (cy 0, 5, .inl c_16_65230)), (15, .inl (cy 0, 24, .inl d2_1_44737)), (23, .inl (cy 0, 30, .inl c_16_65232)), (25, .inl (cy 0, 80, .inl c_16_65234)), (26, .inl (cy 0, 80, .inl c_16_65236)), (27, .inl (cy 0, 128, .inl c_16_65238)), (28, .inl (cy 0, 5, .inl c_101_71762)), (29, .inl (cy 0, 5, .inl c_101_71764))] g) H locs → ∀ ls : Array Slot, lv_has ls 5 [(4, .int v_101_71759), (3, .int r_94_71094), (2, .int v_101_71761), (1, .int v_12_44749), (0, .ref (ad 0))] → W p l e { frames := 4, cells := 0, slots := 0, locals := 101 } s m [.ref (ad 0)].toArray below meth c H locs 0 0 (MQ below (cQi (fun r nw lu => ∃ (y0_5 : Int32) (d8 : Nat → Int32) (d9 : Nat → Int32) (d10 : Nat → Int32) (d11 : Nat → Int32) (d12 : Nat → Int32) (d13 : Nat → Int32) (d14 : Nat → Int32) (d15 : Nat → Int32) (d23 : Nat → Int32) (d25 : Nat → Int32) (d26 : Nat → Int32) (d27 : Nat → Int32) (d28 : Nat → Int32) (d29 : Nat → Int32), (zi 0 24 y0_5) ∧ (za 0 4 d9) ∧ (za 0 5 d10) ∧ (za 0 23 d15) ∧ (lu = [(0, .inr (3, [.ref (ad 3), .ref (ad 1), .ref (ad 17), .ref (ad 2), .ref (ad 15), .int y0_5, .ref (ad 28), .ref (ad 27), .ref (ad 29)])), (8, .inl (cy 0, 5, .inl d8)), (9, .inl (cy 0, 20, .inl d9)), (10, .inl (cy 0, 4, .inl d10)), (11, .inl (cy 0, 5, .inl d11)), (12, .inl (cy 0, 5, .inl d12)), (13, .inl (cy 0, 5, .inl d13)), (14, .inl (cy 0, 5, .inl d14)), (15, .inl (cy 0, 24, .inl d15)), (23, .inl (cy 0, 30, .inl d23)), (25, .inl (cy 0, 80, .inl d25)), (26, .inl (cy 0, 80, .inl d26)), (27, .inl (cy 0, 128, .inl d27)), (28, .inl (cy 0, 5, .inl d28)), (29, .inl (cy 0, 5, .inl d29))])) D 30 0 ad g A) [.ref (ad 0)].toArray s 0 0 A) (F0 m 101 ls [])  := by
          intro d_101_71787
          induction d_101_71787 with
          | zero => intro v_101_71759 v_101_71761 c_101_71762 c_101_71764 z_101_71760 zc_101_71763 zc_101_71765 mu_101_71788; exact absurd mu_101_71788 (Nat.not_lt_zero _)
          | succ d_101_71787 ih_101_71789 =>
            intro v_101_71759 v_101_71761 c_101_71762 c_101_71764 z_101_71760 zc_101_71763 zc_101_71765 mu_101_71788 H locs hO ls hl
            refine lv_iload hx hb ddX3_mostBySeats_101 (lv_at hl 0 rfl) ?_
            refine lv_iload_n hx hb ddX3_mostBySeats_103 rfl (lv_at hl 1 rfl) ?_
            refine lv_icmp_ge (tgt := 146) hx hb ddX3_mostBySeats_104 (by decide) (fun h_104_71790 => ?_) (fun h_104_71790 => ?_)
            · have q_104_71791 := zr_le h_104_71790
              refine lv_iload_n hx hb ddX3_mostBySeats_146 rfl (lv_at hl 2 rfl) ?_
              exact cg_iret (nw := fun _ => 0) hC hr hlk hO.same rfl (Nat.le_of_ble_eq_true rfl) (Nat.le_of_ble_eq_true rfl) (⟨y0_1_44736, d8_1_44738, c_16_65220, c_16_65222, c_16_65224, c_16_65226, c_16_65228, c_16_65230, d2_1_44737, c_16_65232, c_16_65234, c_16_65236, c_16_65238, c_101_71762, c_101_71764, z_1_44745, zc_16_65221, zc_16_65223, z_1_44746, rfl⟩) ddX3_mostBySeats_147
            · have q_104_71792 := zr_nle h_104_71790
              have z_104_71793 : zi 0 2147483646 v_101_71759 := zu_lt q_104_71792 z_101_71760 (zi_all r_94_71094) (by decide)
              have z_104_71794 : zi 1 2147483647 r_94_71094 := zd_lt q_104_71792 z_101_71760 (zi_all r_94_71094) (by decide)
              refine lv_iload hx hb ddX3_mostBySeats_107 (lv_at hl 0 rfl) ?_
              refine lv_aload_n hx hb ddX3_mostBySeats_109 rfl (lv_at hl 4 rfl) ?_
              refine cg_get hC hO 0 (by decide) rfl rfl i_X3 0 (by decide) (List.mem_of_getElem? (i := 51) rfl) rfl ddX3_mostBySeats_110 ?_
              refine cg_get hC hO 3 (by decide) o3 rfl i_X7 11 (by decide) (List.mem_of_getElem? (i := 53) rfl) rfl ddX3_mostBySeats_113 ?_
              refine lv_aload_n hx hb ddX3_mostBySeats_116 rfl (lv_at hl 4 rfl) ?_
              refine cg_get hC hO 0 (by decide) rfl rfl i_X3 0 (by decide) (List.mem_of_getElem? (i := 51) rfl) rfl ddX3_mostBySeats_117 ?_
              refine cg_get hC hO 3 (by decide) o3 rfl i_X7 5 (by decide) (List.mem_of_getElem? (i := 52) rfl) rfl ddX3_mostBySeats_120 ?_
              refine lv_aload_n hx hb ddX3_mostBySeats_123 rfl (lv_at hl 4 rfl) ?_
              refine cg_get hC hO 0 (by decide) rfl rfl i_X3 6 (by decide) (List.mem_of_getElem? (i := 105) rfl) rfl ddX3_mostBySeats_124 ?_
              refine cg_Nv (As := [.int v_101_71759, .int x3_11, .int x3_5, .ref (ad 28)]) (rest := []) (mc := 0) (ms := 0) (rm := { frames := 0, cells := 0, slots := 0, locals := 0 }) hC hl.1 hO [28] (by decide +kernel) (k_X11_spread l D cy _ _ (number := v_101_71759) (base := x3_11) (n := x3_5) (c0 := c_101_71762) rfl b3_5) gq_k_X3_mostBySeats_k_X11_spread rfl rfl rfl (host := "CrowToll") (nestL_mem_12) (List.mem_of_getElem? (i := 107) rfl) (List.mem_of_getElem? (i := 17) rfl) 4 (by decide +kernel) ⟨Nat.le_of_ble_eq_true rfl, Nat.le_of_ble_eq_true rfl⟩ rfl rfl (Nat.le_of_ble_eq_true rfl) ddX3_mostBySeats_127 ⟨Nat.le_of_ble_eq_true rfl, Nat.le_of_ble_eq_true rfl⟩ (fun nw_127_71795 l_127_71796 H locs hw hO => ?_)
              obtain ⟨d0_127_71798, rfl⟩ := hw
              have hO := hO.mrg (lk := [(28, .inl (cy 0, 5, .inl d0_127_71798))]) (lm := [(0, .inr (3, [.ref (ad 3), .ref (ad 1), .ref (ad 17), .ref (ad 2), .ref (ad 15), .int y0_1_44736, .ref (ad 28), .ref (ad 27), .ref (ad 29)])), (8, .inl (cy 0, 5, .inl d8_1_44738)), (9, .inl (cy 0, 20, .inl c_16_65220)), (10, .inl (cy 0, 4, .inl c_16_65222)), (11, .inl (cy 0, 5, .inl c_16_65224)), (12, .inl (cy 0, 5, .inl c_16_65226)), (13, .inl (cy 0, 5, .inl c_16_65228)), (14, .inl (cy 0, 5, .inl c_16_65230)), (15, .inl (cy 0, 24, .inl d2_1_44737)), (23, .inl (cy 0, 30, .inl c_16_65232)), (25, .inl (cy 0, 80, .inl c_16_65234)), (26, .inl (cy 0, 80, .inl c_16_65236)), (27, .inl (cy 0, 128, .inl c_16_65238)), (28, .inl (cy 0, 5, .inl d0_127_71798)), (29, .inl (cy 0, 5, .inl c_101_71764))]) rfl rfl rfl
              refine lv_aload_n hx hb ddX3_mostBySeats_130 rfl (lv_at hl 4 rfl) ?_
              refine lv_aload_n hx hb ddX3_mostBySeats_131 rfl (lv_at hl 4 rfl) ?_
              refine cg_Vi (As := []) (rest := [.ref (ad 0)]) (mc := 0) (ms := 0) (rm := { frames := 0, cells := 0, slots := 0, locals := 0 }) hC hl.1 hO [0, 3, 28, 27] (by decide +kernel) (k_X3_takenBySeats l D cy _ _ (u1_0 := u3_0) (u1_1 := u3_1) (u1_2 := .ref (ad 18)) (u1_3 := .ref (ad 19)) (u1_4 := u3_4) (x1_5 := x3_5) (u1_6 := u3_6) (u1_7 := .ref (ad 20)) (u1_8 := .ref (ad 21)) (u1_9 := .ref (ad 6)) (u1_10 := .ref (ad 7)) (x1_11 := x3_11) (u1_12 := u3_12) (u1_13 := u3_13) (u1_14 := u3_14) (u1_15 := u3_15) (u1_16 := u3_16) (u1_17 := .ref (ad 16)) (u0_1 := .ref (ad 1)) (u0_2 := .ref (ad 17)) (u0_3 := .ref (ad 2)) (u0_4 := .ref (ad 15)) (u0_5 := .int y0_1_44736) (c2 := d0_127_71798) (c3 := c_16_65238) (u0_8 := .ref (ad 29)) rfl o3 rfl rfl b3_5 b3_11) gq_k_X3_mostBySeats_k_X3_takenBySeats_93 rfl rfl rfl 0 (by decide +kernel) ⟨Nat.le_of_ble_eq_true rfl, Nat.le_of_ble_eq_true rfl⟩ rfl (by decide) rfl rfl rfl (Nat.le_of_ble_eq_true rfl) ddX3_mostBySeats_132 ⟨Nat.le_of_ble_eq_true rfl, Nat.le_of_ble_eq_true rfl⟩ (fun r_132_71801 nw_132_71799 l_132_71800 H locs hw hO => ?_)
              obtain rfl := hw
              have hO : cO D cy A s.heap s 30 ad (cup [(0, .inr (3, [.ref (ad 3), .ref (ad 1), .ref (ad 17), .ref (ad 2), .ref (ad 15), .int y0_1_44736, .ref (ad 28), .ref (ad 27), .ref (ad 29)])), (8, .inl (cy 0, 5, .inl d8_1_44738)), (9, .inl (cy 0, 20, .inl c_16_65220)), (10, .inl (cy 0, 4, .inl c_16_65222)), (11, .inl (cy 0, 5, .inl c_16_65224)), (12, .inl (cy 0, 5, .inl c_16_65226)), (13, .inl (cy 0, 5, .inl c_16_65228)), (14, .inl (cy 0, 5, .inl c_16_65230)), (15, .inl (cy 0, 24, .inl d2_1_44737)), (23, .inl (cy 0, 30, .inl c_16_65232)), (25, .inl (cy 0, 80, .inl c_16_65234)), (26, .inl (cy 0, 80, .inl c_16_65236)), (27, .inl (cy 0, 128, .inl c_16_65238)), (28, .inl (cy 0, 5, .inl d0_127_71798)), (29, .inl (cy 0, 5, .inl c_101_71764))] g) _ _ := hO
              refine lv_iload_n hx hb ddX3_mostBySeats_135 rfl (lv_at hl 2 rfl) ?_
              refine cg_Vi (As := [.int r_132_71801, .int v_101_71761]) (rest := []) (mc := 0) (ms := 0) (rm := { frames := 1, cells := 0, slots := 0, locals := 60 }) hC hl.1 hO [0, 28, 29] (by decide +kernel) (k_X3_better l D cy _ _ (u0_0 := .ref (ad 3)) (u0_1 := .ref (ad 1)) (u0_2 := .ref (ad 17)) (u0_3 := .ref (ad 2)) (u0_4 := .ref (ad 15)) (u0_5 := .int y0_1_44736) (c1 := d0_127_71798) (u0_7 := .ref (ad 27)) (c2 := c_101_71764) (sum := r_132_71801) (most := v_101_71761) rfl rfl rfl) gq_k_X3_mostBySeats_k_X3_better_70 rfl rfl rfl 2 (by decide +kernel) ⟨Nat.le_of_ble_eq_true rfl, Nat.le_of_ble_eq_true rfl⟩ rfl (by decide) rfl rfl rfl (Nat.le_of_ble_eq_true rfl) ddX3_mostBySeats_136 ⟨Nat.le_of_ble_eq_true rfl, Nat.le_of_ble_eq_true rfl⟩ (fun r_136_71804 nw_136_71802 l_136_71803 H locs hw hO => ?_)
              obtain ⟨d2_136_71805, rfl⟩ := hw
              have hO := hO.mrg (lk := [(29, .inl (cy 0, 5, .inl d2_136_71805))]) (lm := [(0, .inr (3, [.ref (ad 3), .ref (ad 1), .ref (ad 17), .ref (ad 2), .ref (ad 15), .int y0_1_44736, .ref (ad 28), .ref (ad 27), .ref (ad 29)])), (8, .inl (cy 0, 5, .inl d8_1_44738)), (9, .inl (cy 0, 20, .inl c_16_65220)), (10, .inl (cy 0, 4, .inl c_16_65222)), (11, .inl (cy 0, 5, .inl c_16_65224)), (12, .inl (cy 0, 5, .inl c_16_65226)), (13, .inl (cy 0, 5, .inl c_16_65228)), (14, .inl (cy 0, 5, .inl c_16_65230)), (15, .inl (cy 0, 24, .inl d2_1_44737)), (23, .inl (cy 0, 30, .inl c_16_65232)), (25, .inl (cy 0, 80, .inl c_16_65234)), (26, .inl (cy 0, 80, .inl c_16_65236)), (27, .inl (cy 0, 128, .inl c_16_65238)), (28, .inl (cy 0, 5, .inl d0_127_71798)), (29, .inl (cy 0, 5, .inl d2_136_71805))]) rfl rfl rfl
              refine lv_istore_n (lv' := [(2, .int r_136_71804), (4, .int v_101_71759), (3, .int r_94_71094), (1, .int v_12_44749), (0, .ref (ad 0))]) hx hb ddX3_mostBySeats_139 rfl hl (by decide) rfl (fun ls hl => ?_)
              obtain ⟨v_140_71806, e_140_71807, z_140_71808, q_140_71809⟩ := zi_inc (e := 1) (f := 2147483647) 1 z_104_71793 (by decide)
              refine lv_iinc (v := v_140_71806) (lv' := [(4, .int v_140_71806), (2, .int r_136_71804), (3, .int r_94_71094), (1, .int v_12_44749), (0, .ref (ad 0))]) hx hb ddX3_mostBySeats_140 hl (k := 1) rfl e_140_71807 (by decide) rfl (fun ls hl => ?_)
              refine lv_goto (tgt := 101) hx hb ddX3_mostBySeats_143 (by decide) ?_
              exact ih_101_71789 v_140_71806 r_136_71804 d0_127_71798 d2_136_71805 (zi_w (c := 0) (d := 2147483647) z_140_71808 (by decide)) (za_all _) (za_all _) (zm_up q_140_71809 ((zi_w (c := 0) (d := 2147483647) z_140_71808 (by decide))).2 (by decide) mu_101_71788) _ _ hO ls (lv_sub hl [0, 2, 1, 3, 4] rfl)
        exact loop_101_71786 ((2147483647 + 1 - (0 : Int32).toInt).toNat + 1) 0 (-1) c28 c29 (zi_k (a := 0) (b := 2147483647) (x := 0) rfl) (za_all _) (za_all _) (Nat.lt_succ_self _) _ _ hO ls (lv_sub hl [0, 1, 2, 3, 4] rfl)
      · have q_24_71810 := zr_nle h_24_69373
        have z_24_71811 : zi 0 3 v_16_65218 := zu_lt q_24_71810 z_16_65219 b3_11 (by decide)
        have z_24_71812 : zi 1 4 x3_11 := zd_lt q_24_71810 z_16_65219 b3_11 (by decide)
        refine lv_iconst (v := 0) hx hb ddX3_mostBySeats_27 (by decide) ?_
        refine lv_istore_n (lv' := [(3, .int 0), (2, .int v_16_65218), (1, .int v_12_44749), (0, .ref (ad 0))]) hx hb ddX3_mostBySeats_28 rfl hl (by decide) rfl (fun ls hl => ?_)
        have loop_29_73526 : ∀ (d_29_73527 : Nat) (v_29_73421 : Int32) (c_29_73423 : Nat → Int32) (c_29_73425 : Nat → Int32) (c_29_73427 : Nat → Int32) (c_29_73429 : Nat → Int32) (c_29_73431 : Nat → Int32) (c_29_73433 : Nat → Int32) (c_29_73435 : Nat → Int32) (c_29_73437 : Nat → Int32) (c_29_73439 : Nat → Int32) (c_29_73441 : Nat → Int32), zi 0 32 v_29_73421 → za 0 4 c_29_73423 → za 0 5 c_29_73425 → za (-2147483648) 2147483647 c_29_73427 → za (-2147483648) 2147483647 c_29_73429 → za (-2147483648) 2147483647 c_29_73431 → za (-2147483648) 2147483647 c_29_73433 → za (-2147483648) 2147483647 c_29_73435 → za (-2147483648) 2147483647 c_29_73437 → za (-2147483648) 2147483647 c_29_73439 → za (-2147483648) 2147483647 c_29_73441 → (32 + 1 - v_29_73421.toInt).toNat < d_29_73527 → ∀ (H : Heap) (locs : List Loc), cO D cy A s.heap s 30 ad (cup [(0, .inr (3, [.ref (ad 3), .ref (ad 1), .ref (ad 17), .ref (ad 2), .ref (ad 15), .int y0_1_44736, .ref (ad 28), .ref (ad 27), .ref (ad 29)])), (8, .inl (cy 0, 5, .inl d8_1_44738)), (9, .inl (cy 0, 20, .inl c_29_73423)), (10, .inl (cy 0, 4, .inl c_29_73425)), (11, .inl (cy 0, 5, .inl c_29_73427)), (12, .inl (cy 0, 5, .inl c_29_73429)), (13, .inl (cy 0, 5, .inl c_29_73431)), (14, .inl (cy 0, 5, .inl c_29_73433)), (15, .inl (cy 0, 24, .inl d2_1_44737)), (23, .inl (cy 0, 30, .inl c_29_73435)), (25, .inl (cy 0, 80, .inl c_29_73437)), (26, .inl (cy 0, 80, .inl c_29_73439)), (27, .inl (cy 0, 128, .inl c_29_73441)), (28, .inl (cy 0, 5, .inl c28)), (29, .inl (cy 0, 5, .inl c29))] g) H locs → ∀ ls : Array Slot, lv_has ls 5 [(3, .int v_29_73421), (2, .int v_16_65218), (1, .int v_12_44749), (0, .ref (ad 0))] → W p l e { frames := 4, cells := 0, slots := 0, locals := 101 } s m [.ref (ad 0)].toArray below meth c H locs 0 0 (MQ below (cQi (fun r nw lu => ∃ (y0_5 : Int32) (d8 : Nat → Int32) (d9 : Nat → Int32) (d10 : Nat → Int32) (d11 : Nat → Int32) (d12 : Nat → Int32) (d13 : Nat → Int32) (d14 : Nat → Int32) (d15 : Nat → Int32) (d23 : Nat → Int32) (d25 : Nat → Int32) (d26 : Nat → Int32) (d27 : Nat → Int32) (d28 : Nat → Int32) (d29 : Nat → Int32), (zi 0 24 y0_5) ∧ (za 0 4 d9) ∧ (za 0 5 d10) ∧ (za 0 23 d15) ∧ (lu = [(0, .inr (3, [.ref (ad 3), .ref (ad 1), .ref (ad 17), .ref (ad 2), .ref (ad 15), .int y0_5, .ref (ad 28), .ref (ad 27), .ref (ad 29)])), (8, .inl (cy 0, 5, .inl d8)), (9, .inl (cy 0, 20, .inl d9)), (10, .inl (cy 0, 4, .inl d10)), (11, .inl (cy 0, 5, .inl d11)), (12, .inl (cy 0, 5, .inl d12)), (13, .inl (cy 0, 5, .inl d13)), (14, .inl (cy 0, 5, .inl d14)), (15, .inl (cy 0, 24, .inl d15)), (23, .inl (cy 0, 30, .inl d23)), (25, .inl (cy 0, 80, .inl d25)), (26, .inl (cy 0, 80, .inl d26)), (27, .inl (cy 0, 128, .inl d27)), (28, .inl (cy 0, 5, .inl d28)), (29, .inl (cy 0, 5, .inl d29))])) D 30 0 ad g A) [.ref (ad 0)].toArray s 0 0 A) (F0 m 29 ls [])  := by
          intro d_29_73527
          induction d_29_73527 with
          | zero => intro v_29_73421 c_29_73423 c_29_73425 c_29_73427 c_29_73429 c_29_73431 c_29_73433 c_29_73435 c_29_73437 c_29_73439 c_29_73441 z_29_73422 zc_29_73424 zc_29_73426 zc_29_73428 zc_29_73430 zc_29_73432 zc_29_73434 zc_29_73436 zc_29_73438 zc_29_73440 zc_29_73442 mu_29_73528; exact absurd mu_29_73528 (Nat.not_lt_zero _)
          | succ d_29_73527 ih_29_73529 =>
            intro v_29_73421 c_29_73423 c_29_73425 c_29_73427 c_29_73429 c_29_73431 c_29_73433 c_29_73435 c_29_73437 c_29_73439 c_29_73441 z_29_73422 zc_29_73424 zc_29_73426 zc_29_73428 zc_29_73430 zc_29_73432 zc_29_73434 zc_29_73436 zc_29_73438 zc_29_73440 zc_29_73442 mu_29_73528 H locs hO ls hl
            refine lv_iload_n hx hb ddX3_mostBySeats_29 rfl (lv_at hl 0 rfl) ?_
            refine lv_iload_n hx hb ddX3_mostBySeats_30 rfl (lv_at hl 2 rfl) ?_
            refine lv_icmp_ge (tgt := 72) hx hb ddX3_mostBySeats_31 (by decide) (fun h_31_73530 => ?_) (fun h_31_73530 => ?_)
            · have q_31_73570 := zr_le h_31_73530
              have z_31_73571 : zi 1 32 v_29_73421 := zd_le q_31_73570 z_12_44750 z_29_73422 (by decide)
              obtain ⟨v_72_73572, e_72_73573, z_72_73574, q_72_73575⟩ := zi_inc (e := 1) (f := 4) 1 z_24_71811 (by decide)
              refine lv_iinc (v := v_72_73572) (lv' := [(2, .int v_72_73572), (3, .int v_29_73421), (1, .int v_12_44749), (0, .ref (ad 0))]) hx hb ddX3_mostBySeats_72 hl (k := 1) rfl e_72_73573 (by decide) rfl (fun ls hl => ?_)
              refine lv_goto (tgt := 16) hx hb ddX3_mostBySeats_75 (by decide) ?_
              exact ih_16_69372 v_72_73572 c_29_73423 c_29_73425 c_29_73427 c_29_73429 c_29_73431 c_29_73433 c_29_73435 c_29_73437 c_29_73439 c_29_73441 (zi_w (c := 0) (d := 4) z_72_73574 (by decide)) zc_29_73424 zc_29_73426 zc_29_73428 zc_29_73430 zc_29_73432 zc_29_73434 zc_29_73436 zc_29_73438 zc_29_73440 zc_29_73442 (zm_up q_72_73575 ((zi_w (c := 0) (d := 4) z_72_73574 (by decide))).2 (by decide) mu_16_69371) _ _ hO ls (lv_sub hl [0, 2, 3] rfl)
            · have q_31_73576 := zr_nle h_31_73530
              have z_31_73577 : zi 0 31 v_29_73421 := zu_lt q_31_73576 z_29_73422 z_12_44750 (by decide)
              refine lv_aload_n hx hb ddX3_mostBySeats_34 rfl (lv_at hl 3 rfl) ?_
              refine cg_get hC hO 0 (by decide) rfl rfl i_X3 3 (by decide) (List.mem_of_getElem? (i := 22) rfl) rfl ddX3_mostBySeats_35 ?_
              refine lv_iload_n hx hb ddX3_mostBySeats_38 rfl (lv_at hl 1 rfl) ?_
              refine lv_iload_n hx hb ddX3_mostBySeats_39 rfl (lv_at hl 0 rfl) ?_
              refine cg_Vv (As := [.int v_16_65218, .int v_29_73421]) (rest := []) (mc := 0) (ms := 0) (rm := { frames := 1, cells := 0, slots := 0, locals := 21 }) hC hl.1 hO [2, 10, 9] (by decide +kernel) (k_X10_seatSet l D cy _ _ (u0_0 := .ref (ad 3)) (u0_1 := .ref (ad 8)) (c2 := c_29_73423) (c1 := c_29_73425) (u0_4 := .ref (ad 11)) (u0_5 := .ref (ad 12)) (u0_6 := .ref (ad 13)) (u0_7 := .ref (ad 14)) (post := v_16_65218) (set := v_29_73421) o2 rfl rfl zc_29_73426 zc_29_73424 z_24_71811) gq_k_X3_mostBySeats_k_X10_seatSet_89 rfl rfl rfl 2 (by decide +kernel) ⟨Nat.le_of_ble_eq_true rfl, Nat.le_of_ble_eq_true rfl⟩ rfl (by decide) o2 rfl rfl (Nat.le_of_ble_eq_true rfl) ddX3_mostBySeats_40 ⟨Nat.le_of_ble_eq_true rfl, Nat.le_of_ble_eq_true rfl⟩ (fun nw_40_73578 l_40_73579 H locs hw hO => ?_)
              obtain ⟨d1_40_73581, d2_40_73582, z_40_73583, z_40_73584, rfl⟩ := hw
              have hO := hO.mrg (lk := [(10, .inl (cy 0, 4, .inl d1_40_73581)), (9, .inl (cy 0, 20, .inl d2_40_73582))]) (lm := [(0, .inr (3, [.ref (ad 3), .ref (ad 1), .ref (ad 17), .ref (ad 2), .ref (ad 15), .int y0_1_44736, .ref (ad 28), .ref (ad 27), .ref (ad 29)])), (8, .inl (cy 0, 5, .inl d8_1_44738)), (9, .inl (cy 0, 20, .inl d2_40_73582)), (10, .inl (cy 0, 4, .inl d1_40_73581)), (11, .inl (cy 0, 5, .inl c_29_73427)), (12, .inl (cy 0, 5, .inl c_29_73429)), (13, .inl (cy 0, 5, .inl c_29_73431)), (14, .inl (cy 0, 5, .inl c_29_73433)), (15, .inl (cy 0, 24, .inl d2_1_44737)), (23, .inl (cy 0, 30, .inl c_29_73435)), (25, .inl (cy 0, 80, .inl c_29_73437)), (26, .inl (cy 0, 80, .inl c_29_73439)), (27, .inl (cy 0, 128, .inl c_29_73441)), (28, .inl (cy 0, 5, .inl c28)), (29, .inl (cy 0, 5, .inl c29))]) rfl rfl rfl
              refine lv_aload_n hx hb ddX3_mostBySeats_43 rfl (lv_at hl 3 rfl) ?_
              refine cg_get hC hO 0 (by decide) rfl rfl i_X3 3 (by decide) (List.mem_of_getElem? (i := 22) rfl) rfl ddX3_mostBySeats_44 ?_
              refine cg_Vv (As := []) (rest := []) (mc := 0) (ms := 0) (rm := { frames := 1, cells := 0, slots := 0, locals := 23 }) hC hl.1 hO [2, 11, 12, 13, 14] (by decide +kernel) (k_X10_begin l D cy _ _ (u0_0 := .ref (ad 3)) (u0_1 := .ref (ad 8)) (u0_2 := .ref (ad 9)) (u0_3 := .ref (ad 10)) (c1 := c_29_73427) (c2 := c_29_73429) (c3 := c_29_73431) (c4 := c_29_73433) o2 rfl rfl rfl rfl) gq_k_X3_mostBySeats_k_X10_begin_81 rfl rfl rfl 0 (by decide +kernel) ⟨Nat.le_of_ble_eq_true rfl, Nat.le_of_ble_eq_true rfl⟩ rfl (by decide) o2 rfl rfl (Nat.le_of_ble_eq_true rfl) ddX3_mostBySeats_47 ⟨Nat.le_of_ble_eq_true rfl, Nat.le_of_ble_eq_true rfl⟩ (fun nw_47_73585 l_47_73586 H locs hw hO => ?_)
              obtain ⟨d1_47_73588, d2_47_73589, d3_47_73590, d4_47_73591, rfl⟩ := hw
              have hO := hO.mrg (lk := [(11, .inl (cy 0, 5, .inl d1_47_73588)), (12, .inl (cy 0, 5, .inl d2_47_73589)), (13, .inl (cy 0, 5, .inl d3_47_73590)), (14, .inl (cy 0, 5, .inl d4_47_73591))]) (lm := [(0, .inr (3, [.ref (ad 3), .ref (ad 1), .ref (ad 17), .ref (ad 2), .ref (ad 15), .int y0_1_44736, .ref (ad 28), .ref (ad 27), .ref (ad 29)])), (8, .inl (cy 0, 5, .inl d8_1_44738)), (9, .inl (cy 0, 20, .inl d2_40_73582)), (10, .inl (cy 0, 4, .inl d1_40_73581)), (11, .inl (cy 0, 5, .inl d1_47_73588)), (12, .inl (cy 0, 5, .inl d2_47_73589)), (13, .inl (cy 0, 5, .inl d3_47_73590)), (14, .inl (cy 0, 5, .inl d4_47_73591)), (15, .inl (cy 0, 24, .inl d2_1_44737)), (23, .inl (cy 0, 30, .inl c_29_73435)), (25, .inl (cy 0, 80, .inl c_29_73437)), (26, .inl (cy 0, 80, .inl c_29_73439)), (27, .inl (cy 0, 128, .inl c_29_73441)), (28, .inl (cy 0, 5, .inl c28)), (29, .inl (cy 0, 5, .inl c29))]) rfl rfl rfl
              refine lv_aload_n hx hb ddX3_mostBySeats_50 rfl (lv_at hl 3 rfl) ?_
              refine cg_get hC hO 0 (by decide) rfl rfl i_X3 7 (by decide) (List.mem_of_getElem? (i := 59) rfl) rfl ddX3_mostBySeats_51 ?_
              refine lv_iload_n hx hb ddX3_mostBySeats_54 rfl (lv_at hl 1 rfl) ?_
              refine lv_bipush (v := 32) hx hb ddX3_mostBySeats_55 (by decide) ?_
              refine lv_imul hx hb ddX3_mostBySeats_57 ?_
              refine zg_top (P := fun v => zi 0 96 v) ((zi_mul z_24_71811 (zi_k (a := 32) (b := 32) (x := 32) rfl) (by decide)).1) (fun v_57_73592 z_57_73593 => ?_)
              refine lv_iload_n hx hb ddX3_mostBySeats_58 rfl (lv_at hl 0 rfl) ?_
              refine lv_iadd hx hb ddX3_mostBySeats_59 ?_
              refine zg_top2 (P := fun v => zi 0 127 v) (E := fun v => v.toInt = (v_57_73592 : Int32).toInt + (v_29_73421 : Int32).toInt) (zi_add z_57_73593 z_31_73577 (by decide)) (fun v_59_73594 z_59_73595 q_59_73596 => ?_)
              refine lv_aload_n hx hb ddX3_mostBySeats_60 rfl (lv_at hl 3 rfl) ?_
              refine lv_iload_n hx hb ddX3_mostBySeats_61 rfl (lv_at hl 1 rfl) ?_
              refine cg_Vi (As := [.int v_16_65218]) (rest := [.int v_59_73594, .ref (ad 27)]) (mc := 0) (ms := 0) (rm := { frames := 3, cells := 0, slots := 0, locals := 72 }) hC hl.1 hO [0, 15, 1, 4, 3, 20, 2, 18, 19, 8, 9, 10, 11, 12, 13, 14, 24, 17, 16, 21, 22, 23, 25, 26] (by decide +kernel) (k_X3_takenAt l D cy _ _ (u4_0 := u3_0) (u4_1 := u3_1) (c7 := c18) (c8 := c19) (u4_4 := u3_4) (u4_5 := .int x3_5) (u4_6 := u3_6) (c5 := c20) (c19 := c21) (u4_9 := .ref (ad 6)) (u4_10 := .ref (ad 7)) (u4_11 := .int x3_11) (u4_12 := u3_12) (u4_13 := u3_13) (u4_14 := u3_14) (u4_15 := u3_15) (u4_16 := u3_16) (c20 := c22) (x18_1 := x16_1) (u18_2 := u16_2) (x18_3 := x16_3) (c21 := c_29_73435) (c3 := c4) (c16 := c24) (u2_2 := .int x1_2) (u2_3 := .ref (ad 5)) (u2_4 := .int x1_4) (c22 := c_29_73437) (c23 := c_29_73439) (c9 := d8_1_44738) (c10 := d2_40_73582) (c11 := d1_40_73581) (c12 := d1_47_73588) (c13 := d2_47_73589) (c14 := d3_47_73590) (c15 := d4_47_73591) (c1 := d2_1_44737) (x0_5 := y0_1_44736) (u0_6 := .ref (ad 28)) (u0_7 := .ref (ad 27)) (u0_8 := .ref (ad 29)) (post := v_16_65218) rfl rfl o1 a4 o3 a20 o2 a18 a19 rfl rfl rfl rfl rfl rfl rfl a24 o17 o16 a21 a22 rfl rfl rfl z_1_44745 z_1_44746 z_40_73584 z_40_73583 b16_1 b16_3 z_24_71811) gq_k_X3_mostBySeats_k_X3_takenAt_85 rfl rfl rfl 1 (by decide +kernel) ⟨Nat.le_of_ble_eq_true rfl, Nat.le_of_ble_eq_true rfl⟩ rfl (by decide) rfl rfl rfl (Nat.le_of_ble_eq_true rfl) ddX3_mostBySeats_62 ⟨Nat.le_of_ble_eq_true rfl, Nat.le_of_ble_eq_true rfl⟩ (fun r_62_73599 nw_62_73597 l_62_73598 H locs hw hO => ?_)
              obtain ⟨d12_62_73600, d13_62_73601, d14_62_73602, d15_62_73603, d21_62_73604, d22_62_73605, d23_62_73606, rfl⟩ := hw
              have hO := hO.mrg (lk := [(11, .inl (cy 0, 5, .inl d12_62_73600)), (12, .inl (cy 0, 5, .inl d13_62_73601)), (13, .inl (cy 0, 5, .inl d14_62_73602)), (14, .inl (cy 0, 5, .inl d15_62_73603)), (23, .inl (cy 0, 30, .inl d21_62_73604)), (25, .inl (cy 0, 80, .inl d22_62_73605)), (26, .inl (cy 0, 80, .inl d23_62_73606))]) (lm := [(0, .inr (3, [.ref (ad 3), .ref (ad 1), .ref (ad 17), .ref (ad 2), .ref (ad 15), .int y0_1_44736, .ref (ad 28), .ref (ad 27), .ref (ad 29)])), (8, .inl (cy 0, 5, .inl d8_1_44738)), (9, .inl (cy 0, 20, .inl d2_40_73582)), (10, .inl (cy 0, 4, .inl d1_40_73581)), (11, .inl (cy 0, 5, .inl d12_62_73600)), (12, .inl (cy 0, 5, .inl d13_62_73601)), (13, .inl (cy 0, 5, .inl d14_62_73602)), (14, .inl (cy 0, 5, .inl d15_62_73603)), (15, .inl (cy 0, 24, .inl d2_1_44737)), (23, .inl (cy 0, 30, .inl d21_62_73604)), (25, .inl (cy 0, 80, .inl d22_62_73605)), (26, .inl (cy 0, 80, .inl d23_62_73606)), (27, .inl (cy 0, 128, .inl c_29_73441)), (28, .inl (cy 0, 5, .inl c28)), (29, .inl (cy 0, 5, .inl c29))]) rfl rfl rfl
              refine zg_iast hC hO 27 (by decide) rfl zc_29_73442 (zi_all r_62_73599) (zi_in z_59_73595 (by decide)) ddX3_mostBySeats_65 (fun H locs c_65_73607 zc_65_73608 hO => ?_)
              have hO : cO D cy A s.heap s 30 ad (cup [(0, .inr (3, [.ref (ad 3), .ref (ad 1), .ref (ad 17), .ref (ad 2), .ref (ad 15), .int y0_1_44736, .ref (ad 28), .ref (ad 27), .ref (ad 29)])), (8, .inl (cy 0, 5, .inl d8_1_44738)), (9, .inl (cy 0, 20, .inl d2_40_73582)), (10, .inl (cy 0, 4, .inl d1_40_73581)), (11, .inl (cy 0, 5, .inl d12_62_73600)), (12, .inl (cy 0, 5, .inl d13_62_73601)), (13, .inl (cy 0, 5, .inl d14_62_73602)), (14, .inl (cy 0, 5, .inl d15_62_73603)), (15, .inl (cy 0, 24, .inl d2_1_44737)), (23, .inl (cy 0, 30, .inl d21_62_73604)), (25, .inl (cy 0, 80, .inl d22_62_73605)), (26, .inl (cy 0, 80, .inl d23_62_73606)), (27, .inl (cy 0, 128, .inl c_65_73607)), (28, .inl (cy 0, 5, .inl c28)), (29, .inl (cy 0, 5, .inl c29))] g) _ _ := hO
              obtain ⟨v_66_73609, e_66_73610, z_66_73611, q_66_73612⟩ := zi_inc (e := 1) (f := 32) 1 z_31_73577 (by decide)
              refine lv_iinc (v := v_66_73609) (lv' := [(3, .int v_66_73609), (2, .int v_16_65218), (1, .int v_12_44749), (0, .ref (ad 0))]) hx hb ddX3_mostBySeats_66 hl (k := 0) rfl e_66_73610 (by decide) rfl (fun ls hl => ?_)
              refine lv_goto (tgt := 29) hx hb ddX3_mostBySeats_69 (by decide) ?_
              exact ih_29_73529 v_66_73609 d2_40_73582 d1_40_73581 d12_62_73600 d13_62_73601 d14_62_73602 d15_62_73603 d21_62_73604 d22_62_73605 d23_62_73606 c_65_73607 (zi_w (c := 0) (d := 32) z_66_73611 (by decide)) z_40_73584 z_40_73583 (za_all _) (za_all _) (za_all _) (za_all _) (za_all _) (za_all _) (za_all _) zc_65_73608 (zm_up q_66_73612 ((zi_w (c := 0) (d := 32) z_66_73611 (by decide))).2 (by decide) mu_29_73528) _ _ hO ls (lv_sub hl [0, 1, 2, 3] rfl)
        exact loop_29_73526 ((32 + 1 - (0 : Int32).toInt).toNat + 1) 0 c_16_65220 c_16_65222 c_16_65224 c_16_65226 c_16_65228 c_16_65230 c_16_65232 c_16_65234 c_16_65236 c_16_65238 (zi_k (a := 0) (b := 32) (x := 0) rfl) zc_16_65221 zc_16_65223 zc_16_65225 zc_16_65227 zc_16_65229 zc_16_65231 zc_16_65233 zc_16_65235 zc_16_65237 zc_16_65239 (Nat.lt_succ_self _) _ _ hO ls (lv_sub hl [0, 1, 2, 3] rfl)
  exact loop_16_69369 ((4 + 1 - (0 : Int32).toInt).toNat + 1) 0 d9_1_44739 d10_1_44740 d11_1_44741 d12_1_44742 d13_1_44743 d14_1_44744 c23 c25 c26 c27 (zi_k (a := 0) (b := 4) (x := 0) rfl) z_1_44747 z_1_44748 (za_all _) (za_all _) (za_all _) (za_all _) (za_all _) (za_all _) (za_all _) (za_all _) (Nat.lt_succ_self _) _ _ hO ls (lv_sub hl [0, 1, 2] rfl)

theorem ddX8_forget_0 : decode cX8_forget 0 = .ok (.aload_n 0, 1) := by decide +kernel
theorem ddX8_forget_1 : decode cX8_forget 1 = .ok (.iconst 0, 1) := by decide +kernel
theorem ddX8_forget_2 : decode cX8_forget 2 = .ok (.putfield 49, 3) := by decide +kernel
theorem ddX8_forget_5 : decode cX8_forget 5 = .ok (.return_, 1) := by decide +kernel
def wq_k_X8_forget : List Cond := Cond.code yX8_forget cX8_forget 1 none :: (([Cond.fieldLink RX8 49 "CrowToll$Sights" "size" "I"] : List Cond) ++ wsX80)
set_option maxHeartbeats 8000000 in
set_option maxRecDepth 100000 in
theorem k_X8_forget (l : Launch) (D : va_G) (cy : Nat → ClassId) (ad : Nat → Nat) (g : Nat → va_E) {u0_0 : Value} {u0_1 : Value} {u0_2 : Value} {u0_3 : Value} {u0_4 : Value} {u0_5 : Value} {u0_6 : Value} {x0_7 : Int32} {u0_8 : Value} {u0_9 : Value} {u0_10 : Value} {u0_11 : Value} {u0_12 : Value} {u0_13 : Value} {u0_14 : Value} {u0_15 : Value} (o0 : g 0 = .inr (8, [u0_0, u0_1, u0_2, u0_3, u0_4, u0_5, u0_6, .int x0_7, u0_8, u0_9, u0_10, u0_11, u0_12, u0_13, u0_14, u0_15])) (b0_7 : zi 0 30 x0_7) : cMv l yX8_forget wq_k_X8_forget { frames := 0, cells := 0, slots := 0, locals := 0 } 1 0 0 0 D cy ad g [.ref (ad 0)] (fun nw lu => lu = [(0, .inr (8, [u0_0, u0_1, u0_2, u0_3, u0_4, u0_5, u0_6, .int 0, u0_8, u0_9, u0_10, u0_11, u0_12, u0_13, u0_14, u0_15]))]) := by
  refine cM_of (Qc := fun A => cQv (fun nw lu => lu = [(0, .inr (8, [u0_0, u0_1, u0_2, u0_3, u0_4, u0_5, u0_6, .int 0, u0_8, u0_9, u0_10, u0_11, u0_12, u0_13, u0_14, u0_15]))]) D 1 0 ad g A) (cc := cX8_forget) (maxL := 1) (ret := none) (by decide) rfl (Nat.le_of_ble_eq_true rfl) ?_
  intro p e s m below meth c A hC hr hlk hnm hO ls hl
  have hC : CallFix p m c cX8_forget 1 s [.ref (ad 0)].toArray wq_k_X8_forget RX8 := hC
  obtain ⟨hx, hb, hml, hown, hts⟩ := id hC
  have hl : lv_has ls 1 [(0, .ref (ad 0))] := hl
  have i_X8 : ∀ w ∈ wsX80, w ∈ wq_k_X8_forget := fun w h => List.mem_cons_of_mem _ (List.mem_append_right _ h)
  have hO := hO.notes [(0, .inr (8, [u0_0, u0_1, u0_2, u0_3, u0_4, u0_5, u0_6, .int x0_7, u0_8, u0_9, u0_10, u0_11, u0_12, u0_13, u0_14, u0_15]))] (List.forall_mem_cons.mpr ⟨o0, (fun _ h => absurd h List.not_mem_nil)⟩)
  refine lv_aload_n hx hb ddX8_forget_0 rfl (lv_at hl 0 rfl) ?_
  refine lv_iconst (v := 0) hx hb ddX8_forget_1 (by decide) ?_
  refine cg_put hC hO 0 (by decide) rfl rfl i_X8 tyX8_ok nmX8 7 (by decide) (List.mem_of_getElem? (i := 1) rfl) rfl rfl rfl (Nat.le_of_ble_eq_true rfl) ddX8_forget_2 (fun H locs hO => ?_)
  have hO : cO D cy A s.heap s 1 ad (cup [(0, .inr (8, [u0_0, u0_1, u0_2, u0_3, u0_4, u0_5, u0_6, .int 0, u0_8, u0_9, u0_10, u0_11, u0_12, u0_13, u0_14, u0_15]))] g) _ _ := hO
  exact cg_vret (nw := fun _ => 0) hC hr hlk hO.same (Nat.le_of_ble_eq_true rfl) (Nat.le_of_ble_eq_true rfl) rfl ddX8_forget_5

theorem ddX8_tell_0 : decode cX8_tell 0 = .ok (.aload_n 0, 1) := by decide +kernel
theorem ddX8_tell_1 : decode cX8_tell 1 = .ok (.getfield 9, 3) := by decide +kernel
theorem ddX8_tell_4 : decode cX8_tell 4 = .ok (.aload_n 0, 1) := by decide +kernel
theorem ddX8_tell_5 : decode cX8_tell 5 = .ok (.getfield 49, 3) := by decide +kernel
theorem ddX8_tell_8 : decode cX8_tell 8 = .ok (.iload_n 1, 1) := by decide +kernel
theorem ddX8_tell_9 : decode cX8_tell 9 = .ok (.iastore, 1) := by decide +kernel
theorem ddX8_tell_10 : decode cX8_tell 10 = .ok (.aload_n 0, 1) := by decide +kernel
theorem ddX8_tell_11 : decode cX8_tell 11 = .ok (.getfield 15, 3) := by decide +kernel
theorem ddX8_tell_14 : decode cX8_tell 14 = .ok (.aload_n 0, 1) := by decide +kernel
theorem ddX8_tell_15 : decode cX8_tell 15 = .ok (.getfield 49, 3) := by decide +kernel
theorem ddX8_tell_18 : decode cX8_tell 18 = .ok (.iload_n 2, 1) := by decide +kernel
theorem ddX8_tell_19 : decode cX8_tell 19 = .ok (.iastore, 1) := by decide +kernel
theorem ddX8_tell_20 : decode cX8_tell 20 = .ok (.aload_n 0, 1) := by decide +kernel
theorem ddX8_tell_21 : decode cX8_tell 21 = .ok (.getfield 18, 3) := by decide +kernel
theorem ddX8_tell_24 : decode cX8_tell 24 = .ok (.aload_n 0, 1) := by decide +kernel
theorem ddX8_tell_25 : decode cX8_tell 25 = .ok (.getfield 49, 3) := by decide +kernel
theorem ddX8_tell_28 : decode cX8_tell 28 = .ok (.iload_n 3, 1) := by decide +kernel
theorem ddX8_tell_29 : decode cX8_tell 29 = .ok (.iastore, 1) := by decide +kernel
theorem ddX8_tell_30 : decode cX8_tell 30 = .ok (.aload_n 0, 1) := by decide +kernel
theorem ddX8_tell_31 : decode cX8_tell 31 = .ok (.getfield 21, 3) := by decide +kernel
theorem ddX8_tell_34 : decode cX8_tell 34 = .ok (.aload_n 0, 1) := by decide +kernel
theorem ddX8_tell_35 : decode cX8_tell 35 = .ok (.getfield 49, 3) := by decide +kernel
theorem ddX8_tell_38 : decode cX8_tell 38 = .ok (.aload_n 0, 1) := by decide +kernel
theorem ddX8_tell_39 : decode cX8_tell 39 = .ok (.getfield 53, 3) := by decide +kernel
theorem ddX8_tell_42 : decode cX8_tell 42 = .ok (.iastore, 1) := by decide +kernel
theorem ddX8_tell_43 : decode cX8_tell 43 = .ok (.aload_n 0, 1) := by decide +kernel
theorem ddX8_tell_44 : decode cX8_tell 44 = .ok (.getfield 24, 3) := by decide +kernel
theorem ddX8_tell_47 : decode cX8_tell 47 = .ok (.aload_n 0, 1) := by decide +kernel
theorem ddX8_tell_48 : decode cX8_tell 48 = .ok (.getfield 49, 3) := by decide +kernel
theorem ddX8_tell_51 : decode cX8_tell 51 = .ok (.iconst (-1), 1) := by decide +kernel
theorem ddX8_tell_52 : decode cX8_tell 52 = .ok (.iastore, 1) := by decide +kernel
theorem ddX8_tell_53 : decode cX8_tell 53 = .ok (.aload_n 0, 1) := by decide +kernel
theorem ddX8_tell_54 : decode cX8_tell 54 = .ok (.dup, 1) := by decide +kernel
theorem ddX8_tell_55 : decode cX8_tell 55 = .ok (.getfield 49, 3) := by decide +kernel
theorem ddX8_tell_58 : decode cX8_tell 58 = .ok (.iconst 1, 1) := by decide +kernel
theorem ddX8_tell_59 : decode cX8_tell 59 = .ok (.iadd, 1) := by decide +kernel
theorem ddX8_tell_60 : decode cX8_tell 60 = .ok (.putfield 49, 3) := by decide +kernel
theorem ddX8_tell_63 : decode cX8_tell 63 = .ok (.aload_n 0, 1) := by decide +kernel
theorem ddX8_tell_64 : decode cX8_tell 64 = .ok (.getfield 49, 3) := by decide +kernel
theorem ddX8_tell_67 : decode cX8_tell 67 = .ok (.iconst 1, 1) := by decide +kernel
theorem ddX8_tell_68 : decode cX8_tell 68 = .ok (.isub, 1) := by decide +kernel
theorem ddX8_tell_69 : decode cX8_tell 69 = .ok (.ireturn, 1) := by decide +kernel
def wq_k_X8_tell : List Cond := Cond.code yX8_tell cX8_tell 4 (some .int) :: (([Cond.fieldLink RX8 9 "CrowToll$Sights" "minute" "[I", Cond.fieldLink RX8 49 "CrowToll$Sights" "size" "I", Cond.fieldLink RX8 15 "CrowToll$Sights" "bird" "[I", Cond.fieldLink RX8 18 "CrowToll$Sights" "count" "[I", Cond.fieldLink RX8 21 "CrowToll$Sights" "toldAt" "[I", Cond.fieldLink RX8 53 "CrowToll$Sights" "time" "I", Cond.fieldLink RX8 24 "CrowToll$Sights" "untoldAt" "[I"] : List Cond) ++ wsX80)
set_option maxHeartbeats 8000000 in
set_option maxRecDepth 100000 in
theorem k_X8_tell (l : Launch) (D : va_G) (cy : Nat → ClassId) (ad : Nat → Nat) (g : Nat → va_E) {u0_0 : Value} {u0_1 : Value} {x0_7 : Int32} {x0_8 : Int32} {u0_9 : Value} {u0_10 : Value} {u0_11 : Value} {u0_12 : Value} {u0_13 : Value} {u0_14 : Value} {u0_15 : Value} {c1 : Nat → Int32} {c2 : Nat → Int32} {c3 : Nat → Int32} {c4 : Nat → Int32} {c5 : Nat → Int32} {itsMinute : Int32} {itsBird : Int32} {itsCount : Int32} (o0 : g 0 = .inr (8, [u0_0, u0_1, .ref (ad 1), .ref (ad 2), .ref (ad 3), .ref (ad 4), .ref (ad 5), .int x0_7, .int x0_8, u0_9, u0_10, u0_11, u0_12, u0_13, u0_14, u0_15])) (a1 : g 1 = .inl (cy 0, 30, .inl c1)) (a2 : g 2 = .inl (cy 0, 30, .inl c2)) (a3 : g 3 = .inl (cy 0, 30, .inl c3)) (a4 : g 4 = .inl (cy 0, 30, .inl c4)) (a5 : g 5 = .inl (cy 0, 30, .inl c5)) (b0_7 : zi 0 29 x0_7) (b0_8 : zi 0 100000 x0_8) (ha2 : za 0 4 c2) (p_itsBird : zi 0 4 itsBird) : cMi l yX8_tell wq_k_X8_tell { frames := 0, cells := 0, slots := 0, locals := 0 } 6 0 0 0 D cy ad g [.ref (ad 0), .int itsMinute, .int itsBird, .int itsCount] (fun r nw lu => ∃ (y0_7 : Int32) (d1 : Nat → Int32) (d2 : Nat → Int32) (d3 : Nat → Int32) (d4 : Nat → Int32) (d5 : Nat → Int32), (zi 1 30 y0_7) ∧ (za 0 4 d2) ∧ (zi 0 29 r) ∧ (lu = [(0, .inr (8, [u0_0, u0_1, .ref (ad 1), .ref (ad 2), .ref (ad 3), .ref (ad 4), .ref (ad 5), .int y0_7, .int x0_8, u0_9, u0_10, u0_11, u0_12, u0_13, u0_14, u0_15])), (1, .inl (cy 0, 30, .inl d1)), (2, .inl (cy 0, 30, .inl d2)), (3, .inl (cy 0, 30, .inl d3)), (4, .inl (cy 0, 30, .inl d4)), (5, .inl (cy 0, 30, .inl d5))])) := by
  refine cM_of (Qc := fun A => cQi (fun r nw lu => ∃ (y0_7 : Int32) (d1 : Nat → Int32) (d2 : Nat → Int32) (d3 : Nat → Int32) (d4 : Nat → Int32) (d5 : Nat → Int32), (zi 1 30 y0_7) ∧ (za 0 4 d2) ∧ (zi 0 29 r) ∧ (lu = [(0, .inr (8, [u0_0, u0_1, .ref (ad 1), .ref (ad 2), .ref (ad 3), .ref (ad 4), .ref (ad 5), .int y0_7, .int x0_8, u0_9, u0_10, u0_11, u0_12, u0_13, u0_14, u0_15])), (1, .inl (cy 0, 30, .inl d1)), (2, .inl (cy 0, 30, .inl d2)), (3, .inl (cy 0, 30, .inl d3)), (4, .inl (cy 0, 30, .inl d4)), (5, .inl (cy 0, 30, .inl d5))])) D 6 0 ad g A) (cc := cX8_tell) (maxL := 4) (ret := (some .int)) (by decide) rfl (Nat.le_of_ble_eq_true rfl) ?_
  intro p e s m below meth c A hC hr hlk hnm hO ls hl
  have hC : CallFix p m c cX8_tell 4 s [.ref (ad 0), .int itsMinute, .int itsBird, .int itsCount].toArray wq_k_X8_tell RX8 := hC
  obtain ⟨hx, hb, hml, hown, hts⟩ := id hC
  have hl : lv_has ls 4 [(0, .ref (ad 0)), (1, .int itsMinute), (2, .int itsBird), (3, .int itsCount)] := hl
  have i_X8 : ∀ w ∈ wsX80, w ∈ wq_k_X8_tell := fun w h => List.mem_cons_of_mem _ (List.mem_append_right _ h)
  have hO := hO.notes [(0, .inr (8, [u0_0, u0_1, .ref (ad 1), .ref (ad 2), .ref (ad 3), .ref (ad 4), .ref (ad 5), .int x0_7, .int x0_8, u0_9, u0_10, u0_11, u0_12, u0_13, u0_14, u0_15])), (1, .inl (cy 0, 30, .inl c1)), (2, .inl (cy 0, 30, .inl c2)), (3, .inl (cy 0, 30, .inl c3)), (4, .inl (cy 0, 30, .inl c4)), (5, .inl (cy 0, 30, .inl c5))] (List.forall_mem_cons.mpr ⟨o0, List.forall_mem_cons.mpr ⟨a1, List.forall_mem_cons.mpr ⟨a2, List.forall_mem_cons.mpr ⟨a3, List.forall_mem_cons.mpr ⟨a4, List.forall_mem_cons.mpr ⟨a5, (fun _ h => absurd h List.not_mem_nil)⟩⟩⟩⟩⟩⟩)
  refine lv_aload_n hx hb ddX8_tell_0 rfl (lv_at hl 0 rfl) ?_
  refine cg_get hC hO 0 (by decide) rfl rfl i_X8 2 (by decide) (List.mem_of_getElem? (i := 1) rfl) rfl ddX8_tell_1 ?_
  refine lv_aload_n hx hb ddX8_tell_4 rfl (lv_at hl 0 rfl) ?_
  refine cg_get hC hO 0 (by decide) rfl rfl i_X8 7 (by decide) (List.mem_of_getElem? (i := 2) rfl) rfl ddX8_tell_5 ?_
  refine lv_iload_n hx hb ddX8_tell_8 rfl (lv_at hl 1 rfl) ?_
  refine zg_iast hC hO 1 (by decide) rfl (za_all _) (zi_all itsMinute) (zi_in b0_7 (by decide)) ddX8_tell_9 (fun H locs c_9_33 zc_9_34 hO => ?_)
  have hO : cO D cy A s.heap s 6 ad (cup [(0, .inr (8, [u0_0, u0_1, .ref (ad 1), .ref (ad 2), .ref (ad 3), .ref (ad 4), .ref (ad 5), .int x0_7, .int x0_8, u0_9, u0_10, u0_11, u0_12, u0_13, u0_14, u0_15])), (1, .inl (cy 0, 30, .inl c_9_33)), (2, .inl (cy 0, 30, .inl c2)), (3, .inl (cy 0, 30, .inl c3)), (4, .inl (cy 0, 30, .inl c4)), (5, .inl (cy 0, 30, .inl c5))] g) _ _ := hO
  refine lv_aload_n hx hb ddX8_tell_10 rfl (lv_at hl 0 rfl) ?_
  refine cg_get hC hO 0 (by decide) rfl rfl i_X8 3 (by decide) (List.mem_of_getElem? (i := 3) rfl) rfl ddX8_tell_11 ?_
  refine lv_aload_n hx hb ddX8_tell_14 rfl (lv_at hl 0 rfl) ?_
  refine cg_get hC hO 0 (by decide) rfl rfl i_X8 7 (by decide) (List.mem_of_getElem? (i := 2) rfl) rfl ddX8_tell_15 ?_
  refine lv_iload_n hx hb ddX8_tell_18 rfl (lv_at hl 2 rfl) ?_
  refine zg_iast hC hO 2 (by decide) rfl ha2 p_itsBird (zi_in b0_7 (by decide)) ddX8_tell_19 (fun H locs c_19_35 zc_19_36 hO => ?_)
  have hO : cO D cy A s.heap s 6 ad (cup [(0, .inr (8, [u0_0, u0_1, .ref (ad 1), .ref (ad 2), .ref (ad 3), .ref (ad 4), .ref (ad 5), .int x0_7, .int x0_8, u0_9, u0_10, u0_11, u0_12, u0_13, u0_14, u0_15])), (1, .inl (cy 0, 30, .inl c_9_33)), (2, .inl (cy 0, 30, .inl c_19_35)), (3, .inl (cy 0, 30, .inl c3)), (4, .inl (cy 0, 30, .inl c4)), (5, .inl (cy 0, 30, .inl c5))] g) _ _ := hO
  refine lv_aload_n hx hb ddX8_tell_20 rfl (lv_at hl 0 rfl) ?_
  refine cg_get hC hO 0 (by decide) rfl rfl i_X8 4 (by decide) (List.mem_of_getElem? (i := 4) rfl) rfl ddX8_tell_21 ?_
  refine lv_aload_n hx hb ddX8_tell_24 rfl (lv_at hl 0 rfl) ?_
  refine cg_get hC hO 0 (by decide) rfl rfl i_X8 7 (by decide) (List.mem_of_getElem? (i := 2) rfl) rfl ddX8_tell_25 ?_
  refine lv_iload_n hx hb ddX8_tell_28 rfl (lv_at hl 3 rfl) ?_
  refine zg_iast hC hO 3 (by decide) rfl (za_all _) (zi_all itsCount) (zi_in b0_7 (by decide)) ddX8_tell_29 (fun H locs c_29_37 zc_29_38 hO => ?_)
  have hO : cO D cy A s.heap s 6 ad (cup [(0, .inr (8, [u0_0, u0_1, .ref (ad 1), .ref (ad 2), .ref (ad 3), .ref (ad 4), .ref (ad 5), .int x0_7, .int x0_8, u0_9, u0_10, u0_11, u0_12, u0_13, u0_14, u0_15])), (1, .inl (cy 0, 30, .inl c_9_33)), (2, .inl (cy 0, 30, .inl c_19_35)), (3, .inl (cy 0, 30, .inl c_29_37)), (4, .inl (cy 0, 30, .inl c4)), (5, .inl (cy 0, 30, .inl c5))] g) _ _ := hO
  refine lv_aload_n hx hb ddX8_tell_30 rfl (lv_at hl 0 rfl) ?_
  refine cg_get hC hO 0 (by decide) rfl rfl i_X8 5 (by decide) (List.mem_of_getElem? (i := 5) rfl) rfl ddX8_tell_31 ?_
  refine lv_aload_n hx hb ddX8_tell_34 rfl (lv_at hl 0 rfl) ?_
  refine cg_get hC hO 0 (by decide) rfl rfl i_X8 7 (by decide) (List.mem_of_getElem? (i := 2) rfl) rfl ddX8_tell_35 ?_
  refine lv_aload_n hx hb ddX8_tell_38 rfl (lv_at hl 0 rfl) ?_
  refine cg_get hC hO 0 (by decide) rfl rfl i_X8 8 (by decide) (List.mem_of_getElem? (i := 6) rfl) rfl ddX8_tell_39 ?_
  refine zg_iast hC hO 4 (by decide) rfl (za_all _) (zi_w (c := (-2147483648)) (d := 2147483647) b0_8 (by decide)) (zi_in b0_7 (by decide)) ddX8_tell_42 (fun H locs c_42_39 zc_42_40 hO => ?_)
  have hO : cO D cy A s.heap s 6 ad (cup [(0, .inr (8, [u0_0, u0_1, .ref (ad 1), .ref (ad 2), .ref (ad 3), .ref (ad 4), .ref (ad 5), .int x0_7, .int x0_8, u0_9, u0_10, u0_11, u0_12, u0_13, u0_14, u0_15])), (1, .inl (cy 0, 30, .inl c_9_33)), (2, .inl (cy 0, 30, .inl c_19_35)), (3, .inl (cy 0, 30, .inl c_29_37)), (4, .inl (cy 0, 30, .inl c_42_39)), (5, .inl (cy 0, 30, .inl c5))] g) _ _ := hO
  refine lv_aload_n hx hb ddX8_tell_43 rfl (lv_at hl 0 rfl) ?_
  refine cg_get hC hO 0 (by decide) rfl rfl i_X8 6 (by decide) (List.mem_of_getElem? (i := 7) rfl) rfl ddX8_tell_44 ?_
  refine lv_aload_n hx hb ddX8_tell_47 rfl (lv_at hl 0 rfl) ?_
  refine cg_get hC hO 0 (by decide) rfl rfl i_X8 7 (by decide) (List.mem_of_getElem? (i := 2) rfl) rfl ddX8_tell_48 ?_
  refine lv_iconst (v := (-1)) hx hb ddX8_tell_51 (by decide) ?_
  refine zg_iast hC hO 5 (by decide) rfl (za_all _) (zi_k (a := (-2147483648)) (b := 2147483647) (x := (-1)) rfl) (zi_in b0_7 (by decide)) ddX8_tell_52 (fun H locs c_52_41 zc_52_42 hO => ?_)
  have hO : cO D cy A s.heap s 6 ad (cup [(0, .inr (8, [u0_0, u0_1, .ref (ad 1), .ref (ad 2), .ref (ad 3), .ref (ad 4), .ref (ad 5), .int x0_7, .int x0_8, u0_9, u0_10, u0_11, u0_12, u0_13, u0_14, u0_15])), (1, .inl (cy 0, 30, .inl c_9_33)), (2, .inl (cy 0, 30, .inl c_19_35)), (3, .inl (cy 0, 30, .inl c_29_37)), (4, .inl (cy 0, 30, .inl c_42_39)), (5, .inl (cy 0, 30, .inl c_52_41))] g) _ _ := hO
  refine lv_aload_n hx hb ddX8_tell_53 rfl (lv_at hl 0 rfl) ?_
  refine lv_dup hx hb ddX8_tell_54 rfl ?_
  refine cg_get hC hO 0 (by decide) rfl rfl i_X8 7 (by decide) (List.mem_of_getElem? (i := 2) rfl) rfl ddX8_tell_55 ?_
  refine lv_iconst (v := 1) hx hb ddX8_tell_58 (by decide) ?_
  refine lv_iadd hx hb ddX8_tell_59 ?_
  refine zg_top2 (P := fun v => zi 1 30 v) (E := fun v => v.toInt = x0_7.toInt + 1) (zi_addk b0_7 (n := 1) (by decide) (by decide)) (fun v_59_43 z_59_44 q_59_45 => ?_)
  refine cg_put hC hO 0 (by decide) rfl rfl i_X8 tyX8_ok nmX8 7 (by decide) (List.mem_of_getElem? (i := 2) rfl) rfl rfl rfl (Nat.le_of_ble_eq_true rfl) ddX8_tell_60 (fun H locs hO => ?_)
  have hO : cO D cy A s.heap s 6 ad (cup [(0, .inr (8, [u0_0, u0_1, .ref (ad 1), .ref (ad 2), .ref (ad 3), .ref (ad 4), .ref (ad 5), .int v_59_43, .int x0_8, u0_9, u0_10, u0_11, u0_12, u0_13, u0_14, u0_15])), (1, .inl (cy 0, 30, .inl c_9_33)), (2, .inl (cy 0, 30, .inl c_19_35)), (3, .inl (cy 0, 30, .inl c_29_37)), (4, .inl (cy 0, 30, .inl c_42_39)), (5, .inl (cy 0, 30, .inl c_52_41))] g) _ _ := hO
  refine lv_aload_n hx hb ddX8_tell_63 rfl (lv_at hl 0 rfl) ?_
  refine cg_get hC hO 0 (by decide) rfl rfl i_X8 7 (by decide) (List.mem_of_getElem? (i := 2) rfl) rfl ddX8_tell_64 ?_
  refine lv_iconst (v := 1) hx hb ddX8_tell_67 (by decide) ?_
  refine lv_isub hx hb ddX8_tell_68 ?_
  refine zg_top2 (P := fun v => zi 0 29 v) (E := fun v => v.toInt = v_59_43.toInt + -1) (zi_subk z_59_44 (n := 1) (by decide) (by decide)) (fun v_68_46 z_68_47 q_68_48 => ?_)
  exact cg_iret (nw := fun _ => 0) hC hr hlk hO.same rfl (Nat.le_of_ble_eq_true rfl) (Nat.le_of_ble_eq_true rfl) (⟨v_59_43, c_9_33, c_19_35, c_29_37, c_42_39, c_52_41, z_59_44, zc_19_36, z_68_47, rfl⟩) ddX8_tell_69

theorem ddX8_takeBack_0 : decode cX8_takeBack 0 = .ok (.iload_n 1, 1) := by decide +kernel
theorem ddX8_takeBack_1 : decode cX8_takeBack 1 = .ok (.iconst 0, 1) := by decide +kernel
theorem ddX8_takeBack_2 : decode cX8_takeBack 2 = .ok (.aload_n 0, 1) := by decide +kernel
theorem ddX8_takeBack_3 : decode cX8_takeBack 3 = .ok (.getfield 49, 3) := by decide +kernel
theorem ddX8_takeBack_6 : decode cX8_takeBack 6 = .ok (.iconst 1, 1) := by decide +kernel
theorem ddX8_takeBack_7 : decode cX8_takeBack 7 = .ok (.isub, 1) := by decide +kernel
theorem ddX8_takeBack_8 : decode cX8_takeBack 8 = .ok (.invokestatic 56, 3) := by decide +kernel
theorem ddX8_takeBack_11 : decode cX8_takeBack 11 = .ok (.ifCond .eq 13, 3) := by decide +kernel
theorem ddX8_takeBack_14 : decode cX8_takeBack 14 = .ok (.aload_n 0, 1) := by decide +kernel
theorem ddX8_takeBack_15 : decode cX8_takeBack 15 = .ok (.getfield 24, 3) := by decide +kernel
theorem ddX8_takeBack_18 : decode cX8_takeBack 18 = .ok (.iload_n 1, 1) := by decide +kernel
theorem ddX8_takeBack_19 : decode cX8_takeBack 19 = .ok (.iaload, 1) := by decide +kernel
theorem ddX8_takeBack_20 : decode cX8_takeBack 20 = .ok (.iconst (-1), 1) := by decide +kernel
theorem ddX8_takeBack_21 : decode cX8_takeBack 21 = .ok (.if_icmp .eq 5, 3) := by decide +kernel
theorem ddX8_takeBack_24 : decode cX8_takeBack 24 = .ok (.iconst 0, 1) := by decide +kernel
theorem ddX8_takeBack_25 : decode cX8_takeBack 25 = .ok (.ireturn, 1) := by decide +kernel
theorem ddX8_takeBack_26 : decode cX8_takeBack 26 = .ok (.aload_n 0, 1) := by decide +kernel
theorem ddX8_takeBack_27 : decode cX8_takeBack 27 = .ok (.getfield 24, 3) := by decide +kernel
theorem ddX8_takeBack_30 : decode cX8_takeBack 30 = .ok (.iload_n 1, 1) := by decide +kernel
theorem ddX8_takeBack_31 : decode cX8_takeBack 31 = .ok (.aload_n 0, 1) := by decide +kernel
theorem ddX8_takeBack_32 : decode cX8_takeBack 32 = .ok (.getfield 53, 3) := by decide +kernel
theorem ddX8_takeBack_35 : decode cX8_takeBack 35 = .ok (.iastore, 1) := by decide +kernel
theorem ddX8_takeBack_36 : decode cX8_takeBack 36 = .ok (.iconst 1, 1) := by decide +kernel
theorem ddX8_takeBack_37 : decode cX8_takeBack 37 = .ok (.ireturn, 1) := by decide +kernel
def wq_k_X8_takeBack : List Cond := Cond.code yX8_takeBack cX8_takeBack 2 (some .boolean) :: (([Cond.fieldLink RX8 49 "CrowToll$Sights" "size" "I", Cond.code yX11_within cX11_within 3 (some .boolean), Cond.static yX11_within, Cond.initialized RX11, Cond.fieldLink RX8 24 "CrowToll$Sights" "untoldAt" "[I", Cond.fieldLink RX8 53 "CrowToll$Sights" "time" "I"] : List Cond) ++ wsX80)
set_option maxRecDepth 20000 in
theorem gr_k_X8_takeBack_k_X11_within : GoodIn wq_k_X8_takeBack wq_k_X11_within := List.forall_mem_cons.mpr ⟨⟨(List.mem_of_getElem? (i := 2) rfl), good_of_word rfl⟩, (fun _ h => absurd h List.not_mem_nil)⟩
theorem gq_k_X8_takeBack_k_X11_within : GoodIn wq_k_X8_takeBack wq_k_X11_within := gr_k_X8_takeBack_k_X11_within
set_option maxHeartbeats 8000000 in
set_option maxRecDepth 100000 in
theorem k_X8_takeBack (l : Launch) (D : va_G) (cy : Nat → ClassId) (ad : Nat → Nat) (g : Nat → va_E) {u0_0 : Value} {u0_1 : Value} {u0_2 : Value} {u0_3 : Value} {u0_4 : Value} {u0_5 : Value} {x0_7 : Int32} {x0_8 : Int32} {u0_9 : Value} {u0_10 : Value} {u0_11 : Value} {u0_12 : Value} {u0_13 : Value} {u0_14 : Value} {u0_15 : Value} {c1 : Nat → Int32} {sight : Int32} (o0 : g 0 = .inr (8, [u0_0, u0_1, u0_2, u0_3, u0_4, u0_5, .ref (ad 1), .int x0_7, .int x0_8, u0_9, u0_10, u0_11, u0_12, u0_13, u0_14, u0_15])) (a1 : g 1 = .inl (cy 0, 30, .inl c1)) (b0_7 : zi 0 30 x0_7) (b0_8 : zi 0 100000 x0_8) : cMi l yX8_takeBack wq_k_X8_takeBack { frames := 1, cells := 0, slots := 0, locals := 22 } 2 0 0 0 D cy ad g [.ref (ad 0), .int sight] (fun r nw lu => ∃ (d1 : Nat → Int32), (zi 0 1 r) ∧ (lu = [(1, .inl (cy 0, 30, .inl d1))])) := by
  refine cM_of (Qc := fun A => cQi (fun r nw lu => ∃ (d1 : Nat → Int32), (zi 0 1 r) ∧ (lu = [(1, .inl (cy 0, 30, .inl d1))])) D 2 0 ad g A) (cc := cX8_takeBack) (maxL := 2) (ret := (some .boolean)) (by decide) rfl (Nat.le_of_ble_eq_true rfl) ?_
  intro p e s m below meth c A hC hr hlk hnm hO ls hl
  have hC : CallFix p m c cX8_takeBack 2 s [.ref (ad 0), .int sight].toArray wq_k_X8_takeBack RX8 := hC
  obtain ⟨hx, hb, hml, hown, hts⟩ := id hC
  have hl : lv_has ls 2 [(0, .ref (ad 0)), (1, .int sight)] := hl
  have i_X8 : ∀ w ∈ wsX80, w ∈ wq_k_X8_takeBack := fun w h => List.mem_cons_of_mem _ (List.mem_append_right _ h)
  have hO := hO.notes [(1, .inl (cy 0, 30, .inl c1))] (List.forall_mem_cons.mpr ⟨a1, (fun _ h => absurd h List.not_mem_nil)⟩)
  refine lv_iload_n hx hb ddX8_takeBack_0 rfl (lv_at hl 1 rfl) ?_
  refine lv_iconst (v := 0) hx hb ddX8_takeBack_1 (by decide) ?_
  refine lv_aload_n hx hb ddX8_takeBack_2 rfl (lv_at hl 0 rfl) ?_
  refine cg_get hC hO 0 (by decide) o0 rfl i_X8 7 (by decide) (List.mem_of_getElem? (i := 1) rfl) rfl ddX8_takeBack_3 ?_
  refine lv_iconst (v := 1) hx hb ddX8_takeBack_6 (by decide) ?_
  refine lv_isub hx hb ddX8_takeBack_7 ?_
  refine zg_top2 (P := fun v => zi (-1) 29 v) (E := fun v => v.toInt = x0_7.toInt + -1) (zi_subk b0_7 (n := 1) (by decide) (by decide)) (fun v_7_43 z_7_44 q_7_45 => ?_)
  refine cg_Ni (As := [.int sight, .int 0, .int v_7_43]) (rest := []) (mc := 0) (ms := 0) (rm := { frames := 0, cells := 0, slots := 0, locals := 0 }) hC hl.1 hO [] (by decide +kernel) (k_X11_within l D cy _ _ (number := sight) (least := 0) (most := v_7_43) ) gq_k_X8_takeBack_k_X11_within rfl rfl rfl (host := "CrowToll") (nestL_mem_14) (List.mem_of_getElem? (i := 3) rfl) (List.mem_of_getElem? (i := 4) rfl) 3 (by decide +kernel) ⟨Nat.le_of_ble_eq_true rfl, Nat.le_of_ble_eq_true rfl⟩ rfl rfl (Nat.le_of_ble_eq_true rfl) ddX8_takeBack_8 ⟨Nat.le_of_ble_eq_true rfl, Nat.le_of_ble_eq_true rfl⟩ (fun r_8_48 nw_8_46 l_8_47 H locs hw hO => ?_)
  rcases hw with hw | hw
  · obtain ⟨q_8_49, q_8_50, rfl, rfl⟩ := hw
    have hO : cO D cy A s.heap s 2 ad (cup [(1, .inl (cy 0, 30, .inl c1))] g) _ _ := hO
    have q_8_51 := q_8_49
    have z_8_52 : zi 0 2147483647 sight := zd_le q_8_51 (zi_k (a := 0) (b := 0) (x := 0) rfl) (zi_all sight) (by decide)
    have q_8_53 := q_8_50
    have z_8_54 : zi 0 29 sight := zu_le q_8_53 z_8_52 z_7_44 (by decide)
    have z_8_55 : zi 0 29 v_7_43 := zd_le q_8_53 z_8_52 z_7_44 (by decide)
    have z_8_56 : zi 1 30 x0_7 := zp_add q_7_45 z_8_55 b0_7 (by decide)
    refine lv_if_eq (tgt := 24) hx hb ddX8_takeBack_11 (by decide) (fun h => absurd h (by decide)) (fun _ => ?_)
    refine lv_aload_n hx hb ddX8_takeBack_14 rfl (lv_at hl 0 rfl) ?_
    refine cg_get hC hO 0 (by decide) o0 rfl i_X8 6 (by decide) (List.mem_of_getElem? (i := 5) rfl) rfl ddX8_takeBack_15 ?_
    refine lv_iload_n hx hb ddX8_takeBack_18 rfl (lv_at hl 1 rfl) ?_
    refine zg_iald hC hO 1 (by decide) rfl (za_all _) (zi_in z_8_54 (by decide)) ddX8_takeBack_19 (fun v_19_57 z_19_58 => ?_)
    refine lv_iconst (v := (-1)) hx hb ddX8_takeBack_20 (by decide) ?_
    refine lv_icmp_eq (tgt := 26) hx hb ddX8_takeBack_21 (by decide) (fun h_21_59 => ?_) (fun h_21_59 => ?_)
    · have q_21_60 := zr_eq h_21_59
      have z_21_61 : zi (-1) (-1) v_19_57 := ze_eq q_21_60 z_19_58 (zi_k (a := (-1)) (b := (-1)) (x := (-1)) rfl)
      refine lv_aload_n hx hb ddX8_takeBack_26 rfl (lv_at hl 0 rfl) ?_
      refine cg_get hC hO 0 (by decide) o0 rfl i_X8 6 (by decide) (List.mem_of_getElem? (i := 5) rfl) rfl ddX8_takeBack_27 ?_
      refine lv_iload_n hx hb ddX8_takeBack_30 rfl (lv_at hl 1 rfl) ?_
      refine lv_aload_n hx hb ddX8_takeBack_31 rfl (lv_at hl 0 rfl) ?_
      refine cg_get hC hO 0 (by decide) o0 rfl i_X8 8 (by decide) (List.mem_of_getElem? (i := 6) rfl) rfl ddX8_takeBack_32 ?_
      refine zg_iast hC hO 1 (by decide) rfl (za_all _) (zi_w (c := (-2147483648)) (d := 2147483647) b0_8 (by decide)) (zi_in z_8_54 (by decide)) ddX8_takeBack_35 (fun H locs c_35_62 zc_35_63 hO => ?_)
      have hO : cO D cy A s.heap s 2 ad (cup [(1, .inl (cy 0, 30, .inl c_35_62))] g) _ _ := hO
      refine lv_iconst (v := 1) hx hb ddX8_takeBack_36 (by decide) ?_
      exact cg_iret (nw := fun _ => 0) hC hr hlk hO.same rfl (Nat.le_of_ble_eq_true rfl) (Nat.le_of_ble_eq_true rfl) (⟨c_35_62, (zi_k (a := 0) (b := 1) (x := 1) rfl), rfl⟩) ddX8_takeBack_37
    · refine lv_iconst (v := 0) hx hb ddX8_takeBack_24 (by decide) ?_
      exact cg_iret (nw := fun _ => 0) hC hr hlk hO.same rfl (Nat.le_of_ble_eq_true rfl) (Nat.le_of_ble_eq_true rfl) (⟨c1, (zi_k (a := 0) (b := 1) (x := 0) rfl), rfl⟩) ddX8_takeBack_25
  · obtain ⟨rfl, rfl⟩ := hw
    have hO : cO D cy A s.heap s 2 ad (cup [(1, .inl (cy 0, 30, .inl c1))] g) _ _ := hO
    refine lv_if_eq (tgt := 24) hx hb ddX8_takeBack_11 (by decide) (fun _ => ?_) (fun h => absurd h (by decide))
    refine lv_iconst (v := 0) hx hb ddX8_takeBack_24 (by decide) ?_
    exact cg_iret (nw := fun _ => 0) hC hr hlk hO.same rfl (Nat.le_of_ble_eq_true rfl) (Nat.le_of_ble_eq_true rfl) (⟨c1, (zi_k (a := 0) (b := 1) (x := 0) rfl), rfl⟩) ddX8_takeBack_25

theorem ddX8_cartsTill_0 : decode cX8_cartsTill 0 = .ok (.aload_n 0, 1) := by decide +kernel
theorem ddX8_cartsTill_1 : decode cX8_cartsTill 1 = .ok (.getfield 38, 3) := by decide +kernel
theorem ddX8_cartsTill_4 : decode cX8_cartsTill 4 = .ok (.getfield 97, 3) := by decide +kernel
theorem ddX8_cartsTill_7 : decode cX8_cartsTill 7 = .ok (.aload_n 0, 1) := by decide +kernel
theorem ddX8_cartsTill_8 : decode cX8_cartsTill 8 = .ok (.getfield 15, 3) := by decide +kernel
theorem ddX8_cartsTill_11 : decode cX8_cartsTill 11 = .ok (.iload_n 1, 1) := by decide +kernel
theorem ddX8_cartsTill_12 : decode cX8_cartsTill 12 = .ok (.iaload, 1) := by decide +kernel
theorem ddX8_cartsTill_13 : decode cX8_cartsTill 13 = .ok (.iaload, 1) := by decide +kernel
theorem ddX8_cartsTill_14 : decode cX8_cartsTill 14 = .ok (.istore_n 2, 1) := by decide +kernel
theorem ddX8_cartsTill_15 : decode cX8_cartsTill 15 = .ok (.iload_n 2, 1) := by decide +kernel
theorem ddX8_cartsTill_16 : decode cX8_cartsTill 16 = .ok (.iconst (-1), 1) := by decide +kernel
theorem ddX8_cartsTill_17 : decode cX8_cartsTill 17 = .ok (.if_icmp .ne 5, 3) := by decide +kernel
theorem ddX8_cartsTill_20 : decode cX8_cartsTill 20 = .ok (.iconst 0, 1) := by decide +kernel
theorem ddX8_cartsTill_21 : decode cX8_cartsTill 21 = .ok (.ireturn, 1) := by decide +kernel
theorem ddX8_cartsTill_22 : decode cX8_cartsTill 22 = .ok (.aload_n 0, 1) := by decide +kernel
theorem ddX8_cartsTill_23 : decode cX8_cartsTill 23 = .ok (.dup, 1) := by decide +kernel
theorem ddX8_cartsTill_24 : decode cX8_cartsTill 24 = .ok (.getfield 70, 3) := by decide +kernel
theorem ddX8_cartsTill_27 : decode cX8_cartsTill 27 = .ok (.iconst 1, 1) := by decide +kernel
theorem ddX8_cartsTill_28 : decode cX8_cartsTill 28 = .ok (.iload_n 2, 1) := by decide +kernel
theorem ddX8_cartsTill_29 : decode cX8_cartsTill 29 = .ok (.ishl, 1) := by decide +kernel
theorem ddX8_cartsTill_30 : decode cX8_cartsTill 30 = .ok (.ior, 1) := by decide +kernel
theorem ddX8_cartsTill_31 : decode cX8_cartsTill 31 = .ok (.putfield 70, 3) := by decide +kernel
theorem ddX8_cartsTill_34 : decode cX8_cartsTill 34 = .ok (.iconst 0, 1) := by decide +kernel
theorem ddX8_cartsTill_35 : decode cX8_cartsTill 35 = .ok (.istore_n 3, 1) := by decide +kernel
theorem ddX8_cartsTill_36 : decode cX8_cartsTill 36 = .ok (.iload_n 3, 1) := by decide +kernel
theorem ddX8_cartsTill_37 : decode cX8_cartsTill 37 = .ok (.aload_n 0, 1) := by decide +kernel
theorem ddX8_cartsTill_38 : decode cX8_cartsTill 38 = .ok (.getfield 38, 3) := by decide +kernel
theorem ddX8_cartsTill_41 : decode cX8_cartsTill 41 = .ok (.getfield 60, 3) := by decide +kernel
theorem ddX8_cartsTill_44 : decode cX8_cartsTill 44 = .ok (.if_icmp .ge 42, 3) := by decide +kernel
theorem ddX8_cartsTill_47 : decode cX8_cartsTill 47 = .ok (.aload_n 0, 1) := by decide +kernel
theorem ddX8_cartsTill_48 : decode cX8_cartsTill 48 = .ok (.getfield 38, 3) := by decide +kernel
theorem ddX8_cartsTill_51 : decode cX8_cartsTill 51 = .ok (.getfield 65, 3) := by decide +kernel
theorem ddX8_cartsTill_54 : decode cX8_cartsTill 54 = .ok (.aload_n 0, 1) := by decide +kernel
theorem ddX8_cartsTill_55 : decode cX8_cartsTill 55 = .ok (.getfield 27, 3) := by decide +kernel
theorem ddX8_cartsTill_58 : decode cX8_cartsTill 58 = .ok (.iload_n 3, 1) := by decide +kernel
theorem ddX8_cartsTill_59 : decode cX8_cartsTill 59 = .ok (.iaload, 1) := by decide +kernel
theorem ddX8_cartsTill_60 : decode cX8_cartsTill 60 = .ok (.iaload, 1) := by decide +kernel
theorem ddX8_cartsTill_61 : decode cX8_cartsTill 61 = .ok (.aload_n 0, 1) := by decide +kernel
theorem ddX8_cartsTill_62 : decode cX8_cartsTill 62 = .ok (.getfield 38, 3) := by decide +kernel
theorem ddX8_cartsTill_65 : decode cX8_cartsTill 65 = .ok (.getfield 100, 3) := by decide +kernel
theorem ddX8_cartsTill_68 : decode cX8_cartsTill 68 = .ok (.iload_n 2, 1) := by decide +kernel
theorem ddX8_cartsTill_69 : decode cX8_cartsTill 69 = .ok (.iaload, 1) := by decide +kernel
theorem ddX8_cartsTill_70 : decode cX8_cartsTill 70 = .ok (.iadd, 1) := by decide +kernel
theorem ddX8_cartsTill_71 : decode cX8_cartsTill 71 = .ok (.aload_n 0, 1) := by decide +kernel
theorem ddX8_cartsTill_72 : decode cX8_cartsTill 72 = .ok (.getfield 9, 3) := by decide +kernel
theorem ddX8_cartsTill_75 : decode cX8_cartsTill 75 = .ok (.iload_n 1, 1) := by decide +kernel
theorem ddX8_cartsTill_76 : decode cX8_cartsTill 76 = .ok (.iaload, 1) := by decide +kernel
theorem ddX8_cartsTill_77 : decode cX8_cartsTill 77 = .ok (.if_icmp .gt 9, 3) := by decide +kernel
theorem ddX8_cartsTill_80 : decode cX8_cartsTill 80 = .ok (.iinc 3 1, 3) := by decide +kernel
theorem ddX8_cartsTill_83 : decode cX8_cartsTill 83 = .ok (.goto (-47), 3) := by decide +kernel
theorem ddX8_cartsTill_86 : decode cX8_cartsTill 86 = .ok (.iload_n 3, 1) := by decide +kernel
theorem ddX8_cartsTill_87 : decode cX8_cartsTill 87 = .ok (.ireturn, 1) := by decide +kernel
def wq_k_X8_cartsTill : List Cond := Cond.code yX8_cartsTill cX8_cartsTill 4 (some .int) :: (([Cond.fieldLink RX8 38 "CrowToll$Sights" "road" "LCrowToll$Road;", Cond.fieldLink RX8 97 "CrowToll$Road" "seatOf" "[I", Cond.fieldLink RX8 15 "CrowToll$Sights" "bird" "[I", Cond.fieldLink RX8 70 "CrowToll$Sights" "watched" "I", Cond.fieldLink RX8 60 "CrowToll$Road" "carts" "I", Cond.fieldLink RX8 65 "CrowToll$Road" "minute" "[I", Cond.fieldLink RX8 27 "CrowToll$Sights" "order" "[I", Cond.fieldLink RX8 100 "CrowToll$Road" "at" "[I", Cond.fieldLink RX8 9 "CrowToll$Sights" "minute" "[I"] : List Cond) ++ wsX70 ++ wsX80)
set_option maxHeartbeats 8000000 in
set_option maxRecDepth 100000 in
theorem k_X8_cartsTill (l : Launch) (D : va_G) (cy : Nat → ClassId) (ad : Nat → Nat) (g : Nat → va_E) {u0_1 : Value} {u0_4 : Value} {u0_5 : Value} {u0_6 : Value} {u0_7 : Value} {u0_8 : Value} {u0_10 : Value} {x0_11 : Int32} {u0_12 : Value} {u0_13 : Value} {u0_14 : Value} {u0_15 : Value} {u1_0 : Value} {u1_1 : Value} {u1_2 : Value} {u1_3 : Value} {u1_5 : Value} {u1_6 : Value} {u1_8 : Value} {u1_9 : Value} {u1_10 : Value} {u1_11 : Value} {u1_12 : Value} {u1_14 : Value} {u1_15 : Value} {x1_16 : Int32} {u1_17 : Value} {c2 : Nat → Int32} {c3 : Nat → Int32} {c4 : Nat → Int32} {c5 : Nat → Int32} {c6 : Nat → Int32} {c7 : Nat → Int32} {sight : Int32} (o0 : g 0 = .inr (8, [.ref (ad 1), u0_1, .ref (ad 7), .ref (ad 2), u0_4, u0_5, u0_6, u0_7, u0_8, .ref (ad 4), u0_10, .int x0_11, u0_12, u0_13, u0_14, u0_15])) (o1 : g 1 = .inr (7, [u1_0, u1_1, u1_2, u1_3, .ref (ad 3), u1_5, u1_6, .ref (ad 6), u1_8, u1_9, u1_10, u1_11, u1_12, .ref (ad 5), u1_14, u1_15, .int x1_16, u1_17])) (a2 : g 2 = .inl (cy 0, 30, .inl c2)) (a3 : g 3 = .inl (cy 0, 5, .inl c3)) (a4 : g 4 = .inl (cy 0, 12, .inl c4)) (a5 : g 5 = .inl (cy 0, 12, .inl c5)) (a6 : g 6 = .inl (cy 0, 4, .inl c6)) (a7 : g 7 = .inl (cy 0, 30, .inl c7)) (b1_16 : zi 0 12 x1_16) (ha2 : za 0 4 c2) (ha3 : za (-1) 3 c3) (ha4 : za 0 11 c4) (p_sight : zi 0 29 sight) : cMi l yX8_cartsTill wq_k_X8_cartsTill { frames := 0, cells := 0, slots := 0, locals := 0 } 8 0 0 0 D cy ad g [.ref (ad 0), .int sight] (fun r nw lu => ∃ (y0_11 : Int32), (zi 0 12 r) ∧ (lu = [(0, .inr (8, [.ref (ad 1), u0_1, .ref (ad 7), .ref (ad 2), u0_4, u0_5, u0_6, u0_7, u0_8, .ref (ad 4), u0_10, .int y0_11, u0_12, u0_13, u0_14, u0_15]))])) := by
  refine cM_of (Qc := fun A => cQi (fun r nw lu => ∃ (y0_11 : Int32), (zi 0 12 r) ∧ (lu = [(0, .inr (8, [.ref (ad 1), u0_1, .ref (ad 7), .ref (ad 2), u0_4, u0_5, u0_6, u0_7, u0_8, .ref (ad 4), u0_10, .int y0_11, u0_12, u0_13, u0_14, u0_15]))])) D 8 0 ad g A) (cc := cX8_cartsTill) (maxL := 4) (ret := (some .int)) (by decide) rfl (Nat.le_of_ble_eq_true rfl) ?_
  intro p e s m below meth c A hC hr hlk hnm hO ls hl
  have hC : CallFix p m c cX8_cartsTill 4 s [.ref (ad 0), .int sight].toArray wq_k_X8_cartsTill RX8 := hC
  obtain ⟨hx, hb, hml, hown, hts⟩ := id hC
  have hl : lv_has ls 4 [(0, .ref (ad 0)), (1, .int sight)] := hl
  have i_X7 : ∀ w ∈ wsX70, w ∈ wq_k_X8_cartsTill := fun w h => List.mem_cons_of_mem _ (List.mem_append_left _ (List.mem_append_right _ h))
  have i_X8 : ∀ w ∈ wsX80, w ∈ wq_k_X8_cartsTill := fun w h => List.mem_cons_of_mem _ (List.mem_append_right _ h)
  have hO := hO.notes [(0, .inr (8, [.ref (ad 1), u0_1, .ref (ad 7), .ref (ad 2), u0_4, u0_5, u0_6, u0_7, u0_8, .ref (ad 4), u0_10, .int x0_11, u0_12, u0_13, u0_14, u0_15]))] (List.forall_mem_cons.mpr ⟨o0, (fun _ h => absurd h List.not_mem_nil)⟩)
  refine lv_aload_n hx hb ddX8_cartsTill_0 rfl (lv_at hl 0 rfl) ?_
  refine cg_get hC hO 0 (by decide) rfl rfl i_X8 0 (by decide) (List.mem_of_getElem? (i := 1) rfl) rfl ddX8_cartsTill_1 ?_
  refine cg_get hC hO 1 (by decide) o1 rfl i_X7 4 (by decide) (List.mem_of_getElem? (i := 2) rfl) rfl ddX8_cartsTill_4 ?_
  refine lv_aload_n hx hb ddX8_cartsTill_7 rfl (lv_at hl 0 rfl) ?_
  refine cg_get hC hO 0 (by decide) rfl rfl i_X8 3 (by decide) (List.mem_of_getElem? (i := 3) rfl) rfl ddX8_cartsTill_8 ?_
  refine lv_iload_n hx hb ddX8_cartsTill_11 rfl (lv_at hl 1 rfl) ?_
  refine zg_iald hC hO 2 (by decide) a2 ha2 (zi_in p_sight (by decide)) ddX8_cartsTill_12 (fun v_12_463 z_12_464 => ?_)
  refine zg_iald hC hO 3 (by decide) a3 ha3 (zi_in z_12_464 (by decide)) ddX8_cartsTill_13 (fun v_13_465 z_13_466 => ?_)
  refine lv_istore_n (lv' := [(2, .int v_13_465), (0, .ref (ad 0)), (1, .int sight)]) hx hb ddX8_cartsTill_14 rfl hl (by decide) rfl (fun ls hl => ?_)
  refine lv_iload_n hx hb ddX8_cartsTill_15 rfl (lv_at hl 0 rfl) ?_
  refine lv_iconst (v := (-1)) hx hb ddX8_cartsTill_16 (by decide) ?_
  refine lv_icmp_ne (tgt := 22) hx hb ddX8_cartsTill_17 (by decide) (fun h_17_467 => ?_) (fun h_17_467 => ?_)
  · have q_17_468 := zr_ne h_17_467
    have z_17_469 : zi 0 3 v_13_465 := zn_lo q_17_468 z_13_466 (zi_k (a := (-1)) (b := (-1)) (x := (-1)) rfl) (by decide)
    refine lv_aload_n hx hb ddX8_cartsTill_22 rfl (lv_at hl 1 rfl) ?_
    refine lv_dup hx hb ddX8_cartsTill_23 rfl ?_
    refine cg_get hC hO 0 (by decide) rfl rfl i_X8 11 (by decide) (List.mem_of_getElem? (i := 4) rfl) rfl ddX8_cartsTill_24 ?_
    refine lv_iconst (v := 1) hx hb ddX8_cartsTill_27 (by decide) ?_
    refine lv_iload_n hx hb ddX8_cartsTill_28 rfl (lv_at hl 0 rfl) ?_
    refine lv_ishl hx hb ddX8_cartsTill_29 ?_
    refine zg_top (P := fun v => zi 1 16 v) (zi_shl4 (zi_w (c := 0) (d := 4) z_17_469 (by decide))) (fun v_29_470 z_29_471 => ?_)
    refine lv_ior hx hb ddX8_cartsTill_30 ?_
    refine lv_topi (fun v_30_472 _ => ?_)
    refine cg_put hC hO 0 (by decide) rfl rfl i_X8 tyX8_ok nmX8 11 (by decide) (List.mem_of_getElem? (i := 4) rfl) rfl rfl rfl (Nat.le_of_ble_eq_true rfl) ddX8_cartsTill_31 (fun H locs hO => ?_)
    have hO : cO D cy A s.heap s 8 ad (cup [(0, .inr (8, [.ref (ad 1), u0_1, .ref (ad 7), .ref (ad 2), u0_4, u0_5, u0_6, u0_7, u0_8, .ref (ad 4), u0_10, .int v_30_472, u0_12, u0_13, u0_14, u0_15]))] g) _ _ := hO
    refine lv_iconst (v := 0) hx hb ddX8_cartsTill_34 (by decide) ?_
    refine lv_istore_n (lv' := [(3, .int 0), (2, .int v_13_465), (0, .ref (ad 0)), (1, .int sight)]) hx hb ddX8_cartsTill_35 rfl hl (by decide) rfl (fun ls hl => ?_)
    have loop_36_692 : ∀ (d_36_693 : Nat) (v_36_667 : Int32), zi 0 12 v_36_667 → (12 + 1 - v_36_667.toInt).toNat < d_36_693 → ∀ (H : Heap) (locs : List Loc), cO D cy A s.heap s 8 ad (cup [(0, .inr (8, [.ref (ad 1), u0_1, .ref (ad 7), .ref (ad 2), u0_4, u0_5, u0_6, u0_7, u0_8, .ref (ad 4), u0_10, .int v_30_472, u0_12, u0_13, u0_14, u0_15]))] g) H locs → ∀ ls : Array Slot, lv_has ls 4 [(3, .int v_36_667), (2, .int v_13_465), (0, .ref (ad 0)), (1, .int sight)] → W p l e { frames := 0, cells := 0, slots := 0, locals := 0 } s m [.ref (ad 0), .int sight].toArray below meth c H locs 0 0 (MQ below (cQi (fun r nw lu => ∃ (y0_11 : Int32), (zi 0 12 r) ∧ (lu = [(0, .inr (8, [.ref (ad 1), u0_1, .ref (ad 7), .ref (ad 2), u0_4, u0_5, u0_6, u0_7, u0_8, .ref (ad 4), u0_10, .int y0_11, u0_12, u0_13, u0_14, u0_15]))])) D 8 0 ad g A) [.ref (ad 0), .int sight].toArray s 0 0 A) (F0 m 36 ls [])  := by
      intro d_36_693
      induction d_36_693 with
      | zero => intro v_36_667 z_36_668 mu_36_694; exact absurd mu_36_694 (Nat.not_lt_zero _)
      | succ d_36_693 ih_36_695 =>
        intro v_36_667 z_36_668 mu_36_694 H locs hO ls hl
        refine lv_iload_n hx hb ddX8_cartsTill_36 rfl (lv_at hl 0 rfl) ?_
        refine lv_aload_n hx hb ddX8_cartsTill_37 rfl (lv_at hl 2 rfl) ?_
        refine cg_get hC hO 0 (by decide) rfl rfl i_X8 0 (by decide) (List.mem_of_getElem? (i := 1) rfl) rfl ddX8_cartsTill_38 ?_
        refine cg_get hC hO 1 (by decide) o1 rfl i_X7 16 (by decide) (List.mem_of_getElem? (i := 5) rfl) rfl ddX8_cartsTill_41 ?_
        refine lv_icmp_ge (tgt := 86) hx hb ddX8_cartsTill_44 (by decide) (fun h_44_696 => ?_) (fun h_44_696 => ?_)
        · have q_44_697 := zr_le h_44_696
          refine lv_iload_n hx hb ddX8_cartsTill_86 rfl (lv_at hl 0 rfl) ?_
          exact cg_iret (nw := fun _ => 0) hC hr hlk hO.same rfl (Nat.le_of_ble_eq_true rfl) (Nat.le_of_ble_eq_true rfl) (⟨v_30_472, z_36_668, rfl⟩) ddX8_cartsTill_87
        · have q_44_698 := zr_nle h_44_696
          have z_44_699 : zi 0 11 v_36_667 := zu_lt q_44_698 z_36_668 b1_16 (by decide)
          have z_44_700 : zi 1 12 x1_16 := zd_lt q_44_698 z_36_668 b1_16 (by decide)
          refine lv_aload_n hx hb ddX8_cartsTill_47 rfl (lv_at hl 2 rfl) ?_
          refine cg_get hC hO 0 (by decide) rfl rfl i_X8 0 (by decide) (List.mem_of_getElem? (i := 1) rfl) rfl ddX8_cartsTill_48 ?_
          refine cg_get hC hO 1 (by decide) o1 rfl i_X7 13 (by decide) (List.mem_of_getElem? (i := 6) rfl) rfl ddX8_cartsTill_51 ?_
          refine lv_aload_n hx hb ddX8_cartsTill_54 rfl (lv_at hl 2 rfl) ?_
          refine cg_get hC hO 0 (by decide) rfl rfl i_X8 9 (by decide) (List.mem_of_getElem? (i := 7) rfl) rfl ddX8_cartsTill_55 ?_
          refine lv_iload_n hx hb ddX8_cartsTill_58 rfl (lv_at hl 0 rfl) ?_
          refine zg_iald hC hO 4 (by decide) a4 ha4 (zi_in z_44_699 (by decide)) ddX8_cartsTill_59 (fun v_59_701 z_59_702 => ?_)
          refine zg_iald hC hO 5 (by decide) a5 (za_all _) (zi_in z_59_702 (by decide)) ddX8_cartsTill_60 (fun v_60_703 z_60_704 => ?_)
          refine lv_aload_n hx hb ddX8_cartsTill_61 rfl (lv_at hl 2 rfl) ?_
          refine cg_get hC hO 0 (by decide) rfl rfl i_X8 0 (by decide) (List.mem_of_getElem? (i := 1) rfl) rfl ddX8_cartsTill_62 ?_
          refine cg_get hC hO 1 (by decide) o1 rfl i_X7 7 (by decide) (List.mem_of_getElem? (i := 8) rfl) rfl ddX8_cartsTill_65 ?_
          refine lv_iload_n hx hb ddX8_cartsTill_68 rfl (lv_at hl 1 rfl) ?_
          refine zg_iald hC hO 6 (by decide) a6 (za_all _) (zi_in z_17_469 (by decide)) ddX8_cartsTill_69 (fun v_69_705 z_69_706 => ?_)
          refine lv_iadd hx hb ddX8_cartsTill_70 ?_
          refine lv_topi (fun v_70_707 _ => ?_)
          refine lv_aload_n hx hb ddX8_cartsTill_71 rfl (lv_at hl 2 rfl) ?_
          refine cg_get hC hO 0 (by decide) rfl rfl i_X8 2 (by decide) (List.mem_of_getElem? (i := 9) rfl) rfl ddX8_cartsTill_72 ?_
          refine lv_iload_n hx hb ddX8_cartsTill_75 rfl (lv_at hl 3 rfl) ?_
          refine zg_iald hC hO 7 (by decide) a7 (za_all _) (zi_in p_sight (by decide)) ddX8_cartsTill_76 (fun v_76_708 z_76_709 => ?_)
          refine lv_icmp_gt (tgt := 86) hx hb ddX8_cartsTill_77 (by decide) (fun h_77_710 => ?_) (fun h_77_710 => ?_)
          · have q_77_711 := zr_lt h_77_710
            have z_77_712 : zi (-2147483648) 2147483646 v_76_708 := zu_lt q_77_711 z_76_709 (zi_all v_70_707) (by decide)
            have z_77_713 : zi (-2147483647) 2147483647 v_70_707 := zd_lt q_77_711 z_76_709 (zi_all v_70_707) (by decide)
            refine lv_iload_n hx hb ddX8_cartsTill_86 rfl (lv_at hl 0 rfl) ?_
            exact cg_iret (nw := fun _ => 0) hC hr hlk hO.same rfl (Nat.le_of_ble_eq_true rfl) (Nat.le_of_ble_eq_true rfl) (⟨v_30_472, (zi_w (c := 0) (d := 12) z_44_699 (by decide)), rfl⟩) ddX8_cartsTill_87
          · have q_77_714 := zr_nlt h_77_710
            obtain ⟨v_80_715, e_80_716, z_80_717, q_80_718⟩ := zi_inc (e := 1) (f := 12) 1 z_44_699 (by decide)
            refine lv_iinc (v := v_80_715) (lv' := [(3, .int v_80_715), (2, .int v_13_465), (0, .ref (ad 0)), (1, .int sight)]) hx hb ddX8_cartsTill_80 hl (k := 0) rfl e_80_716 (by decide) rfl (fun ls hl => ?_)
            refine lv_goto (tgt := 36) hx hb ddX8_cartsTill_83 (by decide) ?_
            exact ih_36_695 v_80_715 (zi_w (c := 0) (d := 12) z_80_717 (by decide)) (zm_up q_80_718 ((zi_w (c := 0) (d := 12) z_80_717 (by decide))).2 (by decide) mu_36_694) _ _ hO ls (lv_sub hl [0, 1, 2, 3] rfl)
    exact loop_36_692 ((12 + 1 - (0 : Int32).toInt).toNat + 1) 0 (zi_k (a := 0) (b := 12) (x := 0) rfl) (Nat.lt_succ_self _) _ _ hO ls (lv_sub hl [0, 1, 2, 3] rfl)
  · have q_17_719 := zr_eq h_17_467
    have z_17_720 : zi (-1) (-1) v_13_465 := ze_eq q_17_719 z_13_466 (zi_k (a := (-1)) (b := (-1)) (x := (-1)) rfl)
    refine lv_iconst (v := 0) hx hb ddX8_cartsTill_20 (by decide) ?_
    exact cg_iret (nw := fun _ => 0) hC hr hlk hO.same rfl (Nat.le_of_ble_eq_true rfl) (Nat.le_of_ble_eq_true rfl) (⟨x0_11, (zi_k (a := 0) (b := 12) (x := 0) rfl), rfl⟩) ddX8_cartsTill_21

