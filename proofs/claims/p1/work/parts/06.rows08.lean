set_option maxRecDepth 20000 in
theorem ggX12_income_X12_isPost : GoodIn wsX12_income wsX12_isPost := goodIn_r _ [7, 8, 9, 10, 6, 11, 12, 13, 14, 15, 16, 85, 86, 87, 88, 89, 90, 91, 92, 93, 94, 95, 96, 97, 98, 99, 100, 101, 102, 103, 104, 105, 106, 107, 108, 109, 110, 111, 112, 113, 114, 115, 116, 117, 118, 119, 120, 121, 122, 123, 124, 125, 126, 127, 128, 129, 130, 131, 132, 133, 134, 135, 136, 137, 138, 139, 140, 141, 142, 143, 144, 145, 146, 147, 148, 149, 150, 151, 152, 153, 154, 155, 156, 157, 158] (by decide +kernel) (by decide +kernel)
set_option maxRecDepth 20000 in
theorem gX12_income_X12_isPost : GoodIn wsX12_income (wsV RX12 415 RX12 yX12_isPost wsX12_isPost) := goodIn_app (goodIn_of _ (by decide +kernel)) ggX12_income_X12_isPost
set_option maxRecDepth 20000 in
theorem ggX12_income_X12_dayNow : GoodIn wsX12_income wsX12_dayNow := goodIn_r _ [20, 21, 22, 23, 6, 24, 25, 1, 26, 27, 28, 29, 30, 31, 32, 33, 34, 35, 36, 13, 37, 38, 8, 9, 10, 11, 12, 39, 40, 41, 42, 43, 44, 45, 2, 46, 47, 48, 49, 50, 51, 52, 53, 54, 55, 56, 57, 58, 59, 60, 61, 62, 63, 64, 65, 66, 67, 68, 69, 70, 71, 72, 73, 74, 75, 76, 85, 86, 87, 88, 89, 90, 91, 92, 93, 94, 95, 96, 97, 98, 99, 100, 101, 102, 103, 104, 105, 106, 107, 108, 109, 110, 111, 112, 113, 114, 115, 116, 117, 118, 119, 120, 121, 122, 123, 124, 125, 126, 127, 128, 129, 130, 131, 132, 133, 134, 135, 136, 137, 138, 139, 140, 141, 142, 143, 144, 145, 146, 147, 148, 149, 150, 151, 152, 153, 154, 155, 156, 157, 158] (by decide +kernel) (by decide +kernel)
set_option maxRecDepth 20000 in
theorem gX12_income_X12_dayNow : GoodIn wsX12_income (wsV RX12 412 RX12 yX12_dayNow wsX12_dayNow) := goodIn_app (goodIn_of _ (by decide +kernel)) ggX12_income_X12_dayNow
set_option maxRecDepth 20000 in
theorem ggX12_income_X12_incomeOf : GoodIn wsX12_income wsX12_incomeOf := goodIn_r _ [80, 1, 81, 82, 83, 6, 84, 2, 8, 9, 10, 11, 12, 13, 85, 86, 87, 88, 89, 90, 91, 92, 93, 94, 95, 96, 97, 98, 99, 100, 101, 102, 103, 104, 105, 106, 107, 108, 109, 110, 111, 112, 113, 114, 115, 116, 117, 118, 119, 120, 121, 122, 123, 124, 125, 126, 127, 128, 129, 130, 131, 132, 133, 134, 135, 136, 137, 138, 139, 140, 141, 142, 143, 144, 145, 146, 147, 148, 149, 150, 151, 152, 153, 154, 155, 156, 157, 158] (by decide +kernel) (by decide +kernel)
set_option maxRecDepth 20000 in
theorem gX12_income_X12_incomeOf : GoodIn wsX12_income (wsV RX12 421 RX12 yX12_incomeOf wsX12_incomeOf) := goodIn_app (goodIn_of _ (by decide +kernel)) ggX12_income_X12_incomeOf
theorem dX12_income_0 : decode cX12_income 0 = .ok (.iload_n 1, 1) := by decide +kernel
theorem dX12_income_1 : decode cX12_income 1 = .ok (.iconst (-1), 1) := by decide +kernel
theorem dX12_income_2 : decode cX12_income 2 = .ok (.if_icmp .eq 14, 3) := by decide +kernel
theorem dX12_income_5 : decode cX12_income 5 = .ok (.aload_n 0, 1) := by decide +kernel
theorem dX12_income_6 : decode cX12_income 6 = .ok (.iload_n 1, 1) := by decide +kernel
theorem dX12_income_7 : decode cX12_income 7 = .ok (.invokevirtual 415, 3) := by decide +kernel
theorem dX12_income_10 : decode cX12_income 10 = .ok (.ifCond .ne 6, 3) := by decide +kernel
theorem dX12_income_13 : decode cX12_income 13 = .ok (.bipush (-2), 2) := by decide +kernel
theorem dX12_income_15 : decode cX12_income 15 = .ok (.ireturn, 1) := by decide +kernel
theorem dX12_income_16 : decode cX12_income 16 = .ok (.aload_n 0, 1) := by decide +kernel
theorem dX12_income_17 : decode cX12_income 17 = .ok (.invokevirtual 412, 3) := by decide +kernel
theorem dX12_income_20 : decode cX12_income 20 = .ok (.iload_n 1, 1) := by decide +kernel
theorem dX12_income_21 : decode cX12_income 21 = .ok (.iconst (-1), 1) := by decide +kernel
theorem dX12_income_22 : decode cX12_income 22 = .ok (.if_icmp .ne 8, 3) := by decide +kernel
theorem dX12_income_25 : decode cX12_income 25 = .ok (.aload_n 0, 1) := by decide +kernel
theorem dX12_income_26 : decode cX12_income 26 = .ok (.invokevirtual 421, 3) := by decide +kernel
theorem dX12_income_29 : decode cX12_income 29 = .ok (.ireturn, 1) := by decide +kernel
theorem dX12_income_30 : decode cX12_income 30 = .ok (.iconst 0, 1) := by decide +kernel
theorem dX12_income_31 : decode cX12_income 31 = .ok (.istore_n 2, 1) := by decide +kernel
theorem dX12_income_32 : decode cX12_income 32 = .ok (.iconst 0, 1) := by decide +kernel
theorem dX12_income_33 : decode cX12_income 33 = .ok (.istore_n 3, 1) := by decide +kernel
theorem dX12_income_34 : decode cX12_income 34 = .ok (.iload_n 3, 1) := by decide +kernel
theorem dX12_income_35 : decode cX12_income 35 = .ok (.aload_n 0, 1) := by decide +kernel
theorem dX12_income_36 : decode cX12_income 36 = .ok (.getfield 379, 3) := by decide +kernel
theorem dX12_income_39 : decode cX12_income 39 = .ok (.if_icmp .ge 22, 3) := by decide +kernel
theorem dX12_income_42 : decode cX12_income 42 = .ok (.iload_n 2, 1) := by decide +kernel
theorem dX12_income_43 : decode cX12_income 43 = .ok (.aload_n 0, 1) := by decide +kernel
theorem dX12_income_44 : decode cX12_income 44 = .ok (.getfield 119, 3) := by decide +kernel
theorem dX12_income_47 : decode cX12_income 47 = .ok (.iconst 4, 1) := by decide +kernel
theorem dX12_income_48 : decode cX12_income 48 = .ok (.iload_n 3, 1) := by decide +kernel
theorem dX12_income_49 : decode cX12_income 49 = .ok (.imul, 1) := by decide +kernel
theorem dX12_income_50 : decode cX12_income 50 = .ok (.iload_n 1, 1) := by decide +kernel
theorem dX12_income_51 : decode cX12_income 51 = .ok (.iadd, 1) := by decide +kernel
theorem dX12_income_52 : decode cX12_income 52 = .ok (.iaload, 1) := by decide +kernel
theorem dX12_income_53 : decode cX12_income 53 = .ok (.iadd, 1) := by decide +kernel
theorem dX12_income_54 : decode cX12_income 54 = .ok (.istore_n 2, 1) := by decide +kernel
theorem dX12_income_55 : decode cX12_income 55 = .ok (.iinc 3 1, 3) := by decide +kernel
theorem dX12_income_58 : decode cX12_income 58 = .ok (.goto (-24), 3) := by decide +kernel
theorem dX12_income_61 : decode cX12_income 61 = .ok (.iload_n 2, 1) := by decide +kernel
theorem dX12_income_62 : decode cX12_income 62 = .ok (.ireturn, 1) := by decide +kernel
theorem dX12_keepAct_0 : decode cX12_keepAct 0 = .ok (.aload_n 0, 1) := by decide +kernel
theorem dX12_keepAct_1 : decode cX12_keepAct 1 = .ok (.getfield 373, 3) := by decide +kernel
theorem dX12_keepAct_4 : decode cX12_keepAct 4 = .ok (.bipush 40, 2) := by decide +kernel
theorem dX12_keepAct_6 : decode cX12_keepAct 6 = .ok (.if_icmp .ne 43, 3) := by decide +kernel
theorem dX12_keepAct_9 : decode cX12_keepAct 9 = .ok (.iconst 0, 1) := by decide +kernel
theorem dX12_keepAct_10 : decode cX12_keepAct 10 = .ok (.istore_n 1, 1) := by decide +kernel
theorem dX12_keepAct_11 : decode cX12_keepAct 11 = .ok (.iload_n 1, 1) := by decide +kernel
theorem dX12_keepAct_12 : decode cX12_keepAct 12 = .ok (.sipush 3200, 3) := by decide +kernel
theorem dX12_keepAct_15 : decode cX12_keepAct 15 = .ok (.if_icmp .ge 24, 3) := by decide +kernel
theorem dX12_keepAct_18 : decode cX12_keepAct 18 = .ok (.aload_n 0, 1) := by decide +kernel
theorem dX12_keepAct_19 : decode cX12_keepAct 19 = .ok (.getfield 143, 3) := by decide +kernel
theorem dX12_keepAct_22 : decode cX12_keepAct 22 = .ok (.iload_n 1, 1) := by decide +kernel
theorem dX12_keepAct_23 : decode cX12_keepAct 23 = .ok (.aload_n 0, 1) := by decide +kernel
theorem dX12_keepAct_24 : decode cX12_keepAct 24 = .ok (.getfield 143, 3) := by decide +kernel
theorem dX12_keepAct_27 : decode cX12_keepAct 27 = .ok (.iload_n 1, 1) := by decide +kernel
theorem dX12_keepAct_28 : decode cX12_keepAct 28 = .ok (.bipush 80, 2) := by decide +kernel
theorem dX12_keepAct_30 : decode cX12_keepAct 30 = .ok (.iadd, 1) := by decide +kernel
theorem dX12_keepAct_31 : decode cX12_keepAct 31 = .ok (.iaload, 1) := by decide +kernel
theorem dX12_keepAct_32 : decode cX12_keepAct 32 = .ok (.iastore, 1) := by decide +kernel
theorem dX12_keepAct_33 : decode cX12_keepAct 33 = .ok (.iinc 1 1, 3) := by decide +kernel
theorem dX12_keepAct_36 : decode cX12_keepAct 36 = .ok (.goto (-25), 3) := by decide +kernel
theorem dX12_keepAct_39 : decode cX12_keepAct 39 = .ok (.aload_n 0, 1) := by decide +kernel
theorem dX12_keepAct_40 : decode cX12_keepAct 40 = .ok (.dup, 1) := by decide +kernel
theorem dX12_keepAct_41 : decode cX12_keepAct 41 = .ok (.getfield 373, 3) := by decide +kernel
theorem dX12_keepAct_44 : decode cX12_keepAct 44 = .ok (.iconst 1, 1) := by decide +kernel
theorem dX12_keepAct_45 : decode cX12_keepAct 45 = .ok (.isub, 1) := by decide +kernel
theorem dX12_keepAct_46 : decode cX12_keepAct 46 = .ok (.putfield 373, 3) := by decide +kernel
theorem dX12_keepAct_49 : decode cX12_keepAct 49 = .ok (.iconst 0, 1) := by decide +kernel
theorem dX12_keepAct_50 : decode cX12_keepAct 50 = .ok (.istore_n 1, 1) := by decide +kernel
theorem dX12_keepAct_51 : decode cX12_keepAct 51 = .ok (.iload_n 1, 1) := by decide +kernel
theorem dX12_keepAct_52 : decode cX12_keepAct 52 = .ok (.bipush 80, 2) := by decide +kernel
theorem dX12_keepAct_54 : decode cX12_keepAct 54 = .ok (.if_icmp .ge 29, 3) := by decide +kernel
theorem dX12_keepAct_57 : decode cX12_keepAct 57 = .ok (.aload_n 0, 1) := by decide +kernel
theorem dX12_keepAct_58 : decode cX12_keepAct 58 = .ok (.getfield 143, 3) := by decide +kernel
theorem dX12_keepAct_61 : decode cX12_keepAct 61 = .ok (.bipush 80, 2) := by decide +kernel
theorem dX12_keepAct_63 : decode cX12_keepAct 63 = .ok (.aload_n 0, 1) := by decide +kernel
theorem dX12_keepAct_64 : decode cX12_keepAct 64 = .ok (.getfield 373, 3) := by decide +kernel
theorem dX12_keepAct_67 : decode cX12_keepAct 67 = .ok (.imul, 1) := by decide +kernel
theorem dX12_keepAct_68 : decode cX12_keepAct 68 = .ok (.iload_n 1, 1) := by decide +kernel
theorem dX12_keepAct_69 : decode cX12_keepAct 69 = .ok (.iadd, 1) := by decide +kernel
theorem dX12_keepAct_70 : decode cX12_keepAct 70 = .ok (.aload_n 0, 1) := by decide +kernel
theorem dX12_keepAct_71 : decode cX12_keepAct 71 = .ok (.getfield 98, 3) := by decide +kernel
theorem dX12_keepAct_74 : decode cX12_keepAct 74 = .ok (.iload_n 1, 1) := by decide +kernel
theorem dX12_keepAct_75 : decode cX12_keepAct 75 = .ok (.iaload, 1) := by decide +kernel
theorem dX12_keepAct_76 : decode cX12_keepAct 76 = .ok (.iastore, 1) := by decide +kernel
theorem dX12_keepAct_77 : decode cX12_keepAct 77 = .ok (.iinc 1 1, 3) := by decide +kernel
theorem dX12_keepAct_80 : decode cX12_keepAct 80 = .ok (.goto (-29), 3) := by decide +kernel
theorem dX12_keepAct_83 : decode cX12_keepAct 83 = .ok (.aload_n 0, 1) := by decide +kernel
theorem dX12_keepAct_84 : decode cX12_keepAct 84 = .ok (.dup, 1) := by decide +kernel
theorem dX12_keepAct_85 : decode cX12_keepAct 85 = .ok (.getfield 373, 3) := by decide +kernel
theorem dX12_keepAct_88 : decode cX12_keepAct 88 = .ok (.iconst 1, 1) := by decide +kernel
theorem dX12_keepAct_89 : decode cX12_keepAct 89 = .ok (.iadd, 1) := by decide +kernel
theorem dX12_keepAct_90 : decode cX12_keepAct 90 = .ok (.putfield 373, 3) := by decide +kernel
theorem dX12_keepAct_93 : decode cX12_keepAct 93 = .ok (.aload_n 0, 1) := by decide +kernel
theorem dX12_keepAct_94 : decode cX12_keepAct 94 = .ok (.iconst 0, 1) := by decide +kernel
theorem dX12_keepAct_95 : decode cX12_keepAct 95 = .ok (.putfield 376, 3) := by decide +kernel
theorem dX12_keepAct_98 : decode cX12_keepAct 98 = .ok (.return_, 1) := by decide +kernel
set_option maxRecDepth 20000 in
theorem ggX12_come_X12_isIn : GoodIn wsX12_come wsX12_isIn := goodIn_r _ [5] (by decide +kernel) (by decide +kernel)
set_option maxRecDepth 20000 in
theorem gX12_come_X12_isIn : GoodIn wsX12_come (va_wsS RX12 366 yX12_isIn wsX12_isIn) := goodIn_app (goodIn_of _ (by decide +kernel)) ggX12_come_X12_isIn
set_option maxRecDepth 20000 in
theorem ggX12_come_X12_keepAct : GoodIn wsX12_come wsX12_keepAct := goodIn_r _ [9, 10, 11, 1, 12, 13, 14, 15, 16, 17, 18, 19, 20, 21, 22, 23, 24, 25, 26, 27, 28, 29, 30, 31, 32, 33, 34, 35, 36, 37, 38, 39, 40, 41, 42, 43, 44, 45, 46, 47, 48, 49, 50, 51, 52, 53, 54, 55, 56, 57, 58, 59, 60, 61, 62, 63, 64, 65, 66, 67, 68, 69, 70, 71, 72, 73, 74, 75, 76, 77, 78, 79, 80, 81, 82, 83, 84, 85, 86] (by decide +kernel) (by decide +kernel)
set_option maxRecDepth 20000 in
theorem gX12_come_X12_keepAct : GoodIn wsX12_come (wsV RX12 424 RX12 yX12_keepAct wsX12_keepAct) := goodIn_app (goodIn_of _ (by decide +kernel)) ggX12_come_X12_keepAct
theorem dX12_come_0 : decode cX12_come 0 = .ok (.iload_n 1, 1) := by decide +kernel
theorem dX12_come_1 : decode cX12_come 1 = .ok (.iconst 0, 1) := by decide +kernel
theorem dX12_come_2 : decode cX12_come 2 = .ok (.sipush 600, 3) := by decide +kernel
theorem dX12_come_5 : decode cX12_come 5 = .ok (.invokestatic 366, 3) := by decide +kernel
theorem dX12_come_8 : decode cX12_come 8 = .ok (.ifCond .eq 24, 3) := by decide +kernel
theorem dX12_come_11 : decode cX12_come 11 = .ok (.iload_n 2, 1) := by decide +kernel
theorem dX12_come_12 : decode cX12_come 12 = .ok (.iconst 1, 1) := by decide +kernel
theorem dX12_come_13 : decode cX12_come 13 = .ok (.bipush 99, 2) := by decide +kernel
theorem dX12_come_15 : decode cX12_come 15 = .ok (.invokestatic 366, 3) := by decide +kernel
theorem dX12_come_18 : decode cX12_come 18 = .ok (.ifCond .eq 14, 3) := by decide +kernel
theorem dX12_come_21 : decode cX12_come 21 = .ok (.aload_n 0, 1) := by decide +kernel
theorem dX12_come_22 : decode cX12_come 22 = .ok (.getfield 98, 3) := by decide +kernel
theorem dX12_come_25 : decode cX12_come 25 = .ok (.iconst 0, 1) := by decide +kernel
theorem dX12_come_26 : decode cX12_come 26 = .ok (.iaload, 1) := by decide +kernel
theorem dX12_come_27 : decode cX12_come 27 = .ok (.bipush 24, 2) := by decide +kernel
theorem dX12_come_29 : decode cX12_come 29 = .ok (.if_icmp .ne 5, 3) := by decide +kernel
theorem dX12_come_32 : decode cX12_come 32 = .ok (.iconst (-1), 1) := by decide +kernel
theorem dX12_come_33 : decode cX12_come 33 = .ok (.ireturn, 1) := by decide +kernel
theorem dX12_come_34 : decode cX12_come 34 = .ok (.aload_n 0, 1) := by decide +kernel
theorem dX12_come_35 : decode cX12_come 35 = .ok (.invokevirtual 424, 3) := by decide +kernel
theorem dX12_come_38 : decode cX12_come 38 = .ok (.aload_n 0, 1) := by decide +kernel
theorem dX12_come_39 : decode cX12_come 39 = .ok (.getfield 98, 3) := by decide +kernel
theorem dX12_come_42 : decode cX12_come 42 = .ok (.iconst 0, 1) := by decide +kernel
theorem dX12_come_43 : decode cX12_come 43 = .ok (.iaload, 1) := by decide +kernel
theorem dX12_come_44 : decode cX12_come 44 = .ok (.istore_n 3, 1) := by decide +kernel
theorem dX12_come_45 : decode cX12_come 45 = .ok (.aload_n 0, 1) := by decide +kernel
theorem dX12_come_46 : decode cX12_come 46 = .ok (.getfield 98, 3) := by decide +kernel
theorem dX12_come_49 : decode cX12_come 49 = .ok (.iconst 1, 1) := by decide +kernel
theorem dX12_come_50 : decode cX12_come 50 = .ok (.iload_n 3, 1) := by decide +kernel
theorem dX12_come_51 : decode cX12_come 51 = .ok (.iadd, 1) := by decide +kernel
theorem dX12_come_52 : decode cX12_come 52 = .ok (.iload_n 1, 1) := by decide +kernel
theorem dX12_come_53 : decode cX12_come 53 = .ok (.iastore, 1) := by decide +kernel
theorem dX12_come_54 : decode cX12_come 54 = .ok (.aload_n 0, 1) := by decide +kernel
theorem dX12_come_55 : decode cX12_come 55 = .ok (.getfield 98, 3) := by decide +kernel
theorem dX12_come_58 : decode cX12_come 58 = .ok (.bipush 25, 2) := by decide +kernel
theorem dX12_come_60 : decode cX12_come 60 = .ok (.iload_n 3, 1) := by decide +kernel
theorem dX12_come_61 : decode cX12_come 61 = .ok (.iadd, 1) := by decide +kernel
theorem dX12_come_62 : decode cX12_come 62 = .ok (.iload_n 2, 1) := by decide +kernel
theorem dX12_come_63 : decode cX12_come 63 = .ok (.iastore, 1) := by decide +kernel
theorem dX12_come_64 : decode cX12_come 64 = .ok (.aload_n 0, 1) := by decide +kernel
theorem dX12_come_65 : decode cX12_come 65 = .ok (.getfield 98, 3) := by decide +kernel
theorem dX12_come_68 : decode cX12_come 68 = .ok (.bipush 49, 2) := by decide +kernel
theorem dX12_come_70 : decode cX12_come 70 = .ok (.iload_n 3, 1) := by decide +kernel
theorem dX12_come_71 : decode cX12_come 71 = .ok (.iadd, 1) := by decide +kernel
theorem dX12_come_72 : decode cX12_come 72 = .ok (.iconst 1, 1) := by decide +kernel
theorem dX12_come_73 : decode cX12_come 73 = .ok (.iastore, 1) := by decide +kernel
theorem dX12_come_74 : decode cX12_come 74 = .ok (.aload_n 0, 1) := by decide +kernel
theorem dX12_come_75 : decode cX12_come 75 = .ok (.getfield 98, 3) := by decide +kernel
theorem dX12_come_78 : decode cX12_come 78 = .ok (.iconst 0, 1) := by decide +kernel
theorem dX12_come_79 : decode cX12_come 79 = .ok (.dup2, 1) := by decide +kernel
theorem dX12_come_80 : decode cX12_come 80 = .ok (.iaload, 1) := by decide +kernel
theorem dX12_come_81 : decode cX12_come 81 = .ok (.iconst 1, 1) := by decide +kernel
theorem dX12_come_82 : decode cX12_come 82 = .ok (.iadd, 1) := by decide +kernel
theorem dX12_come_83 : decode cX12_come 83 = .ok (.iastore, 1) := by decide +kernel
theorem dX12_come_84 : decode cX12_come 84 = .ok (.iload_n 3, 1) := by decide +kernel
theorem dX12_come_85 : decode cX12_come 85 = .ok (.ireturn, 1) := by decide +kernel
set_option maxRecDepth 20000 in
theorem ggX12_doubt_X12_isCart : GoodIn wsX12_doubt wsX12_isCart := goodIn_r _ [6, 1, 7, 8, 5, 9, 24, 25, 26, 27, 28, 29, 30, 31, 32, 33, 34, 35, 36, 37, 38, 39, 40, 41, 42, 43, 44, 45, 46, 47, 48, 49, 50, 51, 52, 53, 54, 55, 56, 57, 58, 59, 60, 61, 62, 63, 64, 65, 66, 67, 68, 69, 70, 71, 72, 73, 74, 75, 76, 77, 78, 79, 80, 81, 82, 83, 84, 85, 86, 87, 88, 89, 90, 91, 92, 93, 94, 95, 96, 97] (by decide +kernel) (by decide +kernel)
set_option maxRecDepth 20000 in
theorem gX12_doubt_X12_isCart : GoodIn wsX12_doubt (wsV RX12 406 RX12 yX12_isCart wsX12_isCart) := goodIn_app (goodIn_of _ (by decide +kernel)) ggX12_doubt_X12_isCart
set_option maxRecDepth 20000 in
theorem ggX12_doubt_X12_isMaybeOne : GoodIn wsX12_doubt wsX12_isMaybeOne := goodIn_r _ [13, 14, 15, 16, 24, 25, 26, 27, 28, 29, 30, 31, 32, 33, 34, 35, 36, 37, 38, 39, 40, 41, 42, 43, 44, 45, 46, 47, 48, 49, 50, 51, 52, 53, 54, 55, 56, 57, 58, 59, 60, 61, 62, 63, 64, 65, 66, 67, 68, 69, 70, 71, 72, 73, 74, 75, 76, 77, 78, 79, 80, 81, 82, 83, 84, 85, 86, 87, 88, 89, 90, 91, 92, 93, 94, 95, 96, 97] (by decide +kernel) (by decide +kernel)
set_option maxRecDepth 20000 in
theorem gX12_doubt_X12_isMaybeOne : GoodIn wsX12_doubt (wsV RX12 409 RX12 yX12_isMaybeOne wsX12_isMaybeOne) := goodIn_app (goodIn_of _ (by decide +kernel)) ggX12_doubt_X12_isMaybeOne
set_option maxRecDepth 20000 in
theorem ggX12_doubt_X12_keepAct : GoodIn wsX12_doubt wsX12_keepAct := goodIn_r _ [20, 21, 22, 1, 23, 24, 25, 26, 27, 28, 29, 30, 31, 32, 33, 34, 35, 36, 37, 38, 39, 40, 41, 42, 43, 44, 45, 46, 47, 48, 49, 50, 51, 52, 53, 54, 55, 56, 57, 58, 59, 60, 61, 62, 63, 64, 65, 66, 67, 68, 69, 70, 71, 72, 73, 74, 75, 76, 77, 78, 79, 80, 81, 82, 83, 84, 85, 86, 87, 88, 89, 90, 91, 92, 93, 94, 95, 96, 97] (by decide +kernel) (by decide +kernel)
set_option maxRecDepth 20000 in
theorem gX12_doubt_X12_keepAct : GoodIn wsX12_doubt (wsV RX12 424 RX12 yX12_keepAct wsX12_keepAct) := goodIn_app (goodIn_of _ (by decide +kernel)) ggX12_doubt_X12_keepAct
theorem dX12_doubt_0 : decode cX12_doubt 0 = .ok (.aload_n 0, 1) := by decide +kernel
theorem dX12_doubt_1 : decode cX12_doubt 1 = .ok (.iload_n 1, 1) := by decide +kernel
theorem dX12_doubt_2 : decode cX12_doubt 2 = .ok (.invokevirtual 406, 3) := by decide +kernel
theorem dX12_doubt_5 : decode cX12_doubt 5 = .ok (.ifCond .eq 11, 3) := by decide +kernel
theorem dX12_doubt_8 : decode cX12_doubt 8 = .ok (.aload_n 0, 1) := by decide +kernel
theorem dX12_doubt_9 : decode cX12_doubt 9 = .ok (.iload_n 1, 1) := by decide +kernel
theorem dX12_doubt_10 : decode cX12_doubt 10 = .ok (.invokevirtual 409, 3) := by decide +kernel
theorem dX12_doubt_13 : decode cX12_doubt 13 = .ok (.ifCond .ne 5, 3) := by decide +kernel
theorem dX12_doubt_16 : decode cX12_doubt 16 = .ok (.iconst (-1), 1) := by decide +kernel
theorem dX12_doubt_17 : decode cX12_doubt 17 = .ok (.ireturn, 1) := by decide +kernel
theorem dX12_doubt_18 : decode cX12_doubt 18 = .ok (.aload_n 0, 1) := by decide +kernel
theorem dX12_doubt_19 : decode cX12_doubt 19 = .ok (.invokevirtual 424, 3) := by decide +kernel
theorem dX12_doubt_22 : decode cX12_doubt 22 = .ok (.aload_n 0, 1) := by decide +kernel
theorem dX12_doubt_23 : decode cX12_doubt 23 = .ok (.getfield 98, 3) := by decide +kernel
theorem dX12_doubt_26 : decode cX12_doubt 26 = .ok (.bipush 49, 2) := by decide +kernel
theorem dX12_doubt_28 : decode cX12_doubt 28 = .ok (.iload_n 1, 1) := by decide +kernel
theorem dX12_doubt_29 : decode cX12_doubt 29 = .ok (.iadd, 1) := by decide +kernel
theorem dX12_doubt_30 : decode cX12_doubt 30 = .ok (.iconst 1, 1) := by decide +kernel
theorem dX12_doubt_31 : decode cX12_doubt 31 = .ok (.aload_n 0, 1) := by decide +kernel
theorem dX12_doubt_32 : decode cX12_doubt 32 = .ok (.getfield 98, 3) := by decide +kernel
theorem dX12_doubt_35 : decode cX12_doubt 35 = .ok (.bipush 49, 2) := by decide +kernel
theorem dX12_doubt_37 : decode cX12_doubt 37 = .ok (.iload_n 1, 1) := by decide +kernel
theorem dX12_doubt_38 : decode cX12_doubt 38 = .ok (.iadd, 1) := by decide +kernel
theorem dX12_doubt_39 : decode cX12_doubt 39 = .ok (.iaload, 1) := by decide +kernel
theorem dX12_doubt_40 : decode cX12_doubt 40 = .ok (.isub, 1) := by decide +kernel
theorem dX12_doubt_41 : decode cX12_doubt 41 = .ok (.iastore, 1) := by decide +kernel
theorem dX12_doubt_42 : decode cX12_doubt 42 = .ok (.aload_n 0, 1) := by decide +kernel
theorem dX12_doubt_43 : decode cX12_doubt 43 = .ok (.getfield 98, 3) := by decide +kernel
theorem dX12_doubt_46 : decode cX12_doubt 46 = .ok (.bipush 49, 2) := by decide +kernel
theorem dX12_doubt_48 : decode cX12_doubt 48 = .ok (.iload_n 1, 1) := by decide +kernel
theorem dX12_doubt_49 : decode cX12_doubt 49 = .ok (.iadd, 1) := by decide +kernel
theorem dX12_doubt_50 : decode cX12_doubt 50 = .ok (.iaload, 1) := by decide +kernel
theorem dX12_doubt_51 : decode cX12_doubt 51 = .ok (.ireturn, 1) := by decide +kernel
set_option maxRecDepth 20000 in
theorem ggX12_learn_X12_isBird : GoodIn wsX12_learn wsX12_isBird := goodIn_r _ [6, 7, 8, 9, 5, 10, 11, 12, 13, 14, 15, 23, 24, 25, 26, 27, 28, 29, 30, 31, 32, 33, 34, 35, 36, 37, 38, 39, 40, 41, 42, 43, 44, 45, 46, 47, 48, 49, 50, 51, 52, 53, 54, 55, 56, 57, 58, 59, 60, 61, 62, 63, 64, 65, 66, 67, 68, 69, 70, 71, 72, 73, 74, 75, 76, 77, 78, 79, 80, 81, 82, 83, 84, 85, 86, 87, 88, 89, 90, 91, 92, 93, 94, 95, 96] (by decide +kernel) (by decide +kernel)
set_option maxRecDepth 20000 in
theorem gX12_learn_X12_isBird : GoodIn wsX12_learn (wsV RX12 418 RX12 yX12_isBird wsX12_isBird) := goodIn_app (goodIn_of _ (by decide +kernel)) ggX12_learn_X12_isBird
set_option maxRecDepth 20000 in
theorem ggX12_learn_X12_isIn : GoodIn wsX12_learn wsX12_isIn := goodIn_r _ [15] (by decide +kernel) (by decide +kernel)
set_option maxRecDepth 20000 in
theorem gX12_learn_X12_isIn : GoodIn wsX12_learn (va_wsS RX12 366 yX12_isIn wsX12_isIn) := goodIn_app (goodIn_of _ (by decide +kernel)) ggX12_learn_X12_isIn
set_option maxRecDepth 20000 in
theorem ggX12_learn_X12_keepAct : GoodIn wsX12_learn wsX12_keepAct := goodIn_r _ [19, 20, 21, 1, 22, 23, 24, 25, 26, 27, 28, 29, 30, 31, 32, 33, 34, 35, 36, 37, 38, 39, 40, 41, 42, 43, 44, 45, 46, 47, 48, 49, 50, 51, 52, 53, 54, 55, 56, 57, 58, 59, 60, 61, 62, 63, 64, 65, 66, 67, 68, 69, 70, 71, 72, 73, 74, 75, 76, 77, 78, 79, 80, 81, 82, 83, 84, 85, 86, 87, 88, 89, 90, 91, 92, 93, 94, 95, 96] (by decide +kernel) (by decide +kernel)
set_option maxRecDepth 20000 in
theorem gX12_learn_X12_keepAct : GoodIn wsX12_learn (wsV RX12 424 RX12 yX12_keepAct wsX12_keepAct) := goodIn_app (goodIn_of _ (by decide +kernel)) ggX12_learn_X12_keepAct
theorem dX12_learn_0 : decode cX12_learn 0 = .ok (.aload_n 0, 1) := by decide +kernel
theorem dX12_learn_1 : decode cX12_learn 1 = .ok (.iload_n 1, 1) := by decide +kernel
theorem dX12_learn_2 : decode cX12_learn 2 = .ok (.invokevirtual 418, 3) := by decide +kernel
theorem dX12_learn_5 : decode cX12_learn 5 = .ok (.ifCond .eq 34, 3) := by decide +kernel
theorem dX12_learn_8 : decode cX12_learn 8 = .ok (.iload_n 2, 1) := by decide +kernel
theorem dX12_learn_9 : decode cX12_learn 9 = .ok (.bipush (-19), 2) := by decide +kernel
theorem dX12_learn_11 : decode cX12_learn 11 = .ok (.bipush 19, 2) := by decide +kernel
theorem dX12_learn_13 : decode cX12_learn 13 = .ok (.invokestatic 366, 3) := by decide +kernel
theorem dX12_learn_16 : decode cX12_learn 16 = .ok (.ifCond .eq 23, 3) := by decide +kernel
theorem dX12_learn_19 : decode cX12_learn 19 = .ok (.aload_n 0, 1) := by decide +kernel
theorem dX12_learn_20 : decode cX12_learn 20 = .ok (.getfield 98, 3) := by decide +kernel
theorem dX12_learn_23 : decode cX12_learn 23 = .ok (.bipush 73, 2) := by decide +kernel
theorem dX12_learn_25 : decode cX12_learn 25 = .ok (.iload_n 1, 1) := by decide +kernel
theorem dX12_learn_26 : decode cX12_learn 26 = .ok (.iadd, 1) := by decide +kernel
theorem dX12_learn_27 : decode cX12_learn 27 = .ok (.iaload, 1) := by decide +kernel
theorem dX12_learn_28 : decode cX12_learn 28 = .ok (.iload_n 2, 1) := by decide +kernel
theorem dX12_learn_29 : decode cX12_learn 29 = .ok (.iadd, 1) := by decide +kernel
theorem dX12_learn_30 : decode cX12_learn 30 = .ok (.iconst 1, 1) := by decide +kernel
theorem dX12_learn_31 : decode cX12_learn 31 = .ok (.bipush 20, 2) := by decide +kernel
theorem dX12_learn_33 : decode cX12_learn 33 = .ok (.invokestatic 366, 3) := by decide +kernel
theorem dX12_learn_36 : decode cX12_learn 36 = .ok (.ifCond .ne 5, 3) := by decide +kernel
theorem dX12_learn_39 : decode cX12_learn 39 = .ok (.iconst (-1), 1) := by decide +kernel
theorem dX12_learn_40 : decode cX12_learn 40 = .ok (.ireturn, 1) := by decide +kernel
theorem dX12_learn_41 : decode cX12_learn 41 = .ok (.aload_n 0, 1) := by decide +kernel
theorem dX12_learn_42 : decode cX12_learn 42 = .ok (.invokevirtual 424, 3) := by decide +kernel
theorem dX12_learn_45 : decode cX12_learn 45 = .ok (.aload_n 0, 1) := by decide +kernel
theorem dX12_learn_46 : decode cX12_learn 46 = .ok (.getfield 98, 3) := by decide +kernel
theorem dX12_learn_49 : decode cX12_learn 49 = .ok (.bipush 73, 2) := by decide +kernel
theorem dX12_learn_51 : decode cX12_learn 51 = .ok (.iload_n 1, 1) := by decide +kernel
theorem dX12_learn_52 : decode cX12_learn 52 = .ok (.iadd, 1) := by decide +kernel
theorem dX12_learn_53 : decode cX12_learn 53 = .ok (.dup2, 1) := by decide +kernel
theorem dX12_learn_54 : decode cX12_learn 54 = .ok (.iaload, 1) := by decide +kernel
theorem dX12_learn_55 : decode cX12_learn 55 = .ok (.iload_n 2, 1) := by decide +kernel
theorem dX12_learn_56 : decode cX12_learn 56 = .ok (.iadd, 1) := by decide +kernel
theorem dX12_learn_57 : decode cX12_learn 57 = .ok (.iastore, 1) := by decide +kernel
theorem dX12_learn_58 : decode cX12_learn 58 = .ok (.aload_n 0, 1) := by decide +kernel
theorem dX12_learn_59 : decode cX12_learn 59 = .ok (.getfield 98, 3) := by decide +kernel
theorem dX12_learn_62 : decode cX12_learn 62 = .ok (.bipush 73, 2) := by decide +kernel
theorem dX12_learn_64 : decode cX12_learn 64 = .ok (.iload_n 1, 1) := by decide +kernel
theorem dX12_learn_65 : decode cX12_learn 65 = .ok (.iadd, 1) := by decide +kernel
theorem dX12_learn_66 : decode cX12_learn 66 = .ok (.iaload, 1) := by decide +kernel
theorem dX12_learn_67 : decode cX12_learn 67 = .ok (.ireturn, 1) := by decide +kernel
set_option maxRecDepth 20000 in
theorem ggX12_undo_X12_exchange : GoodIn wsX12_undo wsX12_exchange := goodIn_r _ [7, 8, 1, 9, 10, 11, 12, 13, 14, 15, 16, 17, 18, 19, 20, 21, 22, 23, 24, 25, 26, 27, 28, 29, 30, 31, 32, 33, 34, 35, 36, 37, 38, 39, 40, 41, 42, 43, 44, 45, 46, 47, 48, 49, 50, 51, 52, 53, 54, 55, 56, 57, 58, 59, 60, 61, 62, 63, 64, 65, 66, 67, 68, 69, 70, 71, 72, 73, 74, 75, 76, 77, 78, 79, 80, 81, 82, 83] (by decide +kernel) (by decide +kernel)
set_option maxRecDepth 20000 in
theorem gX12_undo_X12_exchange : GoodIn wsX12_undo (wsV RX12 427 RX12 yX12_exchange wsX12_exchange) := goodIn_app (goodIn_of _ (by decide +kernel)) ggX12_undo_X12_exchange
theorem dX12_undo_0 : decode cX12_undo 0 = .ok (.aload_n 0, 1) := by decide +kernel
theorem dX12_undo_1 : decode cX12_undo 1 = .ok (.getfield 373, 3) := by decide +kernel
theorem dX12_undo_4 : decode cX12_undo 4 = .ok (.ifCond .ne 5, 3) := by decide +kernel
theorem dX12_undo_7 : decode cX12_undo 7 = .ok (.iconst 0, 1) := by decide +kernel
theorem dX12_undo_8 : decode cX12_undo 8 = .ok (.ireturn, 1) := by decide +kernel
theorem dX12_undo_9 : decode cX12_undo 9 = .ok (.aload_n 0, 1) := by decide +kernel
theorem dX12_undo_10 : decode cX12_undo 10 = .ok (.dup, 1) := by decide +kernel
theorem dX12_undo_11 : decode cX12_undo 11 = .ok (.getfield 373, 3) := by decide +kernel
theorem dX12_undo_14 : decode cX12_undo 14 = .ok (.iconst 1, 1) := by decide +kernel
theorem dX12_undo_15 : decode cX12_undo 15 = .ok (.isub, 1) := by decide +kernel
theorem dX12_undo_16 : decode cX12_undo 16 = .ok (.putfield 373, 3) := by decide +kernel
theorem dX12_undo_19 : decode cX12_undo 19 = .ok (.aload_n 0, 1) := by decide +kernel
theorem dX12_undo_20 : decode cX12_undo 20 = .ok (.dup, 1) := by decide +kernel
theorem dX12_undo_21 : decode cX12_undo 21 = .ok (.getfield 376, 3) := by decide +kernel
theorem dX12_undo_24 : decode cX12_undo 24 = .ok (.iconst 1, 1) := by decide +kernel
theorem dX12_undo_25 : decode cX12_undo 25 = .ok (.iadd, 1) := by decide +kernel
theorem dX12_undo_26 : decode cX12_undo 26 = .ok (.putfield 376, 3) := by decide +kernel
theorem dX12_undo_29 : decode cX12_undo 29 = .ok (.aload_n 0, 1) := by decide +kernel
theorem dX12_undo_30 : decode cX12_undo 30 = .ok (.invokevirtual 427, 3) := by decide +kernel
theorem dX12_undo_33 : decode cX12_undo 33 = .ok (.iconst 1, 1) := by decide +kernel
theorem dX12_undo_34 : decode cX12_undo 34 = .ok (.ireturn, 1) := by decide +kernel
set_option maxRecDepth 20000 in
theorem ggX12_redo_X12_exchange : GoodIn wsX12_redo wsX12_exchange := goodIn_r _ [7, 8, 2, 9, 10, 11, 12, 13, 14, 15, 16, 17, 18, 19, 20, 21, 22, 23, 24, 25, 26, 27, 28, 29, 30, 31, 32, 33, 34, 35, 36, 37, 38, 39, 40, 41, 42, 43, 44, 45, 46, 47, 48, 49, 50, 51, 52, 53, 54, 55, 56, 57, 58, 59, 60, 61, 62, 63, 64, 65, 66, 67, 68, 69, 70, 71, 72, 73, 74, 75, 76, 77, 78, 79, 80, 81, 82, 83] (by decide +kernel) (by decide +kernel)
set_option maxRecDepth 20000 in
theorem gX12_redo_X12_exchange : GoodIn wsX12_redo (wsV RX12 427 RX12 yX12_exchange wsX12_exchange) := goodIn_app (goodIn_of _ (by decide +kernel)) ggX12_redo_X12_exchange
theorem dX12_redo_0 : decode cX12_redo 0 = .ok (.aload_n 0, 1) := by decide +kernel
theorem dX12_redo_1 : decode cX12_redo 1 = .ok (.getfield 376, 3) := by decide +kernel
theorem dX12_redo_4 : decode cX12_redo 4 = .ok (.ifCond .ne 5, 3) := by decide +kernel
theorem dX12_redo_7 : decode cX12_redo 7 = .ok (.iconst 0, 1) := by decide +kernel
theorem dX12_redo_8 : decode cX12_redo 8 = .ok (.ireturn, 1) := by decide +kernel
theorem dX12_redo_9 : decode cX12_redo 9 = .ok (.aload_n 0, 1) := by decide +kernel
theorem dX12_redo_10 : decode cX12_redo 10 = .ok (.invokevirtual 427, 3) := by decide +kernel
theorem dX12_redo_13 : decode cX12_redo 13 = .ok (.aload_n 0, 1) := by decide +kernel
theorem dX12_redo_14 : decode cX12_redo 14 = .ok (.dup, 1) := by decide +kernel
theorem dX12_redo_15 : decode cX12_redo 15 = .ok (.getfield 373, 3) := by decide +kernel
theorem dX12_redo_18 : decode cX12_redo 18 = .ok (.iconst 1, 1) := by decide +kernel
theorem dX12_redo_19 : decode cX12_redo 19 = .ok (.iadd, 1) := by decide +kernel
theorem dX12_redo_20 : decode cX12_redo 20 = .ok (.putfield 373, 3) := by decide +kernel
theorem dX12_redo_23 : decode cX12_redo 23 = .ok (.aload_n 0, 1) := by decide +kernel
theorem dX12_redo_24 : decode cX12_redo 24 = .ok (.dup, 1) := by decide +kernel
theorem dX12_redo_25 : decode cX12_redo 25 = .ok (.getfield 376, 3) := by decide +kernel
theorem dX12_redo_28 : decode cX12_redo 28 = .ok (.iconst 1, 1) := by decide +kernel
theorem dX12_redo_29 : decode cX12_redo 29 = .ok (.isub, 1) := by decide +kernel
theorem dX12_redo_30 : decode cX12_redo 30 = .ok (.putfield 376, 3) := by decide +kernel
theorem dX12_redo_33 : decode cX12_redo 33 = .ok (.iconst 1, 1) := by decide +kernel
theorem dX12_redo_34 : decode cX12_redo 34 = .ok (.ireturn, 1) := by decide +kernel
set_option maxRecDepth 20000 in
theorem ggX12_lies_X12_isIn : GoodIn wsX12_lies wsX12_isIn := goodIn_r _ [6] (by decide +kernel) (by decide +kernel)
set_option maxRecDepth 20000 in
theorem gX12_lies_X12_isIn : GoodIn wsX12_lies (va_wsS RX12 366 yX12_isIn wsX12_isIn) := goodIn_app (goodIn_of _ (by decide +kernel)) ggX12_lies_X12_isIn
theorem dX12_lies_0 : decode cX12_lies 0 = .ok (.iload_n 1, 1) := by decide +kernel
theorem dX12_lies_1 : decode cX12_lies 1 = .ok (.iconst 0, 1) := by decide +kernel
theorem dX12_lies_2 : decode cX12_lies 2 = .ok (.aload_n 0, 1) := by decide +kernel
theorem dX12_lies_3 : decode cX12_lies 3 = .ok (.getfield 295, 3) := by decide +kernel
theorem dX12_lies_6 : decode cX12_lies 6 = .ok (.iconst 1, 1) := by decide +kernel
theorem dX12_lies_7 : decode cX12_lies 7 = .ok (.isub, 1) := by decide +kernel
theorem dX12_lies_8 : decode cX12_lies 8 = .ok (.invokestatic 366, 3) := by decide +kernel
theorem dX12_lies_11 : decode cX12_lies 11 = .ok (.ifCond .eq 12, 3) := by decide +kernel
theorem dX12_lies_14 : decode cX12_lies 14 = .ok (.aload_n 0, 1) := by decide +kernel
theorem dX12_lies_15 : decode cX12_lies 15 = .ok (.getfield 146, 3) := by decide +kernel
theorem dX12_lies_18 : decode cX12_lies 18 = .ok (.iload_n 1, 1) := by decide +kernel
theorem dX12_lies_19 : decode cX12_lies 19 = .ok (.iaload, 1) := by decide +kernel
theorem dX12_lies_20 : decode cX12_lies 20 = .ok (.goto 4, 3) := by decide +kernel
theorem dX12_lies_23 : decode cX12_lies 23 = .ok (.iconst (-1), 1) := by decide +kernel
theorem dX12_lies_24 : decode cX12_lies 24 = .ok (.ireturn, 1) := by decide +kernel
set_option maxRecDepth 20000 in
theorem ggX12_partyPays_X12_layDay : GoodIn wsX12_partyPays wsX12_layDay := goodIn_r _ [6, 7, 1, 8, 9, 10, 11, 12, 13, 14, 15, 5, 16, 17, 18, 19, 20, 21, 22, 23, 24, 25, 26, 74, 75, 76, 77, 78, 79, 80, 81, 82, 83, 84, 85, 86, 87, 88, 89, 90, 91, 92, 93, 94, 95, 96, 97, 98, 99, 100, 101, 102, 103, 104, 105, 106, 107, 108, 109, 110, 111, 112, 113, 114, 115, 116, 117, 118, 119, 120, 121, 122, 123, 124, 125, 126, 127, 128, 129, 130, 131, 132, 133, 134, 135, 136, 137, 138, 139, 140, 141, 142, 143, 144, 145, 146, 147] (by decide +kernel) (by decide +kernel)
set_option maxRecDepth 20000 in
theorem gX12_partyPays_X12_layDay : GoodIn wsX12_partyPays (wsV RX12 400 RX12 yX12_layDay wsX12_layDay) := goodIn_app (goodIn_of _ (by decide +kernel)) ggX12_partyPays_X12_layDay
set_option maxRecDepth 20000 in
theorem ggX12_partyPays_X12_add : GoodIn wsX12_partyPays wsX12_add := goodIn_r _ [30, 9, 1, 10, 11, 74, 75, 76, 77, 78, 79, 80, 81, 82, 83, 84, 85, 86, 87, 88, 89, 90, 91, 92, 93, 94, 95, 96, 97, 98, 99, 100, 101, 102, 103, 104, 105, 106, 107, 108, 109, 110, 111, 112, 113, 114, 115, 116, 117, 118, 119, 120, 121, 122, 123, 124, 125, 126, 127, 128, 129, 130, 131, 132, 133, 134, 135, 136, 137, 138, 139, 140, 141, 142, 143, 144, 145, 146, 147] (by decide +kernel) (by decide +kernel)
set_option maxRecDepth 20000 in
theorem gX12_partyPays_X12_add : GoodIn wsX12_partyPays (wsV RX12 430 RX12 yX12_add wsX12_add) := goodIn_app (goodIn_of _ (by decide +kernel)) ggX12_partyPays_X12_add
set_option maxRecDepth 20000 in
theorem ggX12_partyPays_X12_goesBy : GoodIn wsX12_partyPays wsX12_goesBy := goodIn_r _ [34, 35, 36, 37, 38, 39, 9, 40, 41, 19, 8, 42, 43, 44, 5, 45, 1, 11, 22, 23, 24, 25, 26, 46, 47, 48, 49, 17, 20, 50, 51, 52, 53, 12, 10, 54, 55, 56, 57, 58, 59, 60, 61, 62, 63, 64, 65, 66, 67, 68, 69, 74, 75, 76, 77, 78, 79, 80, 81, 82, 83, 84, 85, 86, 87, 88, 89, 90, 91, 92, 93, 94, 95, 96, 97, 98, 99, 100, 101, 102, 103, 104, 105, 106, 107, 108, 109, 110, 111, 112, 113, 114, 115, 116, 117, 118, 119, 120, 121, 122, 123, 124, 125, 126, 127, 128, 129, 130, 131, 132, 133, 134, 135, 136, 137, 138, 139, 140, 141, 142, 143, 144, 145, 146, 147] (by decide +kernel) (by decide +kernel)
set_option maxRecDepth 20000 in
theorem gX12_partyPays_X12_goesBy : GoodIn wsX12_partyPays (wsV RX12 403 RX12 yX12_goesBy wsX12_goesBy) := goodIn_app (goodIn_of _ (by decide +kernel)) ggX12_partyPays_X12_goesBy
set_option maxRecDepth 20000 in
theorem ggX12_partyPays_X12_paidBy : GoodIn wsX12_partyPays wsX12_paidBy := goodIn_r _ [73, 38, 22, 23, 24, 5, 25, 26, 19, 74, 75, 76, 77, 78, 79, 80, 81, 82, 83, 84, 85, 86, 87, 88, 89, 90, 91, 92, 93, 94, 95, 96, 97, 98, 99, 100, 101, 102, 103, 104, 105, 106, 107, 108, 109, 110, 111, 112, 113, 114, 115, 116, 117, 118, 119, 120, 121, 122, 123, 124, 125, 126, 127, 128, 129, 130, 131, 132, 133, 134, 135, 136, 137, 138, 139, 140, 141, 142, 143, 144, 145, 146, 147] (by decide +kernel) (by decide +kernel)
set_option maxRecDepth 20000 in
theorem gX12_partyPays_X12_paidBy : GoodIn wsX12_partyPays (wsV RX12 397 RX12 yX12_paidBy wsX12_paidBy) := goodIn_app (goodIn_of _ (by decide +kernel)) ggX12_partyPays_X12_paidBy
theorem dX12_partyPays_0 : decode cX12_partyPays 0 = .ok (.aload_n 0, 1) := by decide +kernel
theorem dX12_partyPays_1 : decode cX12_partyPays 1 = .ok (.invokevirtual 400, 3) := by decide +kernel
theorem dX12_partyPays_4 : decode cX12_partyPays 4 = .ok (.aload_n 0, 1) := by decide +kernel
theorem dX12_partyPays_5 : decode cX12_partyPays 5 = .ok (.getfield 379, 3) := by decide +kernel
theorem dX12_partyPays_8 : decode cX12_partyPays 8 = .ok (.istore 8, 2) := by decide +kernel
theorem dX12_partyPays_10 : decode cX12_partyPays 10 = .ok (.aload_n 0, 1) := by decide +kernel
theorem dX12_partyPays_11 : decode cX12_partyPays 11 = .ok (.iload_n 3, 1) := by decide +kernel
theorem dX12_partyPays_12 : decode cX12_partyPays 12 = .ok (.iload 5, 2) := by decide +kernel
theorem dX12_partyPays_14 : decode cX12_partyPays 14 = .ok (.iadd, 1) := by decide +kernel
theorem dX12_partyPays_15 : decode cX12_partyPays 15 = .ok (.iload_n 2, 1) := by decide +kernel
theorem dX12_partyPays_16 : decode cX12_partyPays 16 = .ok (.invokevirtual 430, 3) := by decide +kernel
theorem dX12_partyPays_19 : decode cX12_partyPays 19 = .ok (.iload_n 1, 1) := by decide +kernel
theorem dX12_partyPays_20 : decode cX12_partyPays 20 = .ok (.iconst 1, 1) := by decide +kernel
theorem dX12_partyPays_21 : decode cX12_partyPays 21 = .ok (.if_icmp .le 12, 3) := by decide +kernel
theorem dX12_partyPays_24 : decode cX12_partyPays 24 = .ok (.aload_n 0, 1) := by decide +kernel
theorem dX12_partyPays_25 : decode cX12_partyPays 25 = .ok (.iload_n 3, 1) := by decide +kernel
theorem dX12_partyPays_26 : decode cX12_partyPays 26 = .ok (.iload 6, 2) := by decide +kernel
theorem dX12_partyPays_28 : decode cX12_partyPays 28 = .ok (.iadd, 1) := by decide +kernel
theorem dX12_partyPays_29 : decode cX12_partyPays 29 = .ok (.iload_n 2, 1) := by decide +kernel
theorem dX12_partyPays_30 : decode cX12_partyPays 30 = .ok (.invokevirtual 430, 3) := by decide +kernel
theorem dX12_partyPays_33 : decode cX12_partyPays 33 = .ok (.iload_n 1, 1) := by decide +kernel
theorem dX12_partyPays_34 : decode cX12_partyPays 34 = .ok (.iconst 2, 1) := by decide +kernel
theorem dX12_partyPays_35 : decode cX12_partyPays 35 = .ok (.if_icmp .le 12, 3) := by decide +kernel
theorem dX12_partyPays_38 : decode cX12_partyPays 38 = .ok (.aload_n 0, 1) := by decide +kernel
theorem dX12_partyPays_39 : decode cX12_partyPays 39 = .ok (.iload_n 3, 1) := by decide +kernel
theorem dX12_partyPays_40 : decode cX12_partyPays 40 = .ok (.iload 7, 2) := by decide +kernel
theorem dX12_partyPays_42 : decode cX12_partyPays 42 = .ok (.iadd, 1) := by decide +kernel
theorem dX12_partyPays_43 : decode cX12_partyPays 43 = .ok (.iload_n 2, 1) := by decide +kernel
theorem dX12_partyPays_44 : decode cX12_partyPays 44 = .ok (.invokevirtual 430, 3) := by decide +kernel
theorem dX12_partyPays_47 : decode cX12_partyPays 47 = .ok (.aload_n 0, 1) := by decide +kernel
theorem dX12_partyPays_48 : decode cX12_partyPays 48 = .ok (.invokevirtual 403, 3) := by decide +kernel
theorem dX12_partyPays_51 : decode cX12_partyPays 51 = .ok (.iload 4, 2) := by decide +kernel
theorem dX12_partyPays_53 : decode cX12_partyPays 53 = .ok (.iload 5, 2) := by decide +kernel
theorem dX12_partyPays_55 : decode cX12_partyPays 55 = .ok (.iload_n 1, 1) := by decide +kernel
theorem dX12_partyPays_56 : decode cX12_partyPays 56 = .ok (.iconst 1, 1) := by decide +kernel
theorem dX12_partyPays_57 : decode cX12_partyPays 57 = .ok (.if_icmp .le 8, 3) := by decide +kernel
theorem dX12_partyPays_60 : decode cX12_partyPays 60 = .ok (.iload 6, 2) := by decide +kernel
theorem dX12_partyPays_62 : decode cX12_partyPays 62 = .ok (.goto 4, 3) := by decide +kernel
theorem dX12_partyPays_65 : decode cX12_partyPays 65 = .ok (.iconst 0, 1) := by decide +kernel
theorem dX12_partyPays_66 : decode cX12_partyPays 66 = .ok (.iadd, 1) := by decide +kernel
theorem dX12_partyPays_67 : decode cX12_partyPays 67 = .ok (.iload_n 1, 1) := by decide +kernel
theorem dX12_partyPays_68 : decode cX12_partyPays 68 = .ok (.iconst 2, 1) := by decide +kernel
theorem dX12_partyPays_69 : decode cX12_partyPays 69 = .ok (.if_icmp .le 8, 3) := by decide +kernel
theorem dX12_partyPays_72 : decode cX12_partyPays 72 = .ok (.iload 7, 2) := by decide +kernel
theorem dX12_partyPays_74 : decode cX12_partyPays 74 = .ok (.goto 4, 3) := by decide +kernel
theorem dX12_partyPays_77 : decode cX12_partyPays 77 = .ok (.iconst 0, 1) := by decide +kernel
theorem dX12_partyPays_78 : decode cX12_partyPays 78 = .ok (.iadd, 1) := by decide +kernel
theorem dX12_partyPays_79 : decode cX12_partyPays 79 = .ok (.imul, 1) := by decide +kernel
theorem dX12_partyPays_80 : decode cX12_partyPays 80 = .ok (.istore 9, 2) := by decide +kernel
theorem dX12_partyPays_82 : decode cX12_partyPays 82 = .ok (.iload 8, 2) := by decide +kernel
theorem dX12_partyPays_84 : decode cX12_partyPays 84 = .ok (.istore 10, 2) := by decide +kernel
theorem dX12_partyPays_86 : decode cX12_partyPays 86 = .ok (.iload 10, 2) := by decide +kernel
theorem dX12_partyPays_88 : decode cX12_partyPays 88 = .ok (.aload_n 0, 1) := by decide +kernel
theorem dX12_partyPays_89 : decode cX12_partyPays 89 = .ok (.getfield 379, 3) := by decide +kernel
theorem dX12_partyPays_92 : decode cX12_partyPays 92 = .ok (.if_icmp .ge 20, 3) := by decide +kernel
theorem dX12_partyPays_95 : decode cX12_partyPays 95 = .ok (.iload 9, 2) := by decide +kernel
theorem dX12_partyPays_97 : decode cX12_partyPays 97 = .ok (.aload_n 0, 1) := by decide +kernel
theorem dX12_partyPays_98 : decode cX12_partyPays 98 = .ok (.iload 10, 2) := by decide +kernel
theorem dX12_partyPays_100 : decode cX12_partyPays 100 = .ok (.invokevirtual 397, 3) := by decide +kernel
theorem dX12_partyPays_103 : decode cX12_partyPays 103 = .ok (.iadd, 1) := by decide +kernel
theorem dX12_partyPays_104 : decode cX12_partyPays 104 = .ok (.istore 9, 2) := by decide +kernel
theorem dX12_partyPays_106 : decode cX12_partyPays 106 = .ok (.iinc 10 1, 3) := by decide +kernel
theorem dX12_partyPays_109 : decode cX12_partyPays 109 = .ok (.goto (-23), 3) := by decide +kernel
theorem dX12_partyPays_112 : decode cX12_partyPays 112 = .ok (.iload 9, 2) := by decide +kernel
theorem dX12_partyPays_114 : decode cX12_partyPays 114 = .ok (.ireturn, 1) := by decide +kernel
set_option maxRecDepth 20000 in
theorem ggX12_party_X12_isIn : GoodIn wsX12_party wsX12_isIn := goodIn_r _ [7] (by decide +kernel) (by decide +kernel)
set_option maxRecDepth 20000 in
theorem gX12_party_X12_isIn : GoodIn wsX12_party (va_wsS RX12 366 yX12_isIn wsX12_isIn) := goodIn_app (goodIn_of _ (by decide +kernel)) ggX12_party_X12_isIn
set_option maxRecDepth 20000 in
theorem ggX12_party_X12_partyPays : GoodIn wsX12_party wsX12_partyPays := goodIn_r _ [11, 12, 13, 14, 15, 6, 16, 2, 17, 18, 19, 20, 21, 22, 23, 24, 25, 26, 27, 28, 29, 30, 31, 32, 33, 34, 35, 36, 37, 38, 39, 40, 41, 42, 43, 44, 45, 46, 47, 48, 49, 50, 51, 52, 53, 54, 55, 56, 57, 58, 59, 60, 61, 62, 63, 64, 65, 66, 67, 68, 69, 70, 71, 72, 73, 74, 75, 76, 77, 78, 79, 80, 81, 82, 83, 84, 85, 86, 87, 88, 89, 90, 91, 92, 93, 94, 95, 96, 97, 98, 99, 100, 101, 102, 103, 104, 105, 106, 107, 108, 109, 110, 111, 112, 113, 114, 115, 116, 117, 118, 119, 120, 121, 122, 123, 124, 125, 126, 127, 128, 129, 130, 131, 132, 133, 134, 135, 136, 137, 138, 139, 140, 141, 142, 143, 144, 145, 146, 147, 148, 149, 150, 151, 152, 153, 154, 155, 156] (by decide +kernel) (by decide +kernel)
set_option maxRecDepth 20000 in
theorem gX12_party_X12_partyPays : GoodIn wsX12_party (wsV RX12 433 RX12 yX12_partyPays wsX12_partyPays) := goodIn_app (goodIn_of _ (by decide +kernel)) ggX12_party_X12_partyPays
theorem dX12_party_0 : decode cX12_party 0 = .ok (.aload_n 0, 1) := by decide +kernel
theorem dX12_party_1 : decode cX12_party 1 = .ok (.iconst 0, 1) := by decide +kernel
theorem dX12_party_2 : decode cX12_party 2 = .ok (.putfield 295, 3) := by decide +kernel
theorem dX12_party_5 : decode cX12_party 5 = .ok (.iload_n 1, 1) := by decide +kernel
theorem dX12_party_6 : decode cX12_party 6 = .ok (.iconst 1, 1) := by decide +kernel
theorem dX12_party_7 : decode cX12_party 7 = .ok (.iconst 3, 1) := by decide +kernel
theorem dX12_party_8 : decode cX12_party 8 = .ok (.invokestatic 366, 3) := by decide +kernel
theorem dX12_party_11 : decode cX12_party 11 = .ok (.ifCond .eq 59, 3) := by decide +kernel
theorem dX12_party_14 : decode cX12_party 14 = .ok (.iload_n 2, 1) := by decide +kernel
theorem dX12_party_15 : decode cX12_party 15 = .ok (.iconst 1, 1) := by decide +kernel
theorem dX12_party_16 : decode cX12_party 16 = .ok (.bipush 99, 2) := by decide +kernel
theorem dX12_party_18 : decode cX12_party 18 = .ok (.invokestatic 366, 3) := by decide +kernel
theorem dX12_party_21 : decode cX12_party 21 = .ok (.ifCond .eq 49, 3) := by decide +kernel
theorem dX12_party_24 : decode cX12_party 24 = .ok (.iload_n 3, 1) := by decide +kernel
theorem dX12_party_25 : decode cX12_party 25 = .ok (.iconst 0, 1) := by decide +kernel
theorem dX12_party_26 : decode cX12_party 26 = .ok (.sipush 600, 3) := by decide +kernel
theorem dX12_party_29 : decode cX12_party 29 = .ok (.invokestatic 366, 3) := by decide +kernel
theorem dX12_party_32 : decode cX12_party 32 = .ok (.ifCond .eq 38, 3) := by decide +kernel
theorem dX12_party_35 : decode cX12_party 35 = .ok (.iload 4, 2) := by decide +kernel
theorem dX12_party_37 : decode cX12_party 37 = .ok (.iconst 0, 1) := by decide +kernel
theorem dX12_party_38 : decode cX12_party 38 = .ok (.bipush 20, 2) := by decide +kernel
theorem dX12_party_40 : decode cX12_party 40 = .ok (.invokestatic 366, 3) := by decide +kernel
theorem dX12_party_43 : decode cX12_party 43 = .ok (.ifCond .eq 27, 3) := by decide +kernel
theorem dX12_party_46 : decode cX12_party 46 = .ok (.iload 5, 2) := by decide +kernel
theorem dX12_party_48 : decode cX12_party 48 = .ok (.iconst 0, 1) := by decide +kernel
theorem dX12_party_49 : decode cX12_party 49 = .ok (.bipush 99, 2) := by decide +kernel
theorem dX12_party_51 : decode cX12_party 51 = .ok (.invokestatic 366, 3) := by decide +kernel
theorem dX12_party_54 : decode cX12_party 54 = .ok (.ifCond .eq 16, 3) := by decide +kernel
theorem dX12_party_57 : decode cX12_party 57 = .ok (.aload_n 0, 1) := by decide +kernel
theorem dX12_party_58 : decode cX12_party 58 = .ok (.getfield 98, 3) := by decide +kernel
theorem dX12_party_61 : decode cX12_party 61 = .ok (.iconst 0, 1) := by decide +kernel
theorem dX12_party_62 : decode cX12_party 62 = .ok (.iaload, 1) := by decide +kernel
theorem dX12_party_63 : decode cX12_party 63 = .ok (.iload_n 1, 1) := by decide +kernel
theorem dX12_party_64 : decode cX12_party 64 = .ok (.iadd, 1) := by decide +kernel
theorem dX12_party_65 : decode cX12_party 65 = .ok (.bipush 24, 2) := by decide +kernel
theorem dX12_party_67 : decode cX12_party 67 = .ok (.if_icmp .le 5, 3) := by decide +kernel
theorem dX12_party_70 : decode cX12_party 70 = .ok (.iconst (-1), 1) := by decide +kernel
theorem dX12_party_71 : decode cX12_party 71 = .ok (.ireturn, 1) := by decide +kernel
theorem dX12_party_72 : decode cX12_party 72 = .ok (.iconst (-1), 1) := by decide +kernel
theorem dX12_party_73 : decode cX12_party 73 = .ok (.istore 6, 2) := by decide +kernel
theorem dX12_party_75 : decode cX12_party 75 = .ok (.iconst 0, 1) := by decide +kernel
theorem dX12_party_76 : decode cX12_party 76 = .ok (.istore 7, 2) := by decide +kernel
theorem dX12_party_78 : decode cX12_party 78 = .ok (.iload 7, 2) := by decide +kernel
theorem dX12_party_80 : decode cX12_party 80 = .ok (.iload 4, 2) := by decide +kernel
theorem dX12_party_82 : decode cX12_party 82 = .ok (.if_icmp .gt 123, 3) := by decide +kernel
theorem dX12_party_85 : decode cX12_party 85 = .ok (.iload 7, 2) := by decide +kernel
theorem dX12_party_87 : decode cX12_party 87 = .ok (.istore 8, 2) := by decide +kernel
theorem dX12_party_89 : decode cX12_party 89 = .ok (.iload 8, 2) := by decide +kernel
theorem dX12_party_91 : decode cX12_party 91 = .ok (.iload_n 1, 1) := by decide +kernel
theorem dX12_party_92 : decode cX12_party 92 = .ok (.iconst 1, 1) := by decide +kernel
theorem dX12_party_93 : decode cX12_party 93 = .ok (.if_icmp .le 8, 3) := by decide +kernel
theorem dX12_party_96 : decode cX12_party 96 = .ok (.iload 4, 2) := by decide +kernel
theorem dX12_party_98 : decode cX12_party 98 = .ok (.goto 5, 3) := by decide +kernel
theorem dX12_party_101 : decode cX12_party 101 = .ok (.iload 7, 2) := by decide +kernel
theorem dX12_party_103 : decode cX12_party 103 = .ok (.if_icmp .gt 96, 3) := by decide +kernel
theorem dX12_party_106 : decode cX12_party 106 = .ok (.iload 8, 2) := by decide +kernel
theorem dX12_party_108 : decode cX12_party 108 = .ok (.istore 9, 2) := by decide +kernel
theorem dX12_party_110 : decode cX12_party 110 = .ok (.iload 9, 2) := by decide +kernel
theorem dX12_party_112 : decode cX12_party 112 = .ok (.iload_n 1, 1) := by decide +kernel
theorem dX12_party_113 : decode cX12_party 113 = .ok (.iconst 2, 1) := by decide +kernel
theorem dX12_party_114 : decode cX12_party 114 = .ok (.if_icmp .le 8, 3) := by decide +kernel
theorem dX12_party_117 : decode cX12_party 117 = .ok (.iload 4, 2) := by decide +kernel
theorem dX12_party_119 : decode cX12_party 119 = .ok (.goto 5, 3) := by decide +kernel
theorem dX12_party_122 : decode cX12_party 122 = .ok (.iload 8, 2) := by decide +kernel
theorem dX12_party_124 : decode cX12_party 124 = .ok (.if_icmp .gt 69, 3) := by decide +kernel
theorem dX12_party_127 : decode cX12_party 127 = .ok (.aload_n 0, 1) := by decide +kernel
theorem dX12_party_128 : decode cX12_party 128 = .ok (.iload_n 1, 1) := by decide +kernel
theorem dX12_party_129 : decode cX12_party 129 = .ok (.iload_n 2, 1) := by decide +kernel
theorem dX12_party_130 : decode cX12_party 130 = .ok (.iload_n 3, 1) := by decide +kernel
theorem dX12_party_131 : decode cX12_party 131 = .ok (.iload 5, 2) := by decide +kernel
theorem dX12_party_133 : decode cX12_party 133 = .ok (.iload 7, 2) := by decide +kernel
theorem dX12_party_135 : decode cX12_party 135 = .ok (.iload 8, 2) := by decide +kernel
theorem dX12_party_137 : decode cX12_party 137 = .ok (.iload 9, 2) := by decide +kernel
theorem dX12_party_139 : decode cX12_party 139 = .ok (.invokevirtual 433, 3) := by decide +kernel
theorem dX12_party_142 : decode cX12_party 142 = .ok (.istore 10, 2) := by decide +kernel
theorem dX12_party_144 : decode cX12_party 144 = .ok (.iload 6, 2) := by decide +kernel
theorem dX12_party_146 : decode cX12_party 146 = .ok (.ifCond .lt 13, 3) := by decide +kernel
theorem dX12_party_149 : decode cX12_party 149 = .ok (.iload 10, 2) := by decide +kernel
theorem dX12_party_151 : decode cX12_party 151 = .ok (.iload 6, 2) := by decide +kernel
theorem dX12_party_153 : decode cX12_party 153 = .ok (.if_icmp .lt 6, 3) := by decide +kernel
theorem dX12_party_156 : decode cX12_party 156 = .ok (.goto 31, 3) := by decide +kernel
theorem dX12_party_159 : decode cX12_party 159 = .ok (.iload 10, 2) := by decide +kernel
theorem dX12_party_161 : decode cX12_party 161 = .ok (.istore 6, 2) := by decide +kernel
theorem dX12_party_163 : decode cX12_party 163 = .ok (.aload_n 0, 1) := by decide +kernel
theorem dX12_party_164 : decode cX12_party 164 = .ok (.getfield 146, 3) := by decide +kernel
theorem dX12_party_167 : decode cX12_party 167 = .ok (.iconst 0, 1) := by decide +kernel
theorem dX12_party_168 : decode cX12_party 168 = .ok (.iload 7, 2) := by decide +kernel
theorem dX12_party_170 : decode cX12_party 170 = .ok (.iastore, 1) := by decide +kernel
theorem dX12_party_171 : decode cX12_party 171 = .ok (.aload_n 0, 1) := by decide +kernel
theorem dX12_party_172 : decode cX12_party 172 = .ok (.getfield 146, 3) := by decide +kernel
theorem dX12_party_175 : decode cX12_party 175 = .ok (.iconst 1, 1) := by decide +kernel
theorem dX12_party_176 : decode cX12_party 176 = .ok (.iload 8, 2) := by decide +kernel
theorem dX12_party_178 : decode cX12_party 178 = .ok (.iastore, 1) := by decide +kernel
theorem dX12_party_179 : decode cX12_party 179 = .ok (.aload_n 0, 1) := by decide +kernel
theorem dX12_party_180 : decode cX12_party 180 = .ok (.getfield 146, 3) := by decide +kernel
theorem dX12_party_183 : decode cX12_party 183 = .ok (.iconst 2, 1) := by decide +kernel
theorem dX12_party_184 : decode cX12_party 184 = .ok (.iload 9, 2) := by decide +kernel
theorem dX12_party_186 : decode cX12_party 186 = .ok (.iastore, 1) := by decide +kernel
theorem dX12_party_187 : decode cX12_party 187 = .ok (.iinc 9 1, 3) := by decide +kernel
theorem dX12_party_190 : decode cX12_party 190 = .ok (.goto (-80), 3) := by decide +kernel
theorem dX12_party_193 : decode cX12_party 193 = .ok (.iinc 8 1, 3) := by decide +kernel
theorem dX12_party_196 : decode cX12_party 196 = .ok (.goto (-107), 3) := by decide +kernel
theorem dX12_party_199 : decode cX12_party 199 = .ok (.iinc 7 1, 3) := by decide +kernel
theorem dX12_party_202 : decode cX12_party 202 = .ok (.goto (-124), 3) := by decide +kernel
theorem dX12_party_205 : decode cX12_party 205 = .ok (.aload_n 0, 1) := by decide +kernel
theorem dX12_party_206 : decode cX12_party 206 = .ok (.iload_n 1, 1) := by decide +kernel
theorem dX12_party_207 : decode cX12_party 207 = .ok (.putfield 295, 3) := by decide +kernel
theorem dX12_party_210 : decode cX12_party 210 = .ok (.iload 6, 2) := by decide +kernel
theorem dX12_party_212 : decode cX12_party 212 = .ok (.ireturn, 1) := by decide +kernel
set_option maxRecDepth 20000 in
theorem ggX12_heaps_X12_isIn : GoodIn wsX12_heaps wsX12_isIn := goodIn_r _ [6] (by decide +kernel) (by decide +kernel)
set_option maxRecDepth 20000 in
theorem gX12_heaps_X12_isIn : GoodIn wsX12_heaps (va_wsS RX12 366 yX12_isIn wsX12_isIn) := goodIn_app (goodIn_of _ (by decide +kernel)) ggX12_heaps_X12_isIn
set_option maxRecDepth 20000 in
theorem ggX12_heaps_X12_layDay : GoodIn wsX12_heaps wsX12_layDay := goodIn_r _ [10, 1, 2, 11, 12, 13, 14, 15, 16, 17, 18, 5, 19, 20, 21, 22, 23, 24, 25, 26, 27, 28, 29, 77, 78, 79, 80, 81, 82, 83, 84, 85, 86, 87, 88, 89, 90, 91, 92, 93, 94, 95, 96, 97, 98, 99, 100, 101, 102, 103, 104, 105, 106, 107, 108, 109, 110, 111, 112, 113, 114, 115, 116, 117, 118, 119, 120, 121, 122, 123, 124, 125, 126, 127, 128, 129, 130, 131, 132, 133, 134, 135, 136, 137, 138, 139, 140, 141, 142, 143, 144, 145, 146, 147, 148, 149, 150] (by decide +kernel) (by decide +kernel)
set_option maxRecDepth 20000 in
theorem gX12_heaps_X12_layDay : GoodIn wsX12_heaps (wsV RX12 400 RX12 yX12_layDay wsX12_layDay) := goodIn_app (goodIn_of _ (by decide +kernel)) ggX12_heaps_X12_layDay
set_option maxRecDepth 20000 in
theorem ggX12_heaps_X12_add : GoodIn wsX12_heaps wsX12_add := goodIn_r _ [33, 12, 2, 13, 14, 77, 78, 79, 80, 81, 82, 83, 84, 85, 86, 87, 88, 89, 90, 91, 92, 93, 94, 95, 96, 97, 98, 99, 100, 101, 102, 103, 104, 105, 106, 107, 108, 109, 110, 111, 112, 113, 114, 115, 116, 117, 118, 119, 120, 121, 122, 123, 124, 125, 126, 127, 128, 129, 130, 131, 132, 133, 134, 135, 136, 137, 138, 139, 140, 141, 142, 143, 144, 145, 146, 147, 148, 149, 150] (by decide +kernel) (by decide +kernel)
set_option maxRecDepth 20000 in
theorem gX12_heaps_X12_add : GoodIn wsX12_heaps (wsV RX12 430 RX12 yX12_add wsX12_add) := goodIn_app (goodIn_of _ (by decide +kernel)) ggX12_heaps_X12_add
set_option maxRecDepth 20000 in
theorem ggX12_heaps_X12_goesBy : GoodIn wsX12_heaps wsX12_goesBy := goodIn_r _ [37, 38, 39, 40, 41, 42, 12, 43, 44, 22, 11, 45, 46, 47, 5, 48, 2, 14, 25, 26, 27, 28, 29, 49, 50, 51, 52, 20, 23, 53, 54, 55, 56, 15, 13, 57, 58, 59, 60, 61, 62, 63, 64, 65, 66, 67, 68, 69, 70, 71, 72, 77, 78, 79, 80, 81, 82, 83, 84, 85, 86, 87, 88, 89, 90, 91, 92, 93, 94, 95, 96, 97, 98, 99, 100, 101, 102, 103, 104, 105, 106, 107, 108, 109, 110, 111, 112, 113, 114, 115, 116, 117, 118, 119, 120, 121, 122, 123, 124, 125, 126, 127, 128, 129, 130, 131, 132, 133, 134, 135, 136, 137, 138, 139, 140, 141, 142, 143, 144, 145, 146, 147, 148, 149, 150] (by decide +kernel) (by decide +kernel)
set_option maxRecDepth 20000 in
theorem gX12_heaps_X12_goesBy : GoodIn wsX12_heaps (wsV RX12 403 RX12 yX12_goesBy wsX12_goesBy) := goodIn_app (goodIn_of _ (by decide +kernel)) ggX12_heaps_X12_goesBy
set_option maxRecDepth 20000 in
theorem ggX12_heaps_X12_paidBy : GoodIn wsX12_heaps wsX12_paidBy := goodIn_r _ [76, 41, 25, 26, 27, 5, 28, 29, 22, 77, 78, 79, 80, 81, 82, 83, 84, 85, 86, 87, 88, 89, 90, 91, 92, 93, 94, 95, 96, 97, 98, 99, 100, 101, 102, 103, 104, 105, 106, 107, 108, 109, 110, 111, 112, 113, 114, 115, 116, 117, 118, 119, 120, 121, 122, 123, 124, 125, 126, 127, 128, 129, 130, 131, 132, 133, 134, 135, 136, 137, 138, 139, 140, 141, 142, 143, 144, 145, 146, 147, 148, 149, 150] (by decide +kernel) (by decide +kernel)
set_option maxRecDepth 20000 in
theorem gX12_heaps_X12_paidBy : GoodIn wsX12_heaps (wsV RX12 397 RX12 yX12_paidBy wsX12_paidBy) := goodIn_app (goodIn_of _ (by decide +kernel)) ggX12_heaps_X12_paidBy
theorem dX12_heaps_0 : decode cX12_heaps 0 = .ok (.iload_n 1, 1) := by decide +kernel
theorem dX12_heaps_1 : decode cX12_heaps 1 = .ok (.iconst 1, 1) := by decide +kernel
theorem dX12_heaps_2 : decode cX12_heaps 2 = .ok (.bipush 99, 2) := by decide +kernel
theorem dX12_heaps_4 : decode cX12_heaps 4 = .ok (.invokestatic 366, 3) := by decide +kernel
theorem dX12_heaps_7 : decode cX12_heaps 7 = .ok (.ifCond .eq 37, 3) := by decide +kernel
theorem dX12_heaps_10 : decode cX12_heaps 10 = .ok (.iload_n 2, 1) := by decide +kernel
theorem dX12_heaps_11 : decode cX12_heaps 11 = .ok (.iconst 0, 1) := by decide +kernel
theorem dX12_heaps_12 : decode cX12_heaps 12 = .ok (.sipush 600, 3) := by decide +kernel
theorem dX12_heaps_15 : decode cX12_heaps 15 = .ok (.invokestatic 366, 3) := by decide +kernel
theorem dX12_heaps_18 : decode cX12_heaps 18 = .ok (.ifCond .eq 26, 3) := by decide +kernel
theorem dX12_heaps_21 : decode cX12_heaps 21 = .ok (.iload_n 3, 1) := by decide +kernel
theorem dX12_heaps_22 : decode cX12_heaps 22 = .ok (.iconst 0, 1) := by decide +kernel
theorem dX12_heaps_23 : decode cX12_heaps 23 = .ok (.iconst 1, 1) := by decide +kernel
theorem dX12_heaps_24 : decode cX12_heaps 24 = .ok (.invokestatic 366, 3) := by decide +kernel
theorem dX12_heaps_27 : decode cX12_heaps 27 = .ok (.ifCond .eq 17, 3) := by decide +kernel
theorem dX12_heaps_30 : decode cX12_heaps 30 = .ok (.aload_n 0, 1) := by decide +kernel
theorem dX12_heaps_31 : decode cX12_heaps 31 = .ok (.getfield 98, 3) := by decide +kernel
theorem dX12_heaps_34 : decode cX12_heaps 34 = .ok (.iconst 0, 1) := by decide +kernel
theorem dX12_heaps_35 : decode cX12_heaps 35 = .ok (.iaload, 1) := by decide +kernel
theorem dX12_heaps_36 : decode cX12_heaps 36 = .ok (.bipush 6, 2) := by decide +kernel
theorem dX12_heaps_38 : decode cX12_heaps 38 = .ok (.iadd, 1) := by decide +kernel
theorem dX12_heaps_39 : decode cX12_heaps 39 = .ok (.bipush 24, 2) := by decide +kernel
theorem dX12_heaps_41 : decode cX12_heaps 41 = .ok (.if_icmp .le 5, 3) := by decide +kernel
theorem dX12_heaps_44 : decode cX12_heaps 44 = .ok (.iconst (-1), 1) := by decide +kernel
theorem dX12_heaps_45 : decode cX12_heaps 45 = .ok (.ireturn, 1) := by decide +kernel
theorem dX12_heaps_46 : decode cX12_heaps 46 = .ok (.iconst (-1), 1) := by decide +kernel
theorem dX12_heaps_47 : decode cX12_heaps 47 = .ok (.istore 4, 2) := by decide +kernel
theorem dX12_heaps_49 : decode cX12_heaps 49 = .ok (.iconst 0, 1) := by decide +kernel
theorem dX12_heaps_50 : decode cX12_heaps 50 = .ok (.istore 5, 2) := by decide +kernel
theorem dX12_heaps_52 : decode cX12_heaps 52 = .ok (.iconst 1, 1) := by decide +kernel
theorem dX12_heaps_53 : decode cX12_heaps 53 = .ok (.istore 6, 2) := by decide +kernel
theorem dX12_heaps_55 : decode cX12_heaps 55 = .ok (.iload 6, 2) := by decide +kernel
theorem dX12_heaps_57 : decode cX12_heaps 57 = .ok (.bipush 6, 2) := by decide +kernel
theorem dX12_heaps_59 : decode cX12_heaps 59 = .ok (.if_icmp .gt 123, 3) := by decide +kernel
theorem dX12_heaps_62 : decode cX12_heaps 62 = .ok (.iload 6, 2) := by decide +kernel
theorem dX12_heaps_64 : decode cX12_heaps 64 = .ok (.iload_n 1, 1) := by decide +kernel
theorem dX12_heaps_65 : decode cX12_heaps 65 = .ok (.if_icmp .gt 117, 3) := by decide +kernel
theorem dX12_heaps_68 : decode cX12_heaps 68 = .ok (.aload_n 0, 1) := by decide +kernel
theorem dX12_heaps_69 : decode cX12_heaps 69 = .ok (.invokevirtual 400, 3) := by decide +kernel
theorem dX12_heaps_72 : decode cX12_heaps 72 = .ok (.iconst 0, 1) := by decide +kernel
theorem dX12_heaps_73 : decode cX12_heaps 73 = .ok (.istore 7, 2) := by decide +kernel
theorem dX12_heaps_75 : decode cX12_heaps 75 = .ok (.iload 7, 2) := by decide +kernel
theorem dX12_heaps_77 : decode cX12_heaps 77 = .ok (.iload 6, 2) := by decide +kernel
theorem dX12_heaps_79 : decode cX12_heaps 79 = .ok (.if_icmp .ge 33, 3) := by decide +kernel
theorem dX12_heaps_82 : decode cX12_heaps 82 = .ok (.aload_n 0, 1) := by decide +kernel
theorem dX12_heaps_83 : decode cX12_heaps 83 = .ok (.iload_n 2, 1) := by decide +kernel
theorem dX12_heaps_84 : decode cX12_heaps 84 = .ok (.iload_n 1, 1) := by decide +kernel
theorem dX12_heaps_85 : decode cX12_heaps 85 = .ok (.iload 6, 2) := by decide +kernel
theorem dX12_heaps_87 : decode cX12_heaps 87 = .ok (.idiv, 1) := by decide +kernel
theorem dX12_heaps_88 : decode cX12_heaps 88 = .ok (.iload 7, 2) := by decide +kernel
theorem dX12_heaps_90 : decode cX12_heaps 90 = .ok (.iload_n 1, 1) := by decide +kernel
theorem dX12_heaps_91 : decode cX12_heaps 91 = .ok (.iload 6, 2) := by decide +kernel
theorem dX12_heaps_93 : decode cX12_heaps 93 = .ok (.irem, 1) := by decide +kernel
theorem dX12_heaps_94 : decode cX12_heaps 94 = .ok (.if_icmp .ge 7, 3) := by decide +kernel
theorem dX12_heaps_97 : decode cX12_heaps 97 = .ok (.iconst 1, 1) := by decide +kernel
theorem dX12_heaps_98 : decode cX12_heaps 98 = .ok (.goto 4, 3) := by decide +kernel
theorem dX12_heaps_101 : decode cX12_heaps 101 = .ok (.iconst 0, 1) := by decide +kernel
theorem dX12_heaps_102 : decode cX12_heaps 102 = .ok (.iadd, 1) := by decide +kernel
theorem dX12_heaps_103 : decode cX12_heaps 103 = .ok (.invokevirtual 430, 3) := by decide +kernel
theorem dX12_heaps_106 : decode cX12_heaps 106 = .ok (.iinc 7 1, 3) := by decide +kernel
theorem dX12_heaps_109 : decode cX12_heaps 109 = .ok (.goto (-34), 3) := by decide +kernel
theorem dX12_heaps_112 : decode cX12_heaps 112 = .ok (.aload_n 0, 1) := by decide +kernel
theorem dX12_heaps_113 : decode cX12_heaps 113 = .ok (.invokevirtual 403, 3) := by decide +kernel
theorem dX12_heaps_116 : decode cX12_heaps 116 = .ok (.iconst 0, 1) := by decide +kernel
theorem dX12_heaps_117 : decode cX12_heaps 117 = .ok (.istore 7, 2) := by decide +kernel
theorem dX12_heaps_119 : decode cX12_heaps 119 = .ok (.aload_n 0, 1) := by decide +kernel
theorem dX12_heaps_120 : decode cX12_heaps 120 = .ok (.getfield 98, 3) := by decide +kernel
theorem dX12_heaps_123 : decode cX12_heaps 123 = .ok (.iconst 0, 1) := by decide +kernel
theorem dX12_heaps_124 : decode cX12_heaps 124 = .ok (.iaload, 1) := by decide +kernel
theorem dX12_heaps_125 : decode cX12_heaps 125 = .ok (.istore 8, 2) := by decide +kernel
theorem dX12_heaps_127 : decode cX12_heaps 127 = .ok (.iload 8, 2) := by decide +kernel
theorem dX12_heaps_129 : decode cX12_heaps 129 = .ok (.aload_n 0, 1) := by decide +kernel
theorem dX12_heaps_130 : decode cX12_heaps 130 = .ok (.getfield 379, 3) := by decide +kernel
theorem dX12_heaps_133 : decode cX12_heaps 133 = .ok (.if_icmp .ge 20, 3) := by decide +kernel
theorem dX12_heaps_136 : decode cX12_heaps 136 = .ok (.iload 7, 2) := by decide +kernel
theorem dX12_heaps_138 : decode cX12_heaps 138 = .ok (.aload_n 0, 1) := by decide +kernel
theorem dX12_heaps_139 : decode cX12_heaps 139 = .ok (.iload 8, 2) := by decide +kernel
theorem dX12_heaps_141 : decode cX12_heaps 141 = .ok (.invokevirtual 397, 3) := by decide +kernel
theorem dX12_heaps_144 : decode cX12_heaps 144 = .ok (.iadd, 1) := by decide +kernel
theorem dX12_heaps_145 : decode cX12_heaps 145 = .ok (.istore 7, 2) := by decide +kernel
theorem dX12_heaps_147 : decode cX12_heaps 147 = .ok (.iinc 8 1, 3) := by decide +kernel
theorem dX12_heaps_150 : decode cX12_heaps 150 = .ok (.goto (-23), 3) := by decide +kernel
theorem dX12_heaps_153 : decode cX12_heaps 153 = .ok (.iload 4, 2) := by decide +kernel
theorem dX12_heaps_155 : decode cX12_heaps 155 = .ok (.ifCond .lt 13, 3) := by decide +kernel
theorem dX12_heaps_158 : decode cX12_heaps 158 = .ok (.iload 7, 2) := by decide +kernel
theorem dX12_heaps_160 : decode cX12_heaps 160 = .ok (.iload 5, 2) := by decide +kernel
theorem dX12_heaps_162 : decode cX12_heaps 162 = .ok (.if_icmp .lt 6, 3) := by decide +kernel
theorem dX12_heaps_165 : decode cX12_heaps 165 = .ok (.goto 11, 3) := by decide +kernel
theorem dX12_heaps_168 : decode cX12_heaps 168 = .ok (.iload 6, 2) := by decide +kernel
theorem dX12_heaps_170 : decode cX12_heaps 170 = .ok (.istore 4, 2) := by decide +kernel
theorem dX12_heaps_172 : decode cX12_heaps 172 = .ok (.iload 7, 2) := by decide +kernel
theorem dX12_heaps_174 : decode cX12_heaps 174 = .ok (.istore 5, 2) := by decide +kernel
theorem dX12_heaps_176 : decode cX12_heaps 176 = .ok (.iinc 6 1, 3) := by decide +kernel
theorem dX12_heaps_179 : decode cX12_heaps 179 = .ok (.goto (-124), 3) := by decide +kernel
theorem dX12_heaps_182 : decode cX12_heaps 182 = .ok (.iload_n 3, 1) := by decide +kernel
theorem dX12_heaps_183 : decode cX12_heaps 183 = .ok (.ifCond .ne 8, 3) := by decide +kernel
theorem dX12_heaps_186 : decode cX12_heaps 186 = .ok (.iload 4, 2) := by decide +kernel
theorem dX12_heaps_188 : decode cX12_heaps 188 = .ok (.goto 5, 3) := by decide +kernel
theorem dX12_heaps_191 : decode cX12_heaps 191 = .ok (.iload 5, 2) := by decide +kernel
theorem dX12_heaps_193 : decode cX12_heaps 193 = .ok (.ireturn, 1) := by decide +kernel
