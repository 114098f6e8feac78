theorem dX11_fault_0 : decode cX11_fault 0 = .ok (.iload_n 1, 1) := by decide +kernel
theorem dX11_fault_1 : decode cX11_fault 1 = .ok (.lookupswitch 43 #[(0, 27), (1, 35)], 27) := by decide +kernel
theorem dX11_fault_28 : decode cX11_fault 28 = .ok (.aload_n 0, 1) := by decide +kernel
theorem dX11_fault_29 : decode cX11_fault 29 = .ok (.getfield 20, 3) := by decide +kernel
theorem dX11_fault_32 : decode cX11_fault 32 = .ok (.getfield 129, 3) := by decide +kernel
theorem dX11_fault_35 : decode cX11_fault 35 = .ok (.ireturn, 1) := by decide +kernel
theorem dX11_fault_36 : decode cX11_fault 36 = .ok (.aload_n 0, 1) := by decide +kernel
theorem dX11_fault_37 : decode cX11_fault 37 = .ok (.getfield 20, 3) := by decide +kernel
theorem dX11_fault_40 : decode cX11_fault 40 = .ok (.getfield 132, 3) := by decide +kernel
theorem dX11_fault_43 : decode cX11_fault 43 = .ok (.ireturn, 1) := by decide +kernel
theorem dX11_fault_44 : decode cX11_fault 44 = .ok (.iconst (-1), 1) := by decide +kernel
theorem dX11_fault_45 : decode cX11_fault 45 = .ok (.ireturn, 1) := by decide +kernel
set_option maxRecDepth 20000 in
theorem ggX11_cart_X11_isCart : GoodIn wsX11_cart wsX11_isCart := goodIn_r _ [12, 1, 13, 14, 15, 11, 16, 28, 29, 30, 31, 32, 33, 34, 35, 36, 37, 38, 39, 40, 41, 42, 43, 44, 45, 46] (by decide +kernel) (by decide +kernel)
set_option maxRecDepth 20000 in
theorem gX11_cart_X11_isCart : GoodIn wsX11_cart (wsV RX11 135 RX11 yX11_isCart wsX11_isCart) := goodIn_app (goodIn_of _ (by decide +kernel)) ggX11_cart_X11_isCart
set_option maxRecDepth 20000 in
theorem ggX11_cart_X11_has : GoodIn wsX11_cart wsX11_has := goodIn_r _ [19] (by decide +kernel) (by decide +kernel)
set_option maxRecDepth 20000 in
theorem gX11_cart_X11_has : GoodIn wsX11_cart (va_wsS RX11 148 yX11_has wsX11_has) := goodIn_app (goodIn_of _ (by decide +kernel)) ggX11_cart_X11_has
set_option maxRecDepth 20000 in
theorem ggX11_cart_X1_paidBy : GoodIn wsX11_cart wsX1_paidBy := goodIn_r _ [24, 25, 26, 27, 65, 66, 67, 68, 69, 70, 71, 47, 48, 49, 50, 51, 52, 53, 54, 55, 56, 57, 58, 59, 60, 61, 62, 63, 64] (by decide +kernel) (by decide +kernel)
set_option maxRecDepth 20000 in
theorem gX11_cart_X1_paidBy : GoodIn wsX11_cart (wsV RX11 155 RX1 yX1_paidBy wsX1_paidBy) := goodIn_app (goodIn_of _ (by decide +kernel)) ggX11_cart_X1_paidBy
theorem dX11_cart_0 : decode cX11_cart 0 = .ok (.aload_n 0, 1) := by decide +kernel
theorem dX11_cart_1 : decode cX11_cart 1 = .ok (.iload_n 1, 1) := by decide +kernel
theorem dX11_cart_2 : decode cX11_cart 2 = .ok (.invokevirtual 135, 3) := by decide +kernel
theorem dX11_cart_5 : decode cX11_cart 5 = .ok (.ifCond .ne 5, 3) := by decide +kernel
theorem dX11_cart_8 : decode cX11_cart 8 = .ok (.iconst (-1), 1) := by decide +kernel
theorem dX11_cart_9 : decode cX11_cart 9 = .ok (.ireturn, 1) := by decide +kernel
theorem dX11_cart_10 : decode cX11_cart 10 = .ok (.iload_n 2, 1) := by decide +kernel
theorem dX11_cart_11 : decode cX11_cart 11 = .ok (.tableswitch 102 0 4 #[33, 43, 53, 73, 93], 33) := by decide +kernel
theorem dX11_cart_44 : decode cX11_cart 44 = .ok (.aload_n 0, 1) := by decide +kernel
theorem dX11_cart_45 : decode cX11_cart 45 = .ok (.getfield 37, 3) := by decide +kernel
theorem dX11_cart_48 : decode cX11_cart 48 = .ok (.getfield 139, 3) := by decide +kernel
theorem dX11_cart_51 : decode cX11_cart 51 = .ok (.iload_n 1, 1) := by decide +kernel
theorem dX11_cart_52 : decode cX11_cart 52 = .ok (.iaload, 1) := by decide +kernel
theorem dX11_cart_53 : decode cX11_cart 53 = .ok (.ireturn, 1) := by decide +kernel
theorem dX11_cart_54 : decode cX11_cart 54 = .ok (.aload_n 0, 1) := by decide +kernel
theorem dX11_cart_55 : decode cX11_cart 55 = .ok (.getfield 37, 3) := by decide +kernel
theorem dX11_cart_58 : decode cX11_cart 58 = .ok (.getfield 142, 3) := by decide +kernel
theorem dX11_cart_61 : decode cX11_cart 61 = .ok (.iload_n 1, 1) := by decide +kernel
theorem dX11_cart_62 : decode cX11_cart 62 = .ok (.iaload, 1) := by decide +kernel
theorem dX11_cart_63 : decode cX11_cart 63 = .ok (.ireturn, 1) := by decide +kernel
theorem dX11_cart_64 : decode cX11_cart 64 = .ok (.aload_n 0, 1) := by decide +kernel
theorem dX11_cart_65 : decode cX11_cart 65 = .ok (.getfield 37, 3) := by decide +kernel
theorem dX11_cart_68 : decode cX11_cart 68 = .ok (.getfield 145, 3) := by decide +kernel
theorem dX11_cart_71 : decode cX11_cart 71 = .ok (.iload_n 1, 1) := by decide +kernel
theorem dX11_cart_72 : decode cX11_cart 72 = .ok (.invokestatic 148, 3) := by decide +kernel
theorem dX11_cart_75 : decode cX11_cart 75 = .ok (.ifCond .eq 7, 3) := by decide +kernel
theorem dX11_cart_78 : decode cX11_cart 78 = .ok (.iconst 1, 1) := by decide +kernel
theorem dX11_cart_79 : decode cX11_cart 79 = .ok (.goto 4, 3) := by decide +kernel
theorem dX11_cart_82 : decode cX11_cart 82 = .ok (.iconst 0, 1) := by decide +kernel
theorem dX11_cart_83 : decode cX11_cart 83 = .ok (.ireturn, 1) := by decide +kernel
theorem dX11_cart_84 : decode cX11_cart 84 = .ok (.aload_n 0, 1) := by decide +kernel
theorem dX11_cart_85 : decode cX11_cart 85 = .ok (.getfield 27, 3) := by decide +kernel
theorem dX11_cart_88 : decode cX11_cart 88 = .ok (.getfield 152, 3) := by decide +kernel
theorem dX11_cart_91 : decode cX11_cart 91 = .ok (.iload_n 1, 1) := by decide +kernel
theorem dX11_cart_92 : decode cX11_cart 92 = .ok (.invokestatic 148, 3) := by decide +kernel
theorem dX11_cart_95 : decode cX11_cart 95 = .ok (.ifCond .eq 7, 3) := by decide +kernel
theorem dX11_cart_98 : decode cX11_cart 98 = .ok (.iconst 1, 1) := by decide +kernel
theorem dX11_cart_99 : decode cX11_cart 99 = .ok (.goto 4, 3) := by decide +kernel
theorem dX11_cart_102 : decode cX11_cart 102 = .ok (.iconst 0, 1) := by decide +kernel
theorem dX11_cart_103 : decode cX11_cart 103 = .ok (.ireturn, 1) := by decide +kernel
theorem dX11_cart_104 : decode cX11_cart 104 = .ok (.aload_n 0, 1) := by decide +kernel
theorem dX11_cart_105 : decode cX11_cart 105 = .ok (.getfield 72, 3) := by decide +kernel
theorem dX11_cart_108 : decode cX11_cart 108 = .ok (.iload_n 1, 1) := by decide +kernel
theorem dX11_cart_109 : decode cX11_cart 109 = .ok (.invokevirtual 155, 3) := by decide +kernel
theorem dX11_cart_112 : decode cX11_cart 112 = .ok (.ireturn, 1) := by decide +kernel
theorem dX11_cart_113 : decode cX11_cart 113 = .ok (.iconst (-1), 1) := by decide +kernel
theorem dX11_cart_114 : decode cX11_cart 114 = .ok (.ireturn, 1) := by decide +kernel
set_option maxRecDepth 20000 in
theorem ggX11_counter_X11_isCart : GoodIn wsX11_counter wsX11_isCart := goodIn_r _ [7, 8, 9, 10, 11, 6, 12, 19, 20, 21, 22, 23, 24, 25, 26, 27, 28, 29, 30, 31, 32, 40, 41, 42, 43, 44] (by decide +kernel) (by decide +kernel)
set_option maxRecDepth 20000 in
theorem gX11_counter_X11_isCart : GoodIn wsX11_counter (wsV RX11 135 RX11 yX11_isCart wsX11_isCart) := goodIn_app (goodIn_of _ (by decide +kernel)) ggX11_counter_X11_isCart
set_option maxRecDepth 20000 in
theorem ggX11_counter_X11_isPost : GoodIn wsX11_counter wsX11_isPost := goodIn_r _ [16, 17, 18, 10, 11, 6, 12, 19, 20, 21, 22, 23, 24, 25, 26, 27, 28, 29, 30, 31, 32, 45, 46, 47, 48, 49, 50, 51, 52, 53, 54, 55, 56, 57, 58, 59, 60, 61, 62] (by decide +kernel) (by decide +kernel)
set_option maxRecDepth 20000 in
theorem gX11_counter_X11_isPost : GoodIn wsX11_counter (wsV RX11 159 RX11 yX11_isPost wsX11_isPost) := goodIn_app (goodIn_of _ (by decide +kernel)) ggX11_counter_X11_isPost
theorem dX11_counter_0 : decode cX11_counter 0 = .ok (.aload_n 0, 1) := by decide +kernel
theorem dX11_counter_1 : decode cX11_counter 1 = .ok (.iload_n 1, 1) := by decide +kernel
theorem dX11_counter_2 : decode cX11_counter 2 = .ok (.invokevirtual 135, 3) := by decide +kernel
theorem dX11_counter_5 : decode cX11_counter 5 = .ok (.ifCond .eq 27, 3) := by decide +kernel
theorem dX11_counter_8 : decode cX11_counter 8 = .ok (.aload_n 0, 1) := by decide +kernel
theorem dX11_counter_9 : decode cX11_counter 9 = .ok (.iload_n 2, 1) := by decide +kernel
theorem dX11_counter_10 : decode cX11_counter 10 = .ok (.invokevirtual 159, 3) := by decide +kernel
theorem dX11_counter_13 : decode cX11_counter 13 = .ok (.ifCond .eq 19, 3) := by decide +kernel
theorem dX11_counter_16 : decode cX11_counter 16 = .ok (.aload_n 0, 1) := by decide +kernel
theorem dX11_counter_17 : decode cX11_counter 17 = .ok (.getfield 72, 3) := by decide +kernel
theorem dX11_counter_20 : decode cX11_counter 20 = .ok (.getfield 162, 3) := by decide +kernel
theorem dX11_counter_23 : decode cX11_counter 23 = .ok (.iload_n 1, 1) := by decide +kernel
theorem dX11_counter_24 : decode cX11_counter 24 = .ok (.iconst 4, 1) := by decide +kernel
theorem dX11_counter_25 : decode cX11_counter 25 = .ok (.imul, 1) := by decide +kernel
theorem dX11_counter_26 : decode cX11_counter 26 = .ok (.iload_n 2, 1) := by decide +kernel
theorem dX11_counter_27 : decode cX11_counter 27 = .ok (.iadd, 1) := by decide +kernel
theorem dX11_counter_28 : decode cX11_counter 28 = .ok (.iaload, 1) := by decide +kernel
theorem dX11_counter_29 : decode cX11_counter 29 = .ok (.goto 5, 3) := by decide +kernel
theorem dX11_counter_32 : decode cX11_counter 32 = .ok (.bipush (-2), 2) := by decide +kernel
theorem dX11_counter_34 : decode cX11_counter 34 = .ok (.ireturn, 1) := by decide +kernel
set_option maxRecDepth 20000 in
theorem ggX11_pays_X11_isCart : GoodIn wsX11_pays wsX11_isCart := goodIn_r _ [7, 8, 9, 10, 11, 6, 12, 19, 20, 21, 22, 23, 24, 25, 26, 27, 28, 29, 30, 31, 32, 40, 41, 42, 43, 44] (by decide +kernel) (by decide +kernel)
set_option maxRecDepth 20000 in
theorem gX11_pays_X11_isCart : GoodIn wsX11_pays (wsV RX11 135 RX11 yX11_isCart wsX11_isCart) := goodIn_app (goodIn_of _ (by decide +kernel)) ggX11_pays_X11_isCart
set_option maxRecDepth 20000 in
theorem ggX11_pays_X11_isPost : GoodIn wsX11_pays wsX11_isPost := goodIn_r _ [16, 17, 18, 10, 11, 6, 12, 19, 20, 21, 22, 23, 24, 25, 26, 27, 28, 29, 30, 31, 32, 45, 46, 47, 48, 49, 50, 51, 52, 53, 54, 55, 56, 57, 58, 59, 60, 61, 62] (by decide +kernel) (by decide +kernel)
set_option maxRecDepth 20000 in
theorem gX11_pays_X11_isPost : GoodIn wsX11_pays (wsV RX11 159 RX11 yX11_isPost wsX11_isPost) := goodIn_app (goodIn_of _ (by decide +kernel)) ggX11_pays_X11_isPost
theorem dX11_pays_0 : decode cX11_pays 0 = .ok (.aload_n 0, 1) := by decide +kernel
theorem dX11_pays_1 : decode cX11_pays 1 = .ok (.iload_n 1, 1) := by decide +kernel
theorem dX11_pays_2 : decode cX11_pays 2 = .ok (.invokevirtual 135, 3) := by decide +kernel
theorem dX11_pays_5 : decode cX11_pays 5 = .ok (.ifCond .eq 27, 3) := by decide +kernel
theorem dX11_pays_8 : decode cX11_pays 8 = .ok (.aload_n 0, 1) := by decide +kernel
theorem dX11_pays_9 : decode cX11_pays 9 = .ok (.iload_n 2, 1) := by decide +kernel
theorem dX11_pays_10 : decode cX11_pays 10 = .ok (.invokevirtual 159, 3) := by decide +kernel
theorem dX11_pays_13 : decode cX11_pays 13 = .ok (.ifCond .eq 19, 3) := by decide +kernel
theorem dX11_pays_16 : decode cX11_pays 16 = .ok (.aload_n 0, 1) := by decide +kernel
theorem dX11_pays_17 : decode cX11_pays 17 = .ok (.getfield 72, 3) := by decide +kernel
theorem dX11_pays_20 : decode cX11_pays 20 = .ok (.getfield 165, 3) := by decide +kernel
theorem dX11_pays_23 : decode cX11_pays 23 = .ok (.iload_n 1, 1) := by decide +kernel
theorem dX11_pays_24 : decode cX11_pays 24 = .ok (.iconst 4, 1) := by decide +kernel
theorem dX11_pays_25 : decode cX11_pays 25 = .ok (.imul, 1) := by decide +kernel
theorem dX11_pays_26 : decode cX11_pays 26 = .ok (.iload_n 2, 1) := by decide +kernel
theorem dX11_pays_27 : decode cX11_pays 27 = .ok (.iadd, 1) := by decide +kernel
theorem dX11_pays_28 : decode cX11_pays 28 = .ok (.iaload, 1) := by decide +kernel
theorem dX11_pays_29 : decode cX11_pays 29 = .ok (.goto 4, 3) := by decide +kernel
theorem dX11_pays_32 : decode cX11_pays 32 = .ok (.iconst (-1), 1) := by decide +kernel
theorem dX11_pays_33 : decode cX11_pays 33 = .ok (.ireturn, 1) := by decide +kernel
set_option maxRecDepth 20000 in
theorem ggX11_bird_X11_isBird : GoodIn wsX11_bird wsX11_isBird := goodIn_r _ [13, 3, 14, 15, 16, 12, 17, 18, 19, 20, 21, 22, 23, 24, 25, 26, 27, 28, 29, 30, 31, 37, 38, 39, 40, 41, 42, 43, 44, 45, 46, 47, 48, 49, 50, 51, 52, 53, 54] (by decide +kernel) (by decide +kernel)
set_option maxRecDepth 20000 in
theorem gX11_bird_X11_isBird : GoodIn wsX11_bird (wsV RX11 168 RX11 yX11_isBird wsX11_isBird) := goodIn_app (goodIn_of _ (by decide +kernel)) ggX11_bird_X11_isBird
theorem dX11_bird_0 : decode cX11_bird 0 = .ok (.aload_n 0, 1) := by decide +kernel
theorem dX11_bird_1 : decode cX11_bird 1 = .ok (.iload_n 1, 1) := by decide +kernel
theorem dX11_bird_2 : decode cX11_bird 2 = .ok (.invokevirtual 168, 3) := by decide +kernel
theorem dX11_bird_5 : decode cX11_bird 5 = .ok (.ifCond .ne 5, 3) := by decide +kernel
theorem dX11_bird_8 : decode cX11_bird 8 = .ok (.iconst (-1), 1) := by decide +kernel
theorem dX11_bird_9 : decode cX11_bird 9 = .ok (.ireturn, 1) := by decide +kernel
theorem dX11_bird_10 : decode cX11_bird 10 = .ok (.iload_n 2, 1) := by decide +kernel
theorem dX11_bird_11 : decode cX11_bird 11 = .ok (.tableswitch 75 0 3 #[29, 39, 49, 62], 29) := by decide +kernel
theorem dX11_bird_40 : decode cX11_bird 40 = .ok (.aload_n 0, 1) := by decide +kernel
theorem dX11_bird_41 : decode cX11_bird 41 = .ok (.getfield 37, 3) := by decide +kernel
theorem dX11_bird_44 : decode cX11_bird 44 = .ok (.getfield 171, 3) := by decide +kernel
theorem dX11_bird_47 : decode cX11_bird 47 = .ok (.iload_n 1, 1) := by decide +kernel
theorem dX11_bird_48 : decode cX11_bird 48 = .ok (.iaload, 1) := by decide +kernel
theorem dX11_bird_49 : decode cX11_bird 49 = .ok (.ireturn, 1) := by decide +kernel
theorem dX11_bird_50 : decode cX11_bird 50 = .ok (.aload_n 0, 1) := by decide +kernel
theorem dX11_bird_51 : decode cX11_bird 51 = .ok (.getfield 27, 3) := by decide +kernel
theorem dX11_bird_54 : decode cX11_bird 54 = .ok (.getfield 174, 3) := by decide +kernel
theorem dX11_bird_57 : decode cX11_bird 57 = .ok (.iload_n 1, 1) := by decide +kernel
theorem dX11_bird_58 : decode cX11_bird 58 = .ok (.iaload, 1) := by decide +kernel
theorem dX11_bird_59 : decode cX11_bird 59 = .ok (.ireturn, 1) := by decide +kernel
theorem dX11_bird_60 : decode cX11_bird 60 = .ok (.aload_n 0, 1) := by decide +kernel
theorem dX11_bird_61 : decode cX11_bird 61 = .ok (.getfield 72, 3) := by decide +kernel
theorem dX11_bird_64 : decode cX11_bird 64 = .ok (.getfield 177, 3) := by decide +kernel
theorem dX11_bird_67 : decode cX11_bird 67 = .ok (.getfield 181, 3) := by decide +kernel
theorem dX11_bird_70 : decode cX11_bird 70 = .ok (.iload_n 1, 1) := by decide +kernel
theorem dX11_bird_71 : decode cX11_bird 71 = .ok (.iaload, 1) := by decide +kernel
theorem dX11_bird_72 : decode cX11_bird 72 = .ok (.ireturn, 1) := by decide +kernel
theorem dX11_bird_73 : decode cX11_bird 73 = .ok (.aload_n 0, 1) := by decide +kernel
theorem dX11_bird_74 : decode cX11_bird 74 = .ok (.getfield 72, 3) := by decide +kernel
theorem dX11_bird_77 : decode cX11_bird 77 = .ok (.getfield 177, 3) := by decide +kernel
theorem dX11_bird_80 : decode cX11_bird 80 = .ok (.getfield 186, 3) := by decide +kernel
theorem dX11_bird_83 : decode cX11_bird 83 = .ok (.iload_n 1, 1) := by decide +kernel
theorem dX11_bird_84 : decode cX11_bird 84 = .ok (.iaload, 1) := by decide +kernel
theorem dX11_bird_85 : decode cX11_bird 85 = .ok (.ireturn, 1) := by decide +kernel
theorem dX11_bird_86 : decode cX11_bird 86 = .ok (.iconst (-1), 1) := by decide +kernel
theorem dX11_bird_87 : decode cX11_bird 87 = .ok (.ireturn, 1) := by decide +kernel
set_option maxRecDepth 20000 in
theorem ggX11_income_X1_takenInAll : GoodIn wsX11_income wsX1_takenInAll := goodIn_r _ [6, 7, 8, 9, 10, 11, 5, 12, 13, 14, 15, 41, 42, 43, 44, 45, 46, 47, 48, 49, 50, 51, 52, 53, 54, 55, 56, 57, 58, 59, 60, 61, 62, 63, 64, 65, 66, 67, 68, 69, 70] (by decide +kernel) (by decide +kernel)
set_option maxRecDepth 20000 in
theorem gX11_income_X1_takenInAll : GoodIn wsX11_income (wsV RX11 189 RX1 yX1_takenInAll wsX1_takenInAll) := goodIn_app (goodIn_of _ (by decide +kernel)) ggX11_income_X1_takenInAll
set_option maxRecDepth 20000 in
theorem ggX11_income_X11_isPost : GoodIn wsX11_income wsX11_isPost := goodIn_r _ [20, 21, 22, 23, 24, 19, 25, 27, 28, 29, 30, 31, 32, 33, 34, 35, 36, 37, 38, 39, 40, 48, 49, 50, 51, 52, 53, 54, 55, 56, 57, 58, 59, 60, 61, 62, 63, 64, 65] (by decide +kernel) (by decide +kernel)
set_option maxRecDepth 20000 in
theorem gX11_income_X11_isPost : GoodIn wsX11_income (wsV RX11 159 RX11 yX11_isPost wsX11_isPost) := goodIn_app (goodIn_of _ (by decide +kernel)) ggX11_income_X11_isPost
set_option maxRecDepth 20000 in
theorem ggX11_income_X1_takenAt : GoodIn wsX11_income wsX1_takenAt := goodIn_r _ [12, 13, 14, 15, 41, 42, 43, 44, 45, 46, 47, 66, 67, 68, 69, 70] (by decide +kernel) (by decide +kernel)
set_option maxRecDepth 20000 in
theorem gX11_income_X1_takenAt : GoodIn wsX11_income (wsV RX11 193 RX1 yX1_takenAt wsX1_takenAt) := goodIn_app (goodIn_of _ (by decide +kernel)) ggX11_income_X1_takenAt
theorem dX11_income_0 : decode cX11_income 0 = .ok (.iload_n 1, 1) := by decide +kernel
theorem dX11_income_1 : decode cX11_income 1 = .ok (.iconst (-1), 1) := by decide +kernel
theorem dX11_income_2 : decode cX11_income 2 = .ok (.if_icmp .ne 11, 3) := by decide +kernel
theorem dX11_income_5 : decode cX11_income 5 = .ok (.aload_n 0, 1) := by decide +kernel
theorem dX11_income_6 : decode cX11_income 6 = .ok (.getfield 72, 3) := by decide +kernel
theorem dX11_income_9 : decode cX11_income 9 = .ok (.invokevirtual 189, 3) := by decide +kernel
theorem dX11_income_12 : decode cX11_income 12 = .ok (.ireturn, 1) := by decide +kernel
theorem dX11_income_13 : decode cX11_income 13 = .ok (.aload_n 0, 1) := by decide +kernel
theorem dX11_income_14 : decode cX11_income 14 = .ok (.iload_n 1, 1) := by decide +kernel
theorem dX11_income_15 : decode cX11_income 15 = .ok (.invokevirtual 159, 3) := by decide +kernel
theorem dX11_income_18 : decode cX11_income 18 = .ok (.ifCond .eq 14, 3) := by decide +kernel
theorem dX11_income_21 : decode cX11_income 21 = .ok (.aload_n 0, 1) := by decide +kernel
theorem dX11_income_22 : decode cX11_income 22 = .ok (.getfield 72, 3) := by decide +kernel
theorem dX11_income_25 : decode cX11_income 25 = .ok (.iload_n 1, 1) := by decide +kernel
theorem dX11_income_26 : decode cX11_income 26 = .ok (.invokevirtual 193, 3) := by decide +kernel
theorem dX11_income_29 : decode cX11_income 29 = .ok (.goto 5, 3) := by decide +kernel
theorem dX11_income_32 : decode cX11_income 32 = .ok (.bipush (-2), 2) := by decide +kernel
theorem dX11_income_34 : decode cX11_income 34 = .ok (.ireturn, 1) := by decide +kernel
set_option maxRecDepth 20000 in
theorem ggX11_come_X11_within : GoodIn wsX11_come wsX11_within := goodIn_r _ [6] (by decide +kernel) (by decide +kernel)
set_option maxRecDepth 20000 in
theorem gX11_come_X11_within : GoodIn wsX11_come (va_wsS RX11 107 yX11_within wsX11_within) := goodIn_app (goodIn_of _ (by decide +kernel)) ggX11_come_X11_within
set_option maxRecDepth 20000 in
theorem ggX11_come_X11_act : GoodIn wsX11_come wsX11_act := goodIn_r _ [10, 11, 12, 1, 13, 14, 15, 16, 17, 18, 19, 20, 21, 22, 23, 24, 25, 26, 27, 28, 29, 30, 31, 32, 33, 34, 35, 36, 37, 38, 39, 40, 41, 42, 43, 44, 45, 46, 47, 48, 49, 50, 51, 52, 53, 54, 55, 56, 57, 58, 59, 60, 61, 62, 63, 64, 65, 5, 66, 67, 68, 69, 70, 71, 72, 73, 74, 75, 76, 77, 78, 79, 80, 81, 82, 83, 84, 85, 86, 87, 88, 89, 90, 91, 92, 93, 94, 95, 96, 97, 98, 99, 100, 101, 102, 103, 104, 105, 106, 107, 108, 109, 110, 111, 112, 113, 114, 115, 116, 117, 118, 119, 120, 121, 122, 123, 124, 125, 126, 127, 128, 129, 130, 131, 132, 133, 134, 135, 136, 137, 138, 139, 140, 141, 142, 148, 149, 150, 151, 152, 143, 144, 145, 146, 147, 153, 154, 155, 156, 157, 158, 159, 160, 161, 162, 163, 164, 165, 166, 167, 168, 169, 170, 171, 172, 173, 174, 175, 176, 177, 178, 179, 180, 181, 182, 183, 184, 185, 186, 187, 188, 189, 190, 191, 192, 193] (by decide +kernel) (by decide +kernel)
set_option maxRecDepth 20000 in
theorem gX11_come_X11_act : GoodIn wsX11_come (wsV RX11 196 RX11 yX11_act wsX11_act) := goodIn_app (goodIn_of _ (by decide +kernel)) ggX11_come_X11_act
theorem dX11_come_0 : decode cX11_come 0 = .ok (.iload_n 1, 1) := by decide +kernel
theorem dX11_come_1 : decode cX11_come 1 = .ok (.iconst 0, 1) := by decide +kernel
theorem dX11_come_2 : decode cX11_come 2 = .ok (.sipush 600, 3) := by decide +kernel
theorem dX11_come_5 : decode cX11_come 5 = .ok (.invokestatic 107, 3) := by decide +kernel
theorem dX11_come_8 : decode cX11_come 8 = .ok (.ifCond .eq 25, 3) := by decide +kernel
theorem dX11_come_11 : decode cX11_come 11 = .ok (.iload_n 2, 1) := by decide +kernel
theorem dX11_come_12 : decode cX11_come 12 = .ok (.iconst 1, 1) := by decide +kernel
theorem dX11_come_13 : decode cX11_come 13 = .ok (.bipush 99, 2) := by decide +kernel
theorem dX11_come_15 : decode cX11_come 15 = .ok (.invokestatic 107, 3) := by decide +kernel
theorem dX11_come_18 : decode cX11_come 18 = .ok (.ifCond .eq 15, 3) := by decide +kernel
theorem dX11_come_21 : decode cX11_come 21 = .ok (.aload_n 0, 1) := by decide +kernel
theorem dX11_come_22 : decode cX11_come 22 = .ok (.getfield 37, 3) := by decide +kernel
theorem dX11_come_25 : decode cX11_come 25 = .ok (.getfield 49, 3) := by decide +kernel
theorem dX11_come_28 : decode cX11_come 28 = .ok (.bipush 24, 2) := by decide +kernel
theorem dX11_come_30 : decode cX11_come 30 = .ok (.if_icmp .lt 5, 3) := by decide +kernel
theorem dX11_come_33 : decode cX11_come 33 = .ok (.iconst (-1), 1) := by decide +kernel
theorem dX11_come_34 : decode cX11_come 34 = .ok (.ireturn, 1) := by decide +kernel
theorem dX11_come_35 : decode cX11_come 35 = .ok (.aload_n 0, 1) := by decide +kernel
theorem dX11_come_36 : decode cX11_come 36 = .ok (.iconst 0, 1) := by decide +kernel
theorem dX11_come_37 : decode cX11_come 37 = .ok (.iload_n 1, 1) := by decide +kernel
theorem dX11_come_38 : decode cX11_come 38 = .ok (.iload_n 2, 1) := by decide +kernel
theorem dX11_come_39 : decode cX11_come 39 = .ok (.invokevirtual 196, 3) := by decide +kernel
theorem dX11_come_42 : decode cX11_come 42 = .ok (.aload_n 0, 1) := by decide +kernel
theorem dX11_come_43 : decode cX11_come 43 = .ok (.getfield 37, 3) := by decide +kernel
theorem dX11_come_46 : decode cX11_come 46 = .ok (.getfield 49, 3) := by decide +kernel
theorem dX11_come_49 : decode cX11_come 49 = .ok (.iconst 1, 1) := by decide +kernel
theorem dX11_come_50 : decode cX11_come 50 = .ok (.isub, 1) := by decide +kernel
theorem dX11_come_51 : decode cX11_come 51 = .ok (.ireturn, 1) := by decide +kernel
set_option maxRecDepth 20000 in
theorem ggX11_doubt_X11_isCart : GoodIn wsX11_doubt wsX11_isCart := goodIn_r _ [9, 3, 10, 11, 12, 8, 13, 137, 138, 139, 140, 141, 142, 143, 144, 145, 146, 147, 148, 149, 150, 169, 170, 171, 172, 173] (by decide +kernel) (by decide +kernel)
set_option maxRecDepth 20000 in
theorem gX11_doubt_X11_isCart : GoodIn wsX11_doubt (wsV RX11 135 RX11 yX11_isCart wsX11_isCart) := goodIn_app (goodIn_of _ (by decide +kernel)) ggX11_doubt_X11_isCart
set_option maxRecDepth 20000 in
theorem ggX11_doubt_X11_has : GoodIn wsX11_doubt wsX11_has := goodIn_r _ [16] (by decide +kernel) (by decide +kernel)
set_option maxRecDepth 20000 in
theorem gX11_doubt_X11_has : GoodIn wsX11_doubt (va_wsS RX11 148 yX11_has wsX11_has) := goodIn_app (goodIn_of _ (by decide +kernel)) ggX11_doubt_X11_has
set_option maxRecDepth 20000 in
theorem ggX11_doubt_X11_act : GoodIn wsX11_doubt wsX11_act := goodIn_r _ [20, 21, 22, 3, 23, 24, 25, 26, 27, 28, 29, 30, 31, 32, 33, 34, 35, 36, 37, 38, 39, 40, 41, 42, 43, 44, 45, 46, 47, 48, 49, 50, 51, 52, 53, 54, 55, 56, 57, 58, 59, 60, 61, 62, 63, 64, 65, 66, 67, 68, 69, 70, 71, 72, 73, 74, 15, 8, 16, 75, 76, 77, 78, 79, 80, 81, 82, 83, 84, 85, 86, 87, 88, 89, 90, 91, 92, 93, 94, 95, 96, 97, 98, 99, 100, 101, 102, 103, 104, 105, 106, 107, 108, 109, 110, 111, 112, 113, 114, 115, 116, 117, 118, 119, 120, 121, 122, 123, 124, 125, 126, 127, 128, 129, 130, 131, 132, 133, 134, 135, 136, 137, 138, 139, 140, 141, 142, 143, 144, 145, 146, 147, 148, 149, 150, 174, 175, 176, 177, 178, 169, 170, 171, 172, 173, 179, 180, 181, 182, 183, 184, 185, 151, 152, 153, 154, 155, 156, 157, 158, 159, 160, 161, 162, 163, 164, 165, 166, 167, 168, 186, 187, 188, 189, 190, 191, 192, 193, 194, 195, 196, 197, 198, 199, 200, 201] (by decide +kernel) (by decide +kernel)
set_option maxRecDepth 20000 in
theorem gX11_doubt_X11_act : GoodIn wsX11_doubt (wsV RX11 196 RX11 yX11_act wsX11_act) := goodIn_app (goodIn_of _ (by decide +kernel)) ggX11_doubt_X11_act
theorem dX11_doubt_0 : decode cX11_doubt 0 = .ok (.aload_n 0, 1) := by decide +kernel
theorem dX11_doubt_1 : decode cX11_doubt 1 = .ok (.iload_n 1, 1) := by decide +kernel
theorem dX11_doubt_2 : decode cX11_doubt 2 = .ok (.invokevirtual 135, 3) := by decide +kernel
theorem dX11_doubt_5 : decode cX11_doubt 5 = .ok (.ifCond .eq 17, 3) := by decide +kernel
theorem dX11_doubt_8 : decode cX11_doubt 8 = .ok (.aload_n 0, 1) := by decide +kernel
theorem dX11_doubt_9 : decode cX11_doubt 9 = .ok (.getfield 27, 3) := by decide +kernel
theorem dX11_doubt_12 : decode cX11_doubt 12 = .ok (.getfield 152, 3) := by decide +kernel
theorem dX11_doubt_15 : decode cX11_doubt 15 = .ok (.iload_n 1, 1) := by decide +kernel
theorem dX11_doubt_16 : decode cX11_doubt 16 = .ok (.invokestatic 148, 3) := by decide +kernel
theorem dX11_doubt_19 : decode cX11_doubt 19 = .ok (.ifCond .ne 5, 3) := by decide +kernel
theorem dX11_doubt_22 : decode cX11_doubt 22 = .ok (.iconst (-1), 1) := by decide +kernel
theorem dX11_doubt_23 : decode cX11_doubt 23 = .ok (.ireturn, 1) := by decide +kernel
theorem dX11_doubt_24 : decode cX11_doubt 24 = .ok (.aload_n 0, 1) := by decide +kernel
theorem dX11_doubt_25 : decode cX11_doubt 25 = .ok (.iconst 1, 1) := by decide +kernel
theorem dX11_doubt_26 : decode cX11_doubt 26 = .ok (.iload_n 1, 1) := by decide +kernel
theorem dX11_doubt_27 : decode cX11_doubt 27 = .ok (.iconst 0, 1) := by decide +kernel
theorem dX11_doubt_28 : decode cX11_doubt 28 = .ok (.invokevirtual 196, 3) := by decide +kernel
theorem dX11_doubt_31 : decode cX11_doubt 31 = .ok (.aload_n 0, 1) := by decide +kernel
theorem dX11_doubt_32 : decode cX11_doubt 32 = .ok (.getfield 37, 3) := by decide +kernel
theorem dX11_doubt_35 : decode cX11_doubt 35 = .ok (.getfield 145, 3) := by decide +kernel
theorem dX11_doubt_38 : decode cX11_doubt 38 = .ok (.iload_n 1, 1) := by decide +kernel
theorem dX11_doubt_39 : decode cX11_doubt 39 = .ok (.invokestatic 148, 3) := by decide +kernel
theorem dX11_doubt_42 : decode cX11_doubt 42 = .ok (.ifCond .eq 7, 3) := by decide +kernel
theorem dX11_doubt_45 : decode cX11_doubt 45 = .ok (.iconst 1, 1) := by decide +kernel
theorem dX11_doubt_46 : decode cX11_doubt 46 = .ok (.goto 4, 3) := by decide +kernel
theorem dX11_doubt_49 : decode cX11_doubt 49 = .ok (.iconst 0, 1) := by decide +kernel
theorem dX11_doubt_50 : decode cX11_doubt 50 = .ok (.ireturn, 1) := by decide +kernel
set_option maxRecDepth 20000 in
theorem ggX11_learn_X11_isBird : GoodIn wsX11_learn wsX11_isBird := goodIn_r _ [7, 8, 9, 10, 11, 6, 12, 135, 136, 137, 138, 139, 140, 141, 142, 143, 144, 145, 146, 147, 148, 154, 155, 156, 157, 158, 159, 160, 161, 162, 163, 164, 165, 166, 167, 168, 169, 170, 171] (by decide +kernel) (by decide +kernel)
set_option maxRecDepth 20000 in
theorem gX11_learn_X11_isBird : GoodIn wsX11_learn (wsV RX11 168 RX11 yX11_isBird wsX11_isBird) := goodIn_app (goodIn_of _ (by decide +kernel)) ggX11_learn_X11_isBird
set_option maxRecDepth 20000 in
theorem ggX11_learn_X11_within : GoodIn wsX11_learn wsX11_within := goodIn_r _ [12] (by decide +kernel) (by decide +kernel)
set_option maxRecDepth 20000 in
theorem gX11_learn_X11_within : GoodIn wsX11_learn (va_wsS RX11 107 yX11_within wsX11_within) := goodIn_app (goodIn_of _ (by decide +kernel)) ggX11_learn_X11_within
set_option maxRecDepth 20000 in
theorem ggX11_learn_X11_act : GoodIn wsX11_learn wsX11_act := goodIn_r _ [16, 17, 18, 1, 19, 20, 21, 22, 23, 24, 25, 26, 27, 28, 29, 30, 31, 32, 33, 34, 35, 36, 37, 38, 39, 40, 41, 42, 43, 44, 45, 46, 47, 48, 49, 50, 51, 52, 53, 54, 55, 56, 57, 58, 59, 60, 61, 62, 63, 64, 65, 66, 67, 68, 69, 70, 71, 6, 72, 73, 74, 75, 76, 77, 78, 79, 80, 81, 82, 83, 84, 85, 86, 87, 88, 89, 90, 91, 92, 93, 94, 95, 96, 97, 98, 99, 100, 101, 102, 103, 104, 105, 106, 107, 108, 109, 110, 111, 112, 113, 114, 115, 116, 117, 118, 119, 120, 121, 122, 123, 124, 125, 126, 127, 128, 129, 130, 131, 132, 133, 134, 135, 136, 137, 138, 139, 140, 141, 142, 143, 144, 145, 146, 147, 148, 172, 173, 174, 175, 176, 149, 150, 151, 152, 153, 177, 178, 179, 180, 181, 182, 183, 154, 155, 156, 157, 158, 159, 160, 161, 162, 163, 164, 165, 166, 167, 168, 169, 170, 171, 184, 185, 186, 187, 188, 189, 190, 191, 192, 193, 194, 195, 196, 197, 198, 199] (by decide +kernel) (by decide +kernel)
set_option maxRecDepth 20000 in
theorem gX11_learn_X11_act : GoodIn wsX11_learn (wsV RX11 196 RX11 yX11_act wsX11_act) := goodIn_app (goodIn_of _ (by decide +kernel)) ggX11_learn_X11_act
theorem dX11_learn_0 : decode cX11_learn 0 = .ok (.aload_n 0, 1) := by decide +kernel
theorem dX11_learn_1 : decode cX11_learn 1 = .ok (.iload_n 1, 1) := by decide +kernel
theorem dX11_learn_2 : decode cX11_learn 2 = .ok (.invokevirtual 168, 3) := by decide +kernel
theorem dX11_learn_5 : decode cX11_learn 5 = .ok (.ifCond .eq 34, 3) := by decide +kernel
theorem dX11_learn_8 : decode cX11_learn 8 = .ok (.iload_n 2, 1) := by decide +kernel
theorem dX11_learn_9 : decode cX11_learn 9 = .ok (.bipush (-19), 2) := by decide +kernel
theorem dX11_learn_11 : decode cX11_learn 11 = .ok (.bipush 19, 2) := by decide +kernel
theorem dX11_learn_13 : decode cX11_learn 13 = .ok (.invokestatic 107, 3) := by decide +kernel
theorem dX11_learn_16 : decode cX11_learn 16 = .ok (.ifCond .eq 23, 3) := by decide +kernel
theorem dX11_learn_19 : decode cX11_learn 19 = .ok (.aload_n 0, 1) := by decide +kernel
theorem dX11_learn_20 : decode cX11_learn 20 = .ok (.getfield 37, 3) := by decide +kernel
theorem dX11_learn_23 : decode cX11_learn 23 = .ok (.getfield 171, 3) := by decide +kernel
theorem dX11_learn_26 : decode cX11_learn 26 = .ok (.iload_n 1, 1) := by decide +kernel
theorem dX11_learn_27 : decode cX11_learn 27 = .ok (.iaload, 1) := by decide +kernel
theorem dX11_learn_28 : decode cX11_learn 28 = .ok (.iload_n 2, 1) := by decide +kernel
theorem dX11_learn_29 : decode cX11_learn 29 = .ok (.iadd, 1) := by decide +kernel
theorem dX11_learn_30 : decode cX11_learn 30 = .ok (.iconst 1, 1) := by decide +kernel
theorem dX11_learn_31 : decode cX11_learn 31 = .ok (.bipush 20, 2) := by decide +kernel
theorem dX11_learn_33 : decode cX11_learn 33 = .ok (.invokestatic 107, 3) := by decide +kernel
theorem dX11_learn_36 : decode cX11_learn 36 = .ok (.ifCond .ne 5, 3) := by decide +kernel
theorem dX11_learn_39 : decode cX11_learn 39 = .ok (.iconst (-1), 1) := by decide +kernel
theorem dX11_learn_40 : decode cX11_learn 40 = .ok (.ireturn, 1) := by decide +kernel
theorem dX11_learn_41 : decode cX11_learn 41 = .ok (.aload_n 0, 1) := by decide +kernel
theorem dX11_learn_42 : decode cX11_learn 42 = .ok (.iconst 2, 1) := by decide +kernel
theorem dX11_learn_43 : decode cX11_learn 43 = .ok (.iload_n 1, 1) := by decide +kernel
theorem dX11_learn_44 : decode cX11_learn 44 = .ok (.iload_n 2, 1) := by decide +kernel
theorem dX11_learn_45 : decode cX11_learn 45 = .ok (.invokevirtual 196, 3) := by decide +kernel
theorem dX11_learn_48 : decode cX11_learn 48 = .ok (.aload_n 0, 1) := by decide +kernel
theorem dX11_learn_49 : decode cX11_learn 49 = .ok (.getfield 37, 3) := by decide +kernel
theorem dX11_learn_52 : decode cX11_learn 52 = .ok (.getfield 171, 3) := by decide +kernel
theorem dX11_learn_55 : decode cX11_learn 55 = .ok (.iload_n 1, 1) := by decide +kernel
theorem dX11_learn_56 : decode cX11_learn 56 = .ok (.iaload, 1) := by decide +kernel
theorem dX11_learn_57 : decode cX11_learn 57 = .ok (.ireturn, 1) := by decide +kernel
set_option maxRecDepth 20000 in
theorem ggX11_act_X0_keep : GoodIn wsX11_act wsX0_keep := goodIn_r _ [9, 10, 11, 12, 13, 14, 15, 16, 17, 18, 135, 136, 137, 138, 139] (by decide +kernel) (by decide +kernel)
set_option maxRecDepth 20000 in
theorem gX11_act_X0_keep : GoodIn wsX11_act (wsV RX11 200 RX0 yX0_keep wsX0_keep) := goodIn_app (goodIn_of _ (by decide +kernel)) ggX11_act_X0_keep
set_option maxRecDepth 20000 in
theorem ggX11_act_X0_carryOut : GoodIn wsX11_act wsX0_carryOut := goodIn_r _ [22, 11, 16, 17, 23, 24, 25, 26, 27, 28, 29, 30, 31, 32, 135, 136, 137, 138, 139, 140, 141, 142, 143, 144] (by decide +kernel) (by decide +kernel)
set_option maxRecDepth 20000 in
theorem gX11_act_X0_carryOut : GoodIn wsX11_act (wsV RX11 206 RX0 yX0_carryOut wsX0_carryOut) := goodIn_app (goodIn_of _ (by decide +kernel)) ggX11_act_X0_carryOut
set_option maxRecDepth 20000 in
theorem ggX11_act_X1_workOut : GoodIn wsX11_act wsX1_workOut := goodIn_r _ [37, 38, 39, 40, 41, 42, 43, 44, 45, 46, 47, 48, 49, 50, 51, 52, 53, 28, 54, 30, 55, 56, 57, 58, 59, 60, 61, 62, 63, 64, 65, 66, 67, 68, 69, 70, 71, 13, 14, 15, 72, 73, 74, 75, 76, 77, 78, 79, 80, 81, 82, 83, 84, 85, 86, 87, 88, 89, 90, 91, 92, 93, 94, 95, 96, 97, 98, 99, 100, 101, 102, 103, 104, 105, 106, 107, 108, 109, 110, 111, 112, 113, 114, 115, 116, 117, 118, 119, 120, 145, 146, 147, 148, 149, 150, 151, 140, 141, 142, 143, 144, 152, 153, 154, 155, 156, 157, 158, 159, 160, 161, 162, 163, 164, 165, 166, 167, 168, 169, 170, 171, 172, 173, 174, 175, 176, 177, 178, 179, 180, 181, 182, 183, 184, 185] (by decide +kernel) (by decide +kernel)
set_option maxRecDepth 20000 in
theorem gX11_act_X1_workOut : GoodIn wsX11_act (wsV RX11 126 RX1 yX1_workOut wsX1_workOut) := goodIn_app (goodIn_of _ (by decide +kernel)) ggX11_act_X1_workOut
theorem dX11_act_0 : decode cX11_act 0 = .ok (.aload_n 0, 1) := by decide +kernel
theorem dX11_act_1 : decode cX11_act 1 = .ok (.getfield 55, 3) := by decide +kernel
theorem dX11_act_4 : decode cX11_act 4 = .ok (.iload_n 1, 1) := by decide +kernel
theorem dX11_act_5 : decode cX11_act 5 = .ok (.iload_n 2, 1) := by decide +kernel
theorem dX11_act_6 : decode cX11_act 6 = .ok (.iload_n 3, 1) := by decide +kernel
theorem dX11_act_7 : decode cX11_act 7 = .ok (.invokevirtual 200, 3) := by decide +kernel
theorem dX11_act_10 : decode cX11_act 10 = .ok (.aload_n 0, 1) := by decide +kernel
theorem dX11_act_11 : decode cX11_act 11 = .ok (.getfield 55, 3) := by decide +kernel
theorem dX11_act_14 : decode cX11_act 14 = .ok (.aload_n 0, 1) := by decide +kernel
theorem dX11_act_15 : decode cX11_act 15 = .ok (.getfield 55, 3) := by decide +kernel
theorem dX11_act_18 : decode cX11_act 18 = .ok (.getfield 203, 3) := by decide +kernel
theorem dX11_act_21 : decode cX11_act 21 = .ok (.iconst 1, 1) := by decide +kernel
theorem dX11_act_22 : decode cX11_act 22 = .ok (.isub, 1) := by decide +kernel
theorem dX11_act_23 : decode cX11_act 23 = .ok (.aload_n 0, 1) := by decide +kernel
theorem dX11_act_24 : decode cX11_act 24 = .ok (.getfield 37, 3) := by decide +kernel
theorem dX11_act_27 : decode cX11_act 27 = .ok (.invokevirtual 206, 3) := by decide +kernel
theorem dX11_act_30 : decode cX11_act 30 = .ok (.aload_n 0, 1) := by decide +kernel
theorem dX11_act_31 : decode cX11_act 31 = .ok (.getfield 72, 3) := by decide +kernel
theorem dX11_act_34 : decode cX11_act 34 = .ok (.invokevirtual 126, 3) := by decide +kernel
theorem dX11_act_37 : decode cX11_act 37 = .ok (.return_, 1) := by decide +kernel
set_option maxRecDepth 20000 in
theorem ggX11_undo_X0_takeBackLatest : GoodIn wsX11_undo wsX0_takeBackLatest := goodIn_r _ [8, 9, 10, 11, 12, 7, 13, 14, 15, 16, 17, 18, 19, 20, 21, 22, 23, 24, 130, 131, 132, 133, 134, 135, 136, 137, 138, 139] (by decide +kernel) (by decide +kernel)
set_option maxRecDepth 20000 in
theorem gX11_undo_X0_takeBackLatest : GoodIn wsX11_undo (wsV RX11 210 RX0 yX0_takeBackLatest wsX0_takeBackLatest) := goodIn_app (goodIn_of _ (by decide +kernel)) ggX11_undo_X0_takeBackLatest
set_option maxRecDepth 20000 in
theorem ggX11_undo_X1_workOut : GoodIn wsX11_undo wsX1_workOut := goodIn_r _ [29, 30, 31, 32, 33, 34, 35, 36, 37, 38, 39, 40, 41, 42, 43, 44, 45, 22, 46, 24, 47, 48, 49, 50, 51, 52, 53, 54, 55, 56, 57, 58, 59, 60, 61, 62, 63, 64, 65, 66, 67, 68, 69, 70, 71, 72, 73, 74, 75, 76, 77, 78, 79, 80, 81, 82, 83, 84, 85, 86, 87, 88, 89, 90, 91, 92, 93, 94, 95, 96, 97, 98, 99, 100, 101, 102, 103, 104, 105, 106, 107, 108, 109, 110, 111, 112, 113, 114, 115, 140, 141, 142, 143, 144, 145, 146, 135, 136, 137, 138, 139, 147, 148, 149, 150, 151, 152, 153, 154, 155, 156, 157, 158, 159, 160, 161, 162, 163, 164, 165, 166, 167, 168, 169, 170, 171, 172, 173, 174, 175, 176, 177, 178, 179, 180] (by decide +kernel) (by decide +kernel)
set_option maxRecDepth 20000 in
theorem gX11_undo_X1_workOut : GoodIn wsX11_undo (wsV RX11 126 RX1 yX1_workOut wsX1_workOut) := goodIn_app (goodIn_of _ (by decide +kernel)) ggX11_undo_X1_workOut
theorem dX11_undo_0 : decode cX11_undo 0 = .ok (.aload_n 0, 1) := by decide +kernel
theorem dX11_undo_1 : decode cX11_undo 1 = .ok (.getfield 55, 3) := by decide +kernel
theorem dX11_undo_4 : decode cX11_undo 4 = .ok (.aload_n 0, 1) := by decide +kernel
theorem dX11_undo_5 : decode cX11_undo 5 = .ok (.getfield 37, 3) := by decide +kernel
theorem dX11_undo_8 : decode cX11_undo 8 = .ok (.invokevirtual 210, 3) := by decide +kernel
theorem dX11_undo_11 : decode cX11_undo 11 = .ok (.ifCond .ne 5, 3) := by decide +kernel
theorem dX11_undo_14 : decode cX11_undo 14 = .ok (.iconst 0, 1) := by decide +kernel
theorem dX11_undo_15 : decode cX11_undo 15 = .ok (.ireturn, 1) := by decide +kernel
theorem dX11_undo_16 : decode cX11_undo 16 = .ok (.aload_n 0, 1) := by decide +kernel
theorem dX11_undo_17 : decode cX11_undo 17 = .ok (.getfield 72, 3) := by decide +kernel
theorem dX11_undo_20 : decode cX11_undo 20 = .ok (.invokevirtual 126, 3) := by decide +kernel
theorem dX11_undo_23 : decode cX11_undo 23 = .ok (.iconst 1, 1) := by decide +kernel
theorem dX11_undo_24 : decode cX11_undo 24 = .ok (.ireturn, 1) := by decide +kernel
set_option maxRecDepth 20000 in
theorem ggX11_redo_X0_doAgain : GoodIn wsX11_redo wsX0_doAgain := goodIn_r _ [8, 9, 10, 11, 12, 13, 7, 14, 15, 16, 17, 18, 19, 20, 21, 22, 23, 24, 25, 26, 27, 133, 134, 135, 136, 137, 138, 139, 140, 141, 142] (by decide +kernel) (by decide +kernel)
set_option maxRecDepth 20000 in
theorem gX11_redo_X0_doAgain : GoodIn wsX11_redo (wsV RX11 214 RX0 yX0_doAgain wsX0_doAgain) := goodIn_app (goodIn_of _ (by decide +kernel)) ggX11_redo_X0_doAgain
set_option maxRecDepth 20000 in
theorem ggX11_redo_X1_workOut : GoodIn wsX11_redo wsX1_workOut := goodIn_r _ [32, 33, 34, 35, 36, 37, 38, 39, 40, 41, 42, 43, 44, 45, 46, 47, 48, 23, 49, 25, 50, 51, 52, 53, 54, 55, 56, 57, 58, 59, 60, 61, 62, 63, 64, 65, 66, 67, 68, 69, 70, 71, 72, 73, 74, 75, 76, 77, 78, 79, 80, 81, 82, 83, 84, 85, 86, 87, 88, 89, 90, 91, 92, 93, 94, 95, 96, 97, 98, 99, 100, 101, 102, 103, 104, 105, 106, 107, 108, 109, 110, 111, 112, 113, 114, 115, 116, 117, 118, 143, 144, 145, 146, 147, 148, 149, 138, 139, 140, 141, 142, 150, 151, 152, 153, 154, 155, 156, 157, 158, 159, 160, 161, 162, 163, 164, 165, 166, 167, 168, 169, 170, 171, 172, 173, 174, 175, 176, 177, 178, 179, 180, 181, 182, 183] (by decide +kernel) (by decide +kernel)
set_option maxRecDepth 20000 in
theorem gX11_redo_X1_workOut : GoodIn wsX11_redo (wsV RX11 126 RX1 yX1_workOut wsX1_workOut) := goodIn_app (goodIn_of _ (by decide +kernel)) ggX11_redo_X1_workOut
theorem dX11_redo_0 : decode cX11_redo 0 = .ok (.aload_n 0, 1) := by decide +kernel
theorem dX11_redo_1 : decode cX11_redo 1 = .ok (.getfield 55, 3) := by decide +kernel
theorem dX11_redo_4 : decode cX11_redo 4 = .ok (.aload_n 0, 1) := by decide +kernel
theorem dX11_redo_5 : decode cX11_redo 5 = .ok (.getfield 37, 3) := by decide +kernel
theorem dX11_redo_8 : decode cX11_redo 8 = .ok (.invokevirtual 214, 3) := by decide +kernel
theorem dX11_redo_11 : decode cX11_redo 11 = .ok (.ifCond .ne 5, 3) := by decide +kernel
theorem dX11_redo_14 : decode cX11_redo 14 = .ok (.iconst 0, 1) := by decide +kernel
theorem dX11_redo_15 : decode cX11_redo 15 = .ok (.ireturn, 1) := by decide +kernel
theorem dX11_redo_16 : decode cX11_redo 16 = .ok (.aload_n 0, 1) := by decide +kernel
theorem dX11_redo_17 : decode cX11_redo 17 = .ok (.getfield 72, 3) := by decide +kernel
theorem dX11_redo_20 : decode cX11_redo 20 = .ok (.invokevirtual 126, 3) := by decide +kernel
theorem dX11_redo_23 : decode cX11_redo 23 = .ok (.iconst 1, 1) := by decide +kernel
theorem dX11_redo_24 : decode cX11_redo 24 = .ok (.ireturn, 1) := by decide +kernel
set_option maxRecDepth 20000 in
theorem ggX11_party_X11_within : GoodIn wsX11_party wsX11_within := goodIn_r _ [9] (by decide +kernel) (by decide +kernel)
set_option maxRecDepth 20000 in
theorem gX11_party_X11_within : GoodIn wsX11_party (va_wsS RX11 107 yX11_within wsX11_within) := goodIn_app (goodIn_of _ (by decide +kernel)) ggX11_party_X11_within
set_option maxRecDepth 20000 in
theorem ggX11_party_X2_leastOfParty : GoodIn wsX11_party wsX2_leastOfParty := goodIn_r _ [14, 15, 16, 17, 18, 13, 19, 20, 21, 22, 23, 24, 25, 26, 27, 28, 29, 30, 31, 32, 33, 8, 34, 35, 36, 37, 38, 39, 40, 41, 42, 43, 44, 45, 46, 47, 48, 49, 50, 51, 52, 53, 54, 55, 56, 57, 58, 59, 60, 61, 62, 63, 64, 65, 66, 67, 68, 69, 70, 71, 72, 73, 74, 75, 76, 77, 78, 79, 80, 81, 82, 83, 84, 85, 86, 87, 88, 89, 90, 91, 92, 93, 94, 95, 96, 97, 98, 99, 100, 101, 102, 103, 104, 105, 106, 107, 108, 109, 136, 137, 138, 139, 140, 141, 142, 143, 144, 145, 146, 131, 132, 133, 134, 135, 147, 148, 149, 150, 151, 152, 153, 154, 155, 156, 157, 158, 159, 160, 161, 162, 163, 164, 165, 166, 167, 168, 169, 170, 171, 172, 173, 174, 175, 176, 177, 178, 179, 180] (by decide +kernel) (by decide +kernel)
set_option maxRecDepth 20000 in
theorem gX11_party_X2_leastOfParty : GoodIn wsX11_party (wsV RX11 217 RX2 yX2_leastOfParty wsX2_leastOfParty) := goodIn_app (goodIn_of _ (by decide +kernel)) ggX11_party_X2_leastOfParty
set_option maxRecDepth 20000 in
theorem ggX11_party_X11_layThere : GoodIn wsX11_party wsX11_layThere := goodIn_r _ [113, 114, 115, 100, 101, 102, 1, 116, 44, 45, 46, 117, 118, 119, 120, 121, 122, 123, 124, 125, 126, 127, 128, 129, 130] (by decide +kernel) (by decide +kernel)
set_option maxRecDepth 20000 in
theorem gX11_party_X11_layThere : GoodIn wsX11_party (wsV RX11 224 RX11 yX11_layThere wsX11_layThere) := goodIn_app (goodIn_of _ (by decide +kernel)) ggX11_party_X11_layThere
theorem dX11_party_0 : decode cX11_party 0 = .ok (.aload_n 0, 1) := by decide +kernel
theorem dX11_party_1 : decode cX11_party 1 = .ok (.iconst 0, 1) := by decide +kernel
theorem dX11_party_2 : decode cX11_party 2 = .ok (.putfield 100, 3) := by decide +kernel
theorem dX11_party_5 : decode cX11_party 5 = .ok (.iload_n 1, 1) := by decide +kernel
theorem dX11_party_6 : decode cX11_party 6 = .ok (.iconst 1, 1) := by decide +kernel
theorem dX11_party_7 : decode cX11_party 7 = .ok (.iconst 3, 1) := by decide +kernel
theorem dX11_party_8 : decode cX11_party 8 = .ok (.invokestatic 107, 3) := by decide +kernel
theorem dX11_party_11 : decode cX11_party 11 = .ok (.ifCond .eq 60, 3) := by decide +kernel
theorem dX11_party_14 : decode cX11_party 14 = .ok (.iload_n 2, 1) := by decide +kernel
theorem dX11_party_15 : decode cX11_party 15 = .ok (.iconst 1, 1) := by decide +kernel
theorem dX11_party_16 : decode cX11_party 16 = .ok (.bipush 99, 2) := by decide +kernel
theorem dX11_party_18 : decode cX11_party 18 = .ok (.invokestatic 107, 3) := by decide +kernel
theorem dX11_party_21 : decode cX11_party 21 = .ok (.ifCond .eq 50, 3) := by decide +kernel
theorem dX11_party_24 : decode cX11_party 24 = .ok (.iload_n 3, 1) := by decide +kernel
theorem dX11_party_25 : decode cX11_party 25 = .ok (.iconst 0, 1) := by decide +kernel
theorem dX11_party_26 : decode cX11_party 26 = .ok (.sipush 600, 3) := by decide +kernel
theorem dX11_party_29 : decode cX11_party 29 = .ok (.invokestatic 107, 3) := by decide +kernel
theorem dX11_party_32 : decode cX11_party 32 = .ok (.ifCond .eq 39, 3) := by decide +kernel
theorem dX11_party_35 : decode cX11_party 35 = .ok (.iload 4, 2) := by decide +kernel
theorem dX11_party_37 : decode cX11_party 37 = .ok (.iconst 0, 1) := by decide +kernel
theorem dX11_party_38 : decode cX11_party 38 = .ok (.bipush 20, 2) := by decide +kernel
theorem dX11_party_40 : decode cX11_party 40 = .ok (.invokestatic 107, 3) := by decide +kernel
theorem dX11_party_43 : decode cX11_party 43 = .ok (.ifCond .eq 28, 3) := by decide +kernel
theorem dX11_party_46 : decode cX11_party 46 = .ok (.iload 5, 2) := by decide +kernel
theorem dX11_party_48 : decode cX11_party 48 = .ok (.iconst 0, 1) := by decide +kernel
theorem dX11_party_49 : decode cX11_party 49 = .ok (.bipush 99, 2) := by decide +kernel
theorem dX11_party_51 : decode cX11_party 51 = .ok (.invokestatic 107, 3) := by decide +kernel
theorem dX11_party_54 : decode cX11_party 54 = .ok (.ifCond .eq 17, 3) := by decide +kernel
theorem dX11_party_57 : decode cX11_party 57 = .ok (.aload_n 0, 1) := by decide +kernel
theorem dX11_party_58 : decode cX11_party 58 = .ok (.getfield 37, 3) := by decide +kernel
theorem dX11_party_61 : decode cX11_party 61 = .ok (.getfield 49, 3) := by decide +kernel
theorem dX11_party_64 : decode cX11_party 64 = .ok (.iload_n 1, 1) := by decide +kernel
theorem dX11_party_65 : decode cX11_party 65 = .ok (.iadd, 1) := by decide +kernel
theorem dX11_party_66 : decode cX11_party 66 = .ok (.bipush 24, 2) := by decide +kernel
theorem dX11_party_68 : decode cX11_party 68 = .ok (.if_icmp .le 5, 3) := by decide +kernel
theorem dX11_party_71 : decode cX11_party 71 = .ok (.iconst (-1), 1) := by decide +kernel
theorem dX11_party_72 : decode cX11_party 72 = .ok (.ireturn, 1) := by decide +kernel
theorem dX11_party_73 : decode cX11_party 73 = .ok (.aload_n 0, 1) := by decide +kernel
theorem dX11_party_74 : decode cX11_party 74 = .ok (.getfield 79, 3) := by decide +kernel
theorem dX11_party_77 : decode cX11_party 77 = .ok (.iload_n 1, 1) := by decide +kernel
theorem dX11_party_78 : decode cX11_party 78 = .ok (.iload_n 2, 1) := by decide +kernel
theorem dX11_party_79 : decode cX11_party 79 = .ok (.iload_n 3, 1) := by decide +kernel
theorem dX11_party_80 : decode cX11_party 80 = .ok (.iload 4, 2) := by decide +kernel
theorem dX11_party_82 : decode cX11_party 82 = .ok (.iload 5, 2) := by decide +kernel
theorem dX11_party_84 : decode cX11_party 84 = .ok (.invokevirtual 217, 3) := by decide +kernel
theorem dX11_party_87 : decode cX11_party 87 = .ok (.istore 6, 2) := by decide +kernel
theorem dX11_party_89 : decode cX11_party 89 = .ok (.aload_n 0, 1) := by decide +kernel
theorem dX11_party_90 : decode cX11_party 90 = .ok (.aload_n 0, 1) := by decide +kernel
theorem dX11_party_91 : decode cX11_party 91 = .ok (.getfield 79, 3) := by decide +kernel
theorem dX11_party_94 : decode cX11_party 94 = .ok (.getfield 221, 3) := by decide +kernel
theorem dX11_party_97 : decode cX11_party 97 = .ok (.iload_n 1, 1) := by decide +kernel
theorem dX11_party_98 : decode cX11_party 98 = .ok (.invokevirtual 224, 3) := by decide +kernel
theorem dX11_party_101 : decode cX11_party 101 = .ok (.iload 6, 2) := by decide +kernel
theorem dX11_party_103 : decode cX11_party 103 = .ok (.ireturn, 1) := by decide +kernel
set_option maxRecDepth 20000 in
theorem ggX11_heaps_X11_within : GoodIn wsX11_heaps wsX11_within := goodIn_r _ [8] (by decide +kernel) (by decide +kernel)
set_option maxRecDepth 20000 in
theorem gX11_heaps_X11_within : GoodIn wsX11_heaps (va_wsS RX11 107 yX11_within wsX11_within) := goodIn_app (goodIn_of _ (by decide +kernel)) ggX11_heaps_X11_within
set_option maxRecDepth 20000 in
theorem ggX11_heaps_X2_bestHeaps : GoodIn wsX11_heaps wsX2_bestHeaps := goodIn_r _ [13, 14, 15, 16, 17, 12, 18, 19, 20, 21, 22, 23, 24, 25, 26, 27, 28, 29, 30, 31, 32, 7, 33, 34, 35, 36, 37, 38, 39, 40, 41, 42, 43, 44, 45, 46, 47, 48, 49, 50, 51, 52, 53, 54, 55, 56, 57, 58, 59, 60, 61, 62, 63, 64, 65, 66, 67, 68, 69, 70, 71, 72, 73, 74, 75, 76, 77, 78, 79, 80, 81, 82, 83, 84, 85, 86, 87, 88, 89, 90, 91, 92, 93, 94, 95, 96, 97, 98, 99, 100, 101, 102, 103, 104, 105, 106, 107, 127, 128, 129, 130, 131, 132, 133, 134, 135, 136, 137, 122, 123, 124, 125, 126, 138, 139, 140, 141, 142, 143, 144, 145, 146, 147, 148, 149, 150, 151, 152, 153, 154, 155, 156, 157, 158, 159, 160, 161, 162, 163, 164, 165, 166, 167, 168, 169, 170, 171] (by decide +kernel) (by decide +kernel)
set_option maxRecDepth 20000 in
theorem gX11_heaps_X2_bestHeaps : GoodIn wsX11_heaps (wsV RX11 228 RX2 yX2_bestHeaps wsX2_bestHeaps) := goodIn_app (goodIn_of _ (by decide +kernel)) ggX11_heaps_X2_bestHeaps
theorem dX11_heaps_0 : decode cX11_heaps 0 = .ok (.iload_n 1, 1) := by decide +kernel
theorem dX11_heaps_1 : decode cX11_heaps 1 = .ok (.iconst 1, 1) := by decide +kernel
theorem dX11_heaps_2 : decode cX11_heaps 2 = .ok (.bipush 99, 2) := by decide +kernel
theorem dX11_heaps_4 : decode cX11_heaps 4 = .ok (.invokestatic 107, 3) := by decide +kernel
theorem dX11_heaps_7 : decode cX11_heaps 7 = .ok (.ifCond .eq 38, 3) := by decide +kernel
theorem dX11_heaps_10 : decode cX11_heaps 10 = .ok (.iload_n 2, 1) := by decide +kernel
theorem dX11_heaps_11 : decode cX11_heaps 11 = .ok (.iconst 0, 1) := by decide +kernel
theorem dX11_heaps_12 : decode cX11_heaps 12 = .ok (.sipush 600, 3) := by decide +kernel
theorem dX11_heaps_15 : decode cX11_heaps 15 = .ok (.invokestatic 107, 3) := by decide +kernel
theorem dX11_heaps_18 : decode cX11_heaps 18 = .ok (.ifCond .eq 27, 3) := by decide +kernel
theorem dX11_heaps_21 : decode cX11_heaps 21 = .ok (.iload_n 3, 1) := by decide +kernel
theorem dX11_heaps_22 : decode cX11_heaps 22 = .ok (.iconst 0, 1) := by decide +kernel
theorem dX11_heaps_23 : decode cX11_heaps 23 = .ok (.iconst 1, 1) := by decide +kernel
theorem dX11_heaps_24 : decode cX11_heaps 24 = .ok (.invokestatic 107, 3) := by decide +kernel
theorem dX11_heaps_27 : decode cX11_heaps 27 = .ok (.ifCond .eq 18, 3) := by decide +kernel
theorem dX11_heaps_30 : decode cX11_heaps 30 = .ok (.aload_n 0, 1) := by decide +kernel
theorem dX11_heaps_31 : decode cX11_heaps 31 = .ok (.getfield 37, 3) := by decide +kernel
theorem dX11_heaps_34 : decode cX11_heaps 34 = .ok (.getfield 49, 3) := by decide +kernel
theorem dX11_heaps_37 : decode cX11_heaps 37 = .ok (.bipush 6, 2) := by decide +kernel
theorem dX11_heaps_39 : decode cX11_heaps 39 = .ok (.iadd, 1) := by decide +kernel
theorem dX11_heaps_40 : decode cX11_heaps 40 = .ok (.bipush 24, 2) := by decide +kernel
theorem dX11_heaps_42 : decode cX11_heaps 42 = .ok (.if_icmp .le 5, 3) := by decide +kernel
theorem dX11_heaps_45 : decode cX11_heaps 45 = .ok (.iconst (-1), 1) := by decide +kernel
theorem dX11_heaps_46 : decode cX11_heaps 46 = .ok (.ireturn, 1) := by decide +kernel
theorem dX11_heaps_47 : decode cX11_heaps 47 = .ok (.aload_n 0, 1) := by decide +kernel
theorem dX11_heaps_48 : decode cX11_heaps 48 = .ok (.getfield 79, 3) := by decide +kernel
theorem dX11_heaps_51 : decode cX11_heaps 51 = .ok (.iload_n 1, 1) := by decide +kernel
theorem dX11_heaps_52 : decode cX11_heaps 52 = .ok (.iload_n 2, 1) := by decide +kernel
theorem dX11_heaps_53 : decode cX11_heaps 53 = .ok (.invokevirtual 228, 3) := by decide +kernel
theorem dX11_heaps_56 : decode cX11_heaps 56 = .ok (.istore 4, 2) := by decide +kernel
theorem dX11_heaps_58 : decode cX11_heaps 58 = .ok (.iload_n 3, 1) := by decide +kernel
theorem dX11_heaps_59 : decode cX11_heaps 59 = .ok (.ifCond .ne 8, 3) := by decide +kernel
theorem dX11_heaps_62 : decode cX11_heaps 62 = .ok (.iload 4, 2) := by decide +kernel
theorem dX11_heaps_64 : decode cX11_heaps 64 = .ok (.goto 10, 3) := by decide +kernel
theorem dX11_heaps_67 : decode cX11_heaps 67 = .ok (.aload_n 0, 1) := by decide +kernel
theorem dX11_heaps_68 : decode cX11_heaps 68 = .ok (.getfield 79, 3) := by decide +kernel
theorem dX11_heaps_71 : decode cX11_heaps 71 = .ok (.getfield 232, 3) := by decide +kernel
theorem dX11_heaps_74 : decode cX11_heaps 74 = .ok (.ireturn, 1) := by decide +kernel
set_option maxRecDepth 20000 in
theorem ggX11_rest_X2_turnsTillRest : GoodIn wsX11_rest wsX2_turnsTillRest := goodIn_r _ [10, 11, 12, 13, 14, 15, 16, 17, 18, 19, 20, 21, 22, 23, 24, 25, 26, 27, 28, 29, 30, 31, 32, 33, 34, 35, 36, 37, 38, 39, 40, 41, 42, 43, 44, 45, 46, 47, 48, 49, 50, 51, 52, 53, 54, 55, 56, 57, 58, 59, 60, 9, 61, 62, 63, 64, 65, 66, 67, 68, 69, 70, 71, 72, 73, 74, 75, 76, 77, 78, 79, 80, 81, 82, 83, 84, 85, 86, 87, 88, 89, 90, 91, 92, 93, 94, 95, 96, 97, 98, 99, 100, 101, 102, 103, 104, 105, 106, 107, 108, 109, 110, 111, 112, 113, 114, 115, 137, 138, 139, 140, 141, 142, 143, 144, 145, 146, 147, 148, 149, 150, 151, 152, 153, 154, 155, 156, 157, 158, 159, 160, 161, 162, 163, 164, 165, 166, 167, 168, 169, 170, 171, 172, 173, 174, 175, 176, 177, 178, 179, 180, 181, 182, 183, 184, 185, 186] (by decide +kernel) (by decide +kernel)
set_option maxRecDepth 20000 in
theorem gX11_rest_X2_turnsTillRest : GoodIn wsX11_rest (wsV RX11 235 RX2 yX2_turnsTillRest wsX2_turnsTillRest) := goodIn_app (goodIn_of _ (by decide +kernel)) ggX11_rest_X2_turnsTillRest
set_option maxRecDepth 20000 in
theorem ggX11_rest_X11_layThere : GoodIn wsX11_rest wsX11_layThere := goodIn_r _ [119, 120, 121, 107, 108, 109, 1, 122, 18, 19, 20, 123, 124, 125, 126, 127, 128, 129, 130, 131, 132, 133, 134, 135, 136] (by decide +kernel) (by decide +kernel)
set_option maxRecDepth 20000 in
theorem gX11_rest_X11_layThere : GoodIn wsX11_rest (wsV RX11 224 RX11 yX11_layThere wsX11_layThere) := goodIn_app (goodIn_of _ (by decide +kernel)) ggX11_rest_X11_layThere
theorem dX11_rest_0 : decode cX11_rest 0 = .ok (.aload_n 0, 1) := by decide +kernel
theorem dX11_rest_1 : decode cX11_rest 1 = .ok (.iconst 0, 1) := by decide +kernel
theorem dX11_rest_2 : decode cX11_rest 2 = .ok (.putfield 100, 3) := by decide +kernel
theorem dX11_rest_5 : decode cX11_rest 5 = .ok (.aload_n 0, 1) := by decide +kernel
theorem dX11_rest_6 : decode cX11_rest 6 = .ok (.getfield 79, 3) := by decide +kernel
theorem dX11_rest_9 : decode cX11_rest 9 = .ok (.invokevirtual 235, 3) := by decide +kernel
theorem dX11_rest_12 : decode cX11_rest 12 = .ok (.istore_n 1, 1) := by decide +kernel
theorem dX11_rest_13 : decode cX11_rest 13 = .ok (.iload_n 1, 1) := by decide +kernel
theorem dX11_rest_14 : decode cX11_rest 14 = .ok (.iconst (-1), 1) := by decide +kernel
theorem dX11_rest_15 : decode cX11_rest 15 = .ok (.if_icmp .eq 21, 3) := by decide +kernel
theorem dX11_rest_18 : decode cX11_rest 18 = .ok (.aload_n 0, 1) := by decide +kernel
theorem dX11_rest_19 : decode cX11_rest 19 = .ok (.aload_n 0, 1) := by decide +kernel
theorem dX11_rest_20 : decode cX11_rest 20 = .ok (.getfield 79, 3) := by decide +kernel
theorem dX11_rest_23 : decode cX11_rest 23 = .ok (.getfield 238, 3) := by decide +kernel
theorem dX11_rest_26 : decode cX11_rest 26 = .ok (.aload_n 0, 1) := by decide +kernel
theorem dX11_rest_27 : decode cX11_rest 27 = .ok (.getfield 37, 3) := by decide +kernel
theorem dX11_rest_30 : decode cX11_rest 30 = .ok (.getfield 49, 3) := by decide +kernel
theorem dX11_rest_33 : decode cX11_rest 33 = .ok (.invokevirtual 224, 3) := by decide +kernel
theorem dX11_rest_36 : decode cX11_rest 36 = .ok (.iload_n 1, 1) := by decide +kernel
theorem dX11_rest_37 : decode cX11_rest 37 = .ok (.ireturn, 1) := by decide +kernel
set_option maxRecDepth 20000 in
theorem ggX11_teach_X11_within : GoodIn wsX11_teach wsX11_within := goodIn_r _ [9] (by decide +kernel) (by decide +kernel)
set_option maxRecDepth 20000 in
theorem gX11_teach_X11_within : GoodIn wsX11_teach (va_wsS RX11 107 yX11_within wsX11_within) := goodIn_app (goodIn_of _ (by decide +kernel)) ggX11_teach_X11_within
set_option maxRecDepth 20000 in
theorem ggX11_teach_X3_mostByTeaching : GoodIn wsX11_teach wsX3_mostByTeaching := goodIn_r _ [14, 15, 16, 17, 18, 19, 20, 13, 21, 22, 23, 24, 25, 26, 27, 28, 29, 30, 31, 32, 33, 34, 35, 8, 36, 37, 38, 39, 40, 41, 42, 43, 44, 45, 46, 47, 48, 49, 50, 51, 52, 53, 54, 55, 56, 57, 58, 59, 60, 61, 62, 63, 64, 65, 66, 67, 68, 69, 70, 71, 72, 73, 74, 75, 76, 77, 78, 79, 80, 81, 82, 83, 84, 85, 86, 87, 88, 89, 90, 91, 92, 93, 94, 95, 96, 97, 98, 99, 100, 101, 102, 103, 104, 105, 106, 107, 108, 109, 110, 111, 112, 113, 114, 115, 116, 117, 118, 119, 120, 121, 122, 123, 124, 125, 126, 127, 128, 129, 151, 152, 153, 154, 155, 156, 157, 158, 159, 160, 161, 162, 163, 164, 165, 166, 167, 168, 169, 170, 171, 172, 173, 174, 175, 176, 177, 178, 179, 180, 181, 182, 183, 184, 185, 186, 187, 188, 189, 190, 191, 192, 193, 194, 195, 196, 197, 198] (by decide +kernel) (by decide +kernel)
set_option maxRecDepth 20000 in
theorem gX11_teach_X3_mostByTeaching : GoodIn wsX11_teach (wsV RX11 241 RX3 yX3_mostByTeaching wsX3_mostByTeaching) := goodIn_app (goodIn_of _ (by decide +kernel)) ggX11_teach_X3_mostByTeaching
set_option maxRecDepth 20000 in
theorem ggX11_teach_X11_layThere : GoodIn wsX11_teach wsX11_layThere := goodIn_r _ [133, 134, 135, 115, 116, 117, 1, 136, 46, 47, 48, 137, 138, 139, 140, 141, 142, 143, 144, 145, 146, 147, 148, 149, 150] (by decide +kernel) (by decide +kernel)
set_option maxRecDepth 20000 in
theorem gX11_teach_X11_layThere : GoodIn wsX11_teach (wsV RX11 224 RX11 yX11_layThere wsX11_layThere) := goodIn_app (goodIn_of _ (by decide +kernel)) ggX11_teach_X11_layThere
theorem dX11_teach_0 : decode cX11_teach 0 = .ok (.aload_n 0, 1) := by decide +kernel
theorem dX11_teach_1 : decode cX11_teach 1 = .ok (.iconst 0, 1) := by decide +kernel
theorem dX11_teach_2 : decode cX11_teach 2 = .ok (.putfield 100, 3) := by decide +kernel
theorem dX11_teach_5 : decode cX11_teach 5 = .ok (.iload_n 1, 1) := by decide +kernel
theorem dX11_teach_6 : decode cX11_teach 6 = .ok (.iconst 0, 1) := by decide +kernel
theorem dX11_teach_7 : decode cX11_teach 7 = .ok (.iconst 3, 1) := by decide +kernel
theorem dX11_teach_8 : decode cX11_teach 8 = .ok (.invokestatic 107, 3) := by decide +kernel
theorem dX11_teach_11 : decode cX11_teach 11 = .ok (.ifCond .ne 5, 3) := by decide +kernel
theorem dX11_teach_14 : decode cX11_teach 14 = .ok (.iconst (-1), 1) := by decide +kernel
theorem dX11_teach_15 : decode cX11_teach 15 = .ok (.ireturn, 1) := by decide +kernel
theorem dX11_teach_16 : decode cX11_teach 16 = .ok (.aload_n 0, 1) := by decide +kernel
theorem dX11_teach_17 : decode cX11_teach 17 = .ok (.getfield 86, 3) := by decide +kernel
theorem dX11_teach_20 : decode cX11_teach 20 = .ok (.iload_n 1, 1) := by decide +kernel
theorem dX11_teach_21 : decode cX11_teach 21 = .ok (.invokevirtual 241, 3) := by decide +kernel
theorem dX11_teach_24 : decode cX11_teach 24 = .ok (.istore_n 2, 1) := by decide +kernel
theorem dX11_teach_25 : decode cX11_teach 25 = .ok (.iload_n 2, 1) := by decide +kernel
theorem dX11_teach_26 : decode cX11_teach 26 = .ok (.iconst (-1), 1) := by decide +kernel
theorem dX11_teach_27 : decode cX11_teach 27 = .ok (.if_icmp .eq 21, 3) := by decide +kernel
theorem dX11_teach_30 : decode cX11_teach 30 = .ok (.aload_n 0, 1) := by decide +kernel
theorem dX11_teach_31 : decode cX11_teach 31 = .ok (.aload_n 0, 1) := by decide +kernel
theorem dX11_teach_32 : decode cX11_teach 32 = .ok (.getfield 86, 3) := by decide +kernel
theorem dX11_teach_35 : decode cX11_teach 35 = .ok (.getfield 244, 3) := by decide +kernel
theorem dX11_teach_38 : decode cX11_teach 38 = .ok (.aload_n 0, 1) := by decide +kernel
theorem dX11_teach_39 : decode cX11_teach 39 = .ok (.getfield 27, 3) := by decide +kernel
theorem dX11_teach_42 : decode cX11_teach 42 = .ok (.getfield 247, 3) := by decide +kernel
theorem dX11_teach_45 : decode cX11_teach 45 = .ok (.invokevirtual 224, 3) := by decide +kernel
theorem dX11_teach_48 : decode cX11_teach 48 = .ok (.iload_n 2, 1) := by decide +kernel
theorem dX11_teach_49 : decode cX11_teach 49 = .ok (.ireturn, 1) := by decide +kernel
set_option maxRecDepth 20000 in
theorem ggX11_seats_X3_mostBySeats : GoodIn wsX11_seats wsX3_mostBySeats := goodIn_r _ [11, 12, 13, 14, 15, 16, 17, 18, 19, 20, 10, 21, 22, 23, 24, 25, 26, 27, 28, 29, 30, 31, 32, 33, 34, 35, 36, 37, 38, 39, 40, 41, 42, 43, 44, 45, 46, 47, 48, 49, 50, 51, 52, 53, 54, 55, 56, 57, 58, 59, 60, 61, 62, 63, 64, 65, 66, 67, 68, 69, 70, 71, 72, 73, 74, 75, 76, 77, 78, 79, 80, 81, 82, 83, 84, 85, 86, 87, 88, 89, 90, 91, 92, 93, 94, 95, 96, 97, 98, 99, 100, 101, 102, 103, 104, 105, 106, 107, 108, 109, 110, 111, 112, 113, 114, 115, 116, 117, 118, 119, 120, 121, 122, 123, 124, 125, 126, 127, 167, 168, 169, 170, 171, 172, 173, 174, 175, 149, 150, 151, 152, 153, 154, 155, 156, 157, 158, 159, 160, 161, 162, 163, 164, 165, 166, 176, 177, 178, 179, 180, 181, 182, 183, 184, 185, 186, 187, 188, 189, 190, 191, 192, 193, 194, 195, 196] (by decide +kernel) (by decide +kernel)
set_option maxRecDepth 20000 in
theorem gX11_seats_X3_mostBySeats : GoodIn wsX11_seats (wsV RX11 253 RX3 yX3_mostBySeats wsX3_mostBySeats) := goodIn_app (goodIn_of _ (by decide +kernel)) ggX11_seats_X3_mostBySeats
set_option maxRecDepth 20000 in
theorem ggX11_seats_X11_layThere : GoodIn wsX11_seats wsX11_layThere := goodIn_r _ [131, 132, 133, 105, 106, 107, 1, 134, 46, 47, 48, 135, 136, 137, 138, 139, 140, 141, 142, 143, 144, 145, 146, 147, 148] (by decide +kernel) (by decide +kernel)
set_option maxRecDepth 20000 in
theorem gX11_seats_X11_layThere : GoodIn wsX11_seats (wsV RX11 224 RX11 yX11_layThere wsX11_layThere) := goodIn_app (goodIn_of _ (by decide +kernel)) ggX11_seats_X11_layThere
theorem dX11_seats_0 : decode cX11_seats 0 = .ok (.aload_n 0, 1) := by decide +kernel
theorem dX11_seats_1 : decode cX11_seats 1 = .ok (.iconst 0, 1) := by decide +kernel
theorem dX11_seats_2 : decode cX11_seats 2 = .ok (.putfield 100, 3) := by decide +kernel
theorem dX11_seats_5 : decode cX11_seats 5 = .ok (.aload_n 0, 1) := by decide +kernel
theorem dX11_seats_6 : decode cX11_seats 6 = .ok (.getfield 27, 3) := by decide +kernel
theorem dX11_seats_9 : decode cX11_seats 9 = .ok (.getfield 250, 3) := by decide +kernel
theorem dX11_seats_12 : decode cX11_seats 12 = .ok (.ifCond .ne 5, 3) := by decide +kernel
theorem dX11_seats_15 : decode cX11_seats 15 = .ok (.iconst (-1), 1) := by decide +kernel
theorem dX11_seats_16 : decode cX11_seats 16 = .ok (.ireturn, 1) := by decide +kernel
theorem dX11_seats_17 : decode cX11_seats 17 = .ok (.aload_n 0, 1) := by decide +kernel
theorem dX11_seats_18 : decode cX11_seats 18 = .ok (.getfield 86, 3) := by decide +kernel
theorem dX11_seats_21 : decode cX11_seats 21 = .ok (.invokevirtual 253, 3) := by decide +kernel
theorem dX11_seats_24 : decode cX11_seats 24 = .ok (.istore_n 1, 1) := by decide +kernel
theorem dX11_seats_25 : decode cX11_seats 25 = .ok (.aload_n 0, 1) := by decide +kernel
theorem dX11_seats_26 : decode cX11_seats 26 = .ok (.aload_n 0, 1) := by decide +kernel
theorem dX11_seats_27 : decode cX11_seats 27 = .ok (.getfield 86, 3) := by decide +kernel
theorem dX11_seats_30 : decode cX11_seats 30 = .ok (.getfield 244, 3) := by decide +kernel
theorem dX11_seats_33 : decode cX11_seats 33 = .ok (.aload_n 0, 1) := by decide +kernel
theorem dX11_seats_34 : decode cX11_seats 34 = .ok (.getfield 27, 3) := by decide +kernel
theorem dX11_seats_37 : decode cX11_seats 37 = .ok (.getfield 247, 3) := by decide +kernel
theorem dX11_seats_40 : decode cX11_seats 40 = .ok (.invokevirtual 224, 3) := by decide +kernel
theorem dX11_seats_43 : decode cX11_seats 43 = .ok (.iload_n 1, 1) := by decide +kernel
theorem dX11_seats_44 : decode cX11_seats 44 = .ok (.ireturn, 1) := by decide +kernel
