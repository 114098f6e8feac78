theorem dX8_asSeen_0 : decode cX8_asSeen 0 = .ok (.iconst 0, 1) := by decide +kernel
theorem dX8_asSeen_1 : decode cX8_asSeen 1 = .ok (.istore_n 2, 1) := by decide +kernel
theorem dX8_asSeen_2 : decode cX8_asSeen 2 = .ok (.iload_n 2, 1) := by decide +kernel
theorem dX8_asSeen_3 : decode cX8_asSeen 3 = .ok (.aload_n 0, 1) := by decide +kernel
theorem dX8_asSeen_4 : decode cX8_asSeen 4 = .ok (.getfield 49, 3) := by decide +kernel
theorem dX8_asSeen_7 : decode cX8_asSeen 7 = .ok (.if_icmp .ge 44, 3) := by decide +kernel
theorem dX8_asSeen_10 : decode cX8_asSeen 10 = .ok (.aload_n 0, 1) := by decide +kernel
theorem dX8_asSeen_11 : decode cX8_asSeen 11 = .ok (.getfield 35, 3) := by decide +kernel
theorem dX8_asSeen_14 : decode cX8_asSeen 14 = .ok (.iload_n 2, 1) := by decide +kernel
theorem dX8_asSeen_15 : decode cX8_asSeen 15 = .ok (.iaload, 1) := by decide +kernel
theorem dX8_asSeen_16 : decode cX8_asSeen 16 = .ok (.iload_n 1, 1) := by decide +kernel
theorem dX8_asSeen_17 : decode cX8_asSeen 17 = .ok (.if_icmp .ne 28, 3) := by decide +kernel
theorem dX8_asSeen_20 : decode cX8_asSeen 20 = .ok (.aload_n 0, 1) := by decide +kernel
theorem dX8_asSeen_21 : decode cX8_asSeen 21 = .ok (.getfield 45, 3) := by decide +kernel
theorem dX8_asSeen_24 : decode cX8_asSeen 24 = .ok (.getfield 125, 3) := by decide +kernel
theorem dX8_asSeen_27 : decode cX8_asSeen 27 = .ok (.aload_n 0, 1) := by decide +kernel
theorem dX8_asSeen_28 : decode cX8_asSeen 28 = .ok (.getfield 15, 3) := by decide +kernel
theorem dX8_asSeen_31 : decode cX8_asSeen 31 = .ok (.iload_n 2, 1) := by decide +kernel
theorem dX8_asSeen_32 : decode cX8_asSeen 32 = .ok (.iaload, 1) := by decide +kernel
theorem dX8_asSeen_33 : decode cX8_asSeen 33 = .ok (.iaload, 1) := by decide +kernel
theorem dX8_asSeen_34 : decode cX8_asSeen 34 = .ok (.aload_n 0, 1) := by decide +kernel
theorem dX8_asSeen_35 : decode cX8_asSeen 35 = .ok (.getfield 18, 3) := by decide +kernel
theorem dX8_asSeen_38 : decode cX8_asSeen 38 = .ok (.iload_n 2, 1) := by decide +kernel
theorem dX8_asSeen_39 : decode cX8_asSeen 39 = .ok (.iaload, 1) := by decide +kernel
theorem dX8_asSeen_40 : decode cX8_asSeen 40 = .ok (.if_icmp .eq 5, 3) := by decide +kernel
theorem dX8_asSeen_43 : decode cX8_asSeen 43 = .ok (.iconst 0, 1) := by decide +kernel
theorem dX8_asSeen_44 : decode cX8_asSeen 44 = .ok (.ireturn, 1) := by decide +kernel
theorem dX8_asSeen_45 : decode cX8_asSeen 45 = .ok (.iinc 2 1, 3) := by decide +kernel
theorem dX8_asSeen_48 : decode cX8_asSeen 48 = .ok (.goto (-46), 3) := by decide +kernel
theorem dX8_asSeen_51 : decode cX8_asSeen 51 = .ok (.iconst 1, 1) := by decide +kernel
theorem dX8_asSeen_52 : decode cX8_asSeen 52 = .ok (.ireturn, 1) := by decide +kernel
theorem dX8_inNone_0 : decode cX8_inNone 0 = .ok (.aload_n 0, 1) := by decide +kernel
theorem dX8_inNone_1 : decode cX8_inNone 1 = .ok (.getfield 38, 3) := by decide +kernel
theorem dX8_inNone_4 : decode cX8_inNone 4 = .ok (.getfield 107, 3) := by decide +kernel
theorem dX8_inNone_7 : decode cX8_inNone 7 = .ok (.aload_n 0, 1) := by decide +kernel
theorem dX8_inNone_8 : decode cX8_inNone 8 = .ok (.getfield 90, 3) := by decide +kernel
theorem dX8_inNone_11 : decode cX8_inNone 11 = .ok (.iconst (-1), 1) := by decide +kernel
theorem dX8_inNone_12 : decode cX8_inNone 12 = .ok (.ixor, 1) := by decide +kernel
theorem dX8_inNone_13 : decode cX8_inNone 13 = .ok (.iand, 1) := by decide +kernel
theorem dX8_inNone_14 : decode cX8_inNone 14 = .ok (.ireturn, 1) := by decide +kernel
theorem dX9_init_0 : decode cX9_init 0 = .ok (.aload_n 0, 1) := by decide +kernel
theorem dX9_init_1 : decode cX9_init 1 = .ok (.invokespecial 3, 3) := by decide +kernel
theorem dX9_init_4 : decode cX9_init 4 = .ok (.aload_n 0, 1) := by decide +kernel
theorem dX9_init_5 : decode cX9_init 5 = .ok (.bipush 24, 2) := by decide +kernel
theorem dX9_init_7 : decode cX9_init 7 = .ok (.newarray .int, 2) := by decide +kernel
theorem dX9_init_9 : decode cX9_init 9 = .ok (.putfield 9, 3) := by decide +kernel
theorem dX9_init_12 : decode cX9_init 12 = .ok (.aload_n 0, 1) := by decide +kernel
theorem dX9_init_13 : decode cX9_init 13 = .ok (.bipush 24, 2) := by decide +kernel
theorem dX9_init_15 : decode cX9_init 15 = .ok (.newarray .int, 2) := by decide +kernel
theorem dX9_init_17 : decode cX9_init 17 = .ok (.putfield 15, 3) := by decide +kernel
theorem dX9_init_20 : decode cX9_init 20 = .ok (.aload_n 0, 1) := by decide +kernel
theorem dX9_init_21 : decode cX9_init 21 = .ok (.iconst 5, 1) := by decide +kernel
theorem dX9_init_22 : decode cX9_init 22 = .ok (.newarray .int, 2) := by decide +kernel
theorem dX9_init_24 : decode cX9_init 24 = .ok (.putfield 18, 3) := by decide +kernel
theorem dX9_init_27 : decode cX9_init 27 = .ok (.return_, 1) := by decide +kernel
set_option maxRecDepth 20000 in
theorem ggX9_asTold_X9_add : GoodIn wsX9_asTold wsX9_add := goodIn_r _ [17, 1, 18, 19, 20, 21, 22, 23, 24] (by decide +kernel) (by decide +kernel)
set_option maxRecDepth 20000 in
theorem gX9_asTold_X9_add : GoodIn wsX9_asTold (wsV RX9 30 RX9 yX9_add wsX9_add) := goodIn_app (goodIn_of _ (by decide +kernel)) ggX9_asTold_X9_add
theorem dX9_asTold_0 : decode cX9_asTold 0 = .ok (.aload_n 0, 1) := by decide +kernel
theorem dX9_asTold_1 : decode cX9_asTold 1 = .ok (.iconst 0, 1) := by decide +kernel
theorem dX9_asTold_2 : decode cX9_asTold 2 = .ok (.putfield 21, 3) := by decide +kernel
theorem dX9_asTold_5 : decode cX9_asTold 5 = .ok (.iconst 0, 1) := by decide +kernel
theorem dX9_asTold_6 : decode cX9_asTold 6 = .ok (.istore_n 2, 1) := by decide +kernel
theorem dX9_asTold_7 : decode cX9_asTold 7 = .ok (.iload_n 2, 1) := by decide +kernel
theorem dX9_asTold_8 : decode cX9_asTold 8 = .ok (.aload_n 1, 1) := by decide +kernel
theorem dX9_asTold_9 : decode cX9_asTold 9 = .ok (.getfield 25, 3) := by decide +kernel
theorem dX9_asTold_12 : decode cX9_asTold 12 = .ok (.if_icmp .ge 25, 3) := by decide +kernel
theorem dX9_asTold_15 : decode cX9_asTold 15 = .ok (.aload_n 0, 1) := by decide +kernel
theorem dX9_asTold_16 : decode cX9_asTold 16 = .ok (.aload_n 1, 1) := by decide +kernel
theorem dX9_asTold_17 : decode cX9_asTold 17 = .ok (.getfield 28, 3) := by decide +kernel
theorem dX9_asTold_20 : decode cX9_asTold 20 = .ok (.iload_n 2, 1) := by decide +kernel
theorem dX9_asTold_21 : decode cX9_asTold 21 = .ok (.iaload, 1) := by decide +kernel
theorem dX9_asTold_22 : decode cX9_asTold 22 = .ok (.aload_n 1, 1) := by decide +kernel
theorem dX9_asTold_23 : decode cX9_asTold 23 = .ok (.getfield 29, 3) := by decide +kernel
theorem dX9_asTold_26 : decode cX9_asTold 26 = .ok (.iload_n 2, 1) := by decide +kernel
theorem dX9_asTold_27 : decode cX9_asTold 27 = .ok (.iaload, 1) := by decide +kernel
theorem dX9_asTold_28 : decode cX9_asTold 28 = .ok (.invokevirtual 30, 3) := by decide +kernel
theorem dX9_asTold_31 : decode cX9_asTold 31 = .ok (.iinc 2 1, 3) := by decide +kernel
theorem dX9_asTold_34 : decode cX9_asTold 34 = .ok (.goto (-27), 3) := by decide +kernel
theorem dX9_asTold_37 : decode cX9_asTold 37 = .ok (.aload_n 0, 1) := by decide +kernel
theorem dX9_asTold_38 : decode cX9_asTold 38 = .ok (.aload_n 1, 1) := by decide +kernel
theorem dX9_asTold_39 : decode cX9_asTold 39 = .ok (.getfield 34, 3) := by decide +kernel
theorem dX9_asTold_42 : decode cX9_asTold 42 = .ok (.iconst (-1), 1) := by decide +kernel
theorem dX9_asTold_43 : decode cX9_asTold 43 = .ok (.ixor, 1) := by decide +kernel
theorem dX9_asTold_44 : decode cX9_asTold 44 = .ok (.putfield 37, 3) := by decide +kernel
theorem dX9_asTold_47 : decode cX9_asTold 47 = .ok (.aload_n 1, 1) := by decide +kernel
theorem dX9_asTold_48 : decode cX9_asTold 48 = .ok (.getfield 40, 3) := by decide +kernel
theorem dX9_asTold_51 : decode cX9_asTold 51 = .ok (.iconst 0, 1) := by decide +kernel
theorem dX9_asTold_52 : decode cX9_asTold 52 = .ok (.aload_n 0, 1) := by decide +kernel
theorem dX9_asTold_53 : decode cX9_asTold 53 = .ok (.getfield 18, 3) := by decide +kernel
theorem dX9_asTold_56 : decode cX9_asTold 56 = .ok (.iconst 0, 1) := by decide +kernel
theorem dX9_asTold_57 : decode cX9_asTold 57 = .ok (.iconst 5, 1) := by decide +kernel
theorem dX9_asTold_58 : decode cX9_asTold 58 = .ok (.invokestatic 41, 3) := by decide +kernel
theorem dX9_asTold_61 : decode cX9_asTold 61 = .ok (.return_, 1) := by decide +kernel
theorem dX9_becomes_0 : decode cX9_becomes 0 = .ok (.aload_n 1, 1) := by decide +kernel
theorem dX9_becomes_1 : decode cX9_becomes 1 = .ok (.getfield 9, 3) := by decide +kernel
theorem dX9_becomes_4 : decode cX9_becomes 4 = .ok (.iconst 0, 1) := by decide +kernel
theorem dX9_becomes_5 : decode cX9_becomes 5 = .ok (.aload_n 0, 1) := by decide +kernel
theorem dX9_becomes_6 : decode cX9_becomes 6 = .ok (.getfield 9, 3) := by decide +kernel
theorem dX9_becomes_9 : decode cX9_becomes 9 = .ok (.iconst 0, 1) := by decide +kernel
theorem dX9_becomes_10 : decode cX9_becomes 10 = .ok (.bipush 24, 2) := by decide +kernel
theorem dX9_becomes_12 : decode cX9_becomes 12 = .ok (.invokestatic 41, 3) := by decide +kernel
theorem dX9_becomes_15 : decode cX9_becomes 15 = .ok (.aload_n 1, 1) := by decide +kernel
theorem dX9_becomes_16 : decode cX9_becomes 16 = .ok (.getfield 15, 3) := by decide +kernel
theorem dX9_becomes_19 : decode cX9_becomes 19 = .ok (.iconst 0, 1) := by decide +kernel
theorem dX9_becomes_20 : decode cX9_becomes 20 = .ok (.aload_n 0, 1) := by decide +kernel
theorem dX9_becomes_21 : decode cX9_becomes 21 = .ok (.getfield 15, 3) := by decide +kernel
theorem dX9_becomes_24 : decode cX9_becomes 24 = .ok (.iconst 0, 1) := by decide +kernel
theorem dX9_becomes_25 : decode cX9_becomes 25 = .ok (.bipush 24, 2) := by decide +kernel
theorem dX9_becomes_27 : decode cX9_becomes 27 = .ok (.invokestatic 41, 3) := by decide +kernel
theorem dX9_becomes_30 : decode cX9_becomes 30 = .ok (.aload_n 0, 1) := by decide +kernel
theorem dX9_becomes_31 : decode cX9_becomes 31 = .ok (.aload_n 1, 1) := by decide +kernel
theorem dX9_becomes_32 : decode cX9_becomes 32 = .ok (.getfield 37, 3) := by decide +kernel
theorem dX9_becomes_35 : decode cX9_becomes 35 = .ok (.putfield 37, 3) := by decide +kernel
theorem dX9_becomes_38 : decode cX9_becomes 38 = .ok (.aload_n 1, 1) := by decide +kernel
theorem dX9_becomes_39 : decode cX9_becomes 39 = .ok (.getfield 18, 3) := by decide +kernel
theorem dX9_becomes_42 : decode cX9_becomes 42 = .ok (.iconst 0, 1) := by decide +kernel
theorem dX9_becomes_43 : decode cX9_becomes 43 = .ok (.aload_n 0, 1) := by decide +kernel
theorem dX9_becomes_44 : decode cX9_becomes 44 = .ok (.getfield 18, 3) := by decide +kernel
theorem dX9_becomes_47 : decode cX9_becomes 47 = .ok (.iconst 0, 1) := by decide +kernel
theorem dX9_becomes_48 : decode cX9_becomes 48 = .ok (.iconst 5, 1) := by decide +kernel
theorem dX9_becomes_49 : decode cX9_becomes 49 = .ok (.invokestatic 41, 3) := by decide +kernel
theorem dX9_becomes_52 : decode cX9_becomes 52 = .ok (.aload_n 0, 1) := by decide +kernel
theorem dX9_becomes_53 : decode cX9_becomes 53 = .ok (.aload_n 1, 1) := by decide +kernel
theorem dX9_becomes_54 : decode cX9_becomes 54 = .ok (.getfield 21, 3) := by decide +kernel
theorem dX9_becomes_57 : decode cX9_becomes 57 = .ok (.putfield 21, 3) := by decide +kernel
theorem dX9_becomes_60 : decode cX9_becomes 60 = .ok (.return_, 1) := by decide +kernel
theorem dX9_add_0 : decode cX9_add 0 = .ok (.aload_n 0, 1) := by decide +kernel
theorem dX9_add_1 : decode cX9_add 1 = .ok (.getfield 21, 3) := by decide +kernel
theorem dX9_add_4 : decode cX9_add 4 = .ok (.bipush 24, 2) := by decide +kernel
theorem dX9_add_6 : decode cX9_add 6 = .ok (.if_icmp .ge 33, 3) := by decide +kernel
theorem dX9_add_9 : decode cX9_add 9 = .ok (.aload_n 0, 1) := by decide +kernel
theorem dX9_add_10 : decode cX9_add 10 = .ok (.getfield 9, 3) := by decide +kernel
theorem dX9_add_13 : decode cX9_add 13 = .ok (.aload_n 0, 1) := by decide +kernel
theorem dX9_add_14 : decode cX9_add 14 = .ok (.getfield 21, 3) := by decide +kernel
theorem dX9_add_17 : decode cX9_add 17 = .ok (.iload_n 1, 1) := by decide +kernel
theorem dX9_add_18 : decode cX9_add 18 = .ok (.iastore, 1) := by decide +kernel
theorem dX9_add_19 : decode cX9_add 19 = .ok (.aload_n 0, 1) := by decide +kernel
theorem dX9_add_20 : decode cX9_add 20 = .ok (.getfield 15, 3) := by decide +kernel
theorem dX9_add_23 : decode cX9_add 23 = .ok (.aload_n 0, 1) := by decide +kernel
theorem dX9_add_24 : decode cX9_add 24 = .ok (.getfield 21, 3) := by decide +kernel
theorem dX9_add_27 : decode cX9_add 27 = .ok (.iload_n 2, 1) := by decide +kernel
theorem dX9_add_28 : decode cX9_add 28 = .ok (.iastore, 1) := by decide +kernel
theorem dX9_add_29 : decode cX9_add 29 = .ok (.aload_n 0, 1) := by decide +kernel
theorem dX9_add_30 : decode cX9_add 30 = .ok (.dup, 1) := by decide +kernel
theorem dX9_add_31 : decode cX9_add 31 = .ok (.getfield 21, 3) := by decide +kernel
theorem dX9_add_34 : decode cX9_add 34 = .ok (.iconst 1, 1) := by decide +kernel
theorem dX9_add_35 : decode cX9_add 35 = .ok (.iadd, 1) := by decide +kernel
theorem dX9_add_36 : decode cX9_add 36 = .ok (.putfield 21, 3) := by decide +kernel
theorem dX9_add_39 : decode cX9_add 39 = .ok (.return_, 1) := by decide +kernel
set_option maxRecDepth 20000 in
theorem ggX9_coming_X11_has : GoodIn wsX9_coming wsX11_has := goodIn_r _ [5] (by decide +kernel) (by decide +kernel)
set_option maxRecDepth 20000 in
theorem gX9_coming_X11_has_n47 : GoodIn wsX9_coming (wsX11_has) := ggX9_coming_X11_has
theorem dX9_coming_0 : decode cX9_coming 0 = .ok (.iconst 0, 1) := by decide +kernel
theorem dX9_coming_1 : decode cX9_coming 1 = .ok (.istore_n 2, 1) := by decide +kernel
theorem dX9_coming_2 : decode cX9_coming 2 = .ok (.iconst 0, 1) := by decide +kernel
theorem dX9_coming_3 : decode cX9_coming 3 = .ok (.istore_n 3, 1) := by decide +kernel
theorem dX9_coming_4 : decode cX9_coming 4 = .ok (.iload_n 3, 1) := by decide +kernel
theorem dX9_coming_5 : decode cX9_coming 5 = .ok (.aload_n 0, 1) := by decide +kernel
theorem dX9_coming_6 : decode cX9_coming 6 = .ok (.getfield 21, 3) := by decide +kernel
theorem dX9_coming_9 : decode cX9_coming 9 = .ok (.if_icmp .ge 27, 3) := by decide +kernel
theorem dX9_coming_12 : decode cX9_coming 12 = .ok (.aload_n 0, 1) := by decide +kernel
theorem dX9_coming_13 : decode cX9_coming 13 = .ok (.getfield 37, 3) := by decide +kernel
theorem dX9_coming_16 : decode cX9_coming 16 = .ok (.iload_n 3, 1) := by decide +kernel
theorem dX9_coming_17 : decode cX9_coming 17 = .ok (.invokestatic 47, 3) := by decide +kernel
theorem dX9_coming_20 : decode cX9_coming 20 = .ok (.ifCond .eq 10, 3) := by decide +kernel
theorem dX9_coming_23 : decode cX9_coming 23 = .ok (.aload_n 1, 1) := by decide +kernel
theorem dX9_coming_24 : decode cX9_coming 24 = .ok (.iload_n 2, 1) := by decide +kernel
theorem dX9_coming_25 : decode cX9_coming 25 = .ok (.iload_n 3, 1) := by decide +kernel
theorem dX9_coming_26 : decode cX9_coming 26 = .ok (.iastore, 1) := by decide +kernel
theorem dX9_coming_27 : decode cX9_coming 27 = .ok (.iinc 2 1, 3) := by decide +kernel
theorem dX9_coming_30 : decode cX9_coming 30 = .ok (.iinc 3 1, 3) := by decide +kernel
theorem dX9_coming_33 : decode cX9_coming 33 = .ok (.goto (-29), 3) := by decide +kernel
theorem dX9_coming_36 : decode cX9_coming 36 = .ok (.iload_n 2, 1) := by decide +kernel
theorem dX9_coming_37 : decode cX9_coming 37 = .ok (.ireturn, 1) := by decide +kernel
theorem dX10_init_0 : decode cX10_init 0 = .ok (.aload_n 0, 1) := by decide +kernel
theorem dX10_init_1 : decode cX10_init 1 = .ok (.invokespecial 3, 3) := by decide +kernel
theorem dX10_init_4 : decode cX10_init 4 = .ok (.aload_n 0, 1) := by decide +kernel
theorem dX10_init_5 : decode cX10_init 5 = .ok (.iconst 5, 1) := by decide +kernel
theorem dX10_init_6 : decode cX10_init 6 = .ok (.newarray .int, 2) := by decide +kernel
theorem dX10_init_8 : decode cX10_init 8 = .ok (.putfield 9, 3) := by decide +kernel
theorem dX10_init_11 : decode cX10_init 11 = .ok (.aload_n 0, 1) := by decide +kernel
theorem dX10_init_12 : decode cX10_init 12 = .ok (.bipush 20, 2) := by decide +kernel
theorem dX10_init_14 : decode cX10_init 14 = .ok (.newarray .int, 2) := by decide +kernel
theorem dX10_init_16 : decode cX10_init 16 = .ok (.putfield 15, 3) := by decide +kernel
theorem dX10_init_19 : decode cX10_init 19 = .ok (.aload_n 0, 1) := by decide +kernel
theorem dX10_init_20 : decode cX10_init 20 = .ok (.iconst 4, 1) := by decide +kernel
theorem dX10_init_21 : decode cX10_init 21 = .ok (.newarray .int, 2) := by decide +kernel
theorem dX10_init_23 : decode cX10_init 23 = .ok (.putfield 18, 3) := by decide +kernel
theorem dX10_init_26 : decode cX10_init 26 = .ok (.aload_n 0, 1) := by decide +kernel
theorem dX10_init_27 : decode cX10_init 27 = .ok (.iconst 5, 1) := by decide +kernel
theorem dX10_init_28 : decode cX10_init 28 = .ok (.newarray .int, 2) := by decide +kernel
theorem dX10_init_30 : decode cX10_init 30 = .ok (.putfield 21, 3) := by decide +kernel
theorem dX10_init_33 : decode cX10_init 33 = .ok (.aload_n 0, 1) := by decide +kernel
theorem dX10_init_34 : decode cX10_init 34 = .ok (.iconst 5, 1) := by decide +kernel
theorem dX10_init_35 : decode cX10_init 35 = .ok (.newarray .int, 2) := by decide +kernel
theorem dX10_init_37 : decode cX10_init 37 = .ok (.putfield 24, 3) := by decide +kernel
theorem dX10_init_40 : decode cX10_init 40 = .ok (.aload_n 0, 1) := by decide +kernel
theorem dX10_init_41 : decode cX10_init 41 = .ok (.iconst 5, 1) := by decide +kernel
theorem dX10_init_42 : decode cX10_init 42 = .ok (.newarray .int, 2) := by decide +kernel
theorem dX10_init_44 : decode cX10_init 44 = .ok (.putfield 27, 3) := by decide +kernel
theorem dX10_init_47 : decode cX10_init 47 = .ok (.aload_n 0, 1) := by decide +kernel
theorem dX10_init_48 : decode cX10_init 48 = .ok (.iconst 5, 1) := by decide +kernel
theorem dX10_init_49 : decode cX10_init 49 = .ok (.newarray .int, 2) := by decide +kernel
theorem dX10_init_51 : decode cX10_init 51 = .ok (.putfield 30, 3) := by decide +kernel
theorem dX10_init_54 : decode cX10_init 54 = .ok (.aload_n 0, 1) := by decide +kernel
theorem dX10_init_55 : decode cX10_init 55 = .ok (.aload_n 1, 1) := by decide +kernel
theorem dX10_init_56 : decode cX10_init 56 = .ok (.putfield 33, 3) := by decide +kernel
theorem dX10_init_59 : decode cX10_init 59 = .ok (.return_, 1) := by decide +kernel
set_option maxRecDepth 20000 in
theorem ggX10_sit_X10_begin : GoodIn wsX10_sit wsX10_begin := goodIn_r _ [15, 16, 17, 18, 19, 20, 21, 22, 23, 24, 25, 26, 27, 28, 29, 30, 31] (by decide +kernel) (by decide +kernel)
set_option maxRecDepth 20000 in
theorem gX10_sit_X10_begin : GoodIn wsX10_sit (wsV RX10 47 RX10 yX10_begin wsX10_begin) := goodIn_app (goodIn_of _ (by decide +kernel)) ggX10_sit_X10_begin
theorem dX10_sit_0 : decode cX10_sit 0 = .ok (.aload_n 1, 1) := by decide +kernel
theorem dX10_sit_1 : decode cX10_sit 1 = .ok (.iconst 0, 1) := by decide +kernel
theorem dX10_sit_2 : decode cX10_sit 2 = .ok (.aload_n 0, 1) := by decide +kernel
theorem dX10_sit_3 : decode cX10_sit 3 = .ok (.getfield 9, 3) := by decide +kernel
theorem dX10_sit_6 : decode cX10_sit 6 = .ok (.iconst 0, 1) := by decide +kernel
theorem dX10_sit_7 : decode cX10_sit 7 = .ok (.iconst 5, 1) := by decide +kernel
theorem dX10_sit_8 : decode cX10_sit 8 = .ok (.invokestatic 37, 3) := by decide +kernel
theorem dX10_sit_11 : decode cX10_sit 11 = .ok (.aload_n 0, 1) := by decide +kernel
theorem dX10_sit_12 : decode cX10_sit 12 = .ok (.getfield 33, 3) := by decide +kernel
theorem dX10_sit_15 : decode cX10_sit 15 = .ok (.getfield 43, 3) := by decide +kernel
theorem dX10_sit_18 : decode cX10_sit 18 = .ok (.iconst 0, 1) := by decide +kernel
theorem dX10_sit_19 : decode cX10_sit 19 = .ok (.aload_n 0, 1) := by decide +kernel
theorem dX10_sit_20 : decode cX10_sit 20 = .ok (.getfield 15, 3) := by decide +kernel
theorem dX10_sit_23 : decode cX10_sit 23 = .ok (.iconst 0, 1) := by decide +kernel
theorem dX10_sit_24 : decode cX10_sit 24 = .ok (.bipush 20, 2) := by decide +kernel
theorem dX10_sit_26 : decode cX10_sit 26 = .ok (.invokestatic 37, 3) := by decide +kernel
theorem dX10_sit_29 : decode cX10_sit 29 = .ok (.aload_n 0, 1) := by decide +kernel
theorem dX10_sit_30 : decode cX10_sit 30 = .ok (.getfield 33, 3) := by decide +kernel
theorem dX10_sit_33 : decode cX10_sit 33 = .ok (.getfield 46, 3) := by decide +kernel
theorem dX10_sit_36 : decode cX10_sit 36 = .ok (.iconst 0, 1) := by decide +kernel
theorem dX10_sit_37 : decode cX10_sit 37 = .ok (.aload_n 0, 1) := by decide +kernel
theorem dX10_sit_38 : decode cX10_sit 38 = .ok (.getfield 18, 3) := by decide +kernel
theorem dX10_sit_41 : decode cX10_sit 41 = .ok (.iconst 0, 1) := by decide +kernel
theorem dX10_sit_42 : decode cX10_sit 42 = .ok (.iconst 4, 1) := by decide +kernel
theorem dX10_sit_43 : decode cX10_sit 43 = .ok (.invokestatic 37, 3) := by decide +kernel
theorem dX10_sit_46 : decode cX10_sit 46 = .ok (.aload_n 0, 1) := by decide +kernel
theorem dX10_sit_47 : decode cX10_sit 47 = .ok (.invokevirtual 47, 3) := by decide +kernel
theorem dX10_sit_50 : decode cX10_sit 50 = .ok (.return_, 1) := by decide +kernel
set_option maxRecDepth 20000 in
theorem ggX10_begin_J7_fill_53178 : GoodIn wsX10_begin wsJ7_fill_53178 := goodIn_r _ [8] (by decide +kernel) (by decide +kernel)
set_option maxRecDepth 20000 in
theorem gX10_begin_J7_fill_53178 : GoodIn wsX10_begin (va_wsS RX10 54 yJ7_fill_53178 wsJ7_fill_53178) := goodIn_app (goodIn_of _ (by decide +kernel)) ggX10_begin_J7_fill_53178
theorem dX10_begin_0 : decode cX10_begin 0 = .ok (.aload_n 0, 1) := by decide +kernel
theorem dX10_begin_1 : decode cX10_begin 1 = .ok (.getfield 21, 3) := by decide +kernel
theorem dX10_begin_4 : decode cX10_begin 4 = .ok (.iconst 0, 1) := by decide +kernel
theorem dX10_begin_5 : decode cX10_begin 5 = .ok (.invokestatic 54, 3) := by decide +kernel
theorem dX10_begin_8 : decode cX10_begin 8 = .ok (.aload_n 0, 1) := by decide +kernel
theorem dX10_begin_9 : decode cX10_begin 9 = .ok (.getfield 24, 3) := by decide +kernel
theorem dX10_begin_12 : decode cX10_begin 12 = .ok (.iconst 0, 1) := by decide +kernel
theorem dX10_begin_13 : decode cX10_begin 13 = .ok (.invokestatic 54, 3) := by decide +kernel
theorem dX10_begin_16 : decode cX10_begin 16 = .ok (.aload_n 0, 1) := by decide +kernel
theorem dX10_begin_17 : decode cX10_begin 17 = .ok (.getfield 27, 3) := by decide +kernel
theorem dX10_begin_20 : decode cX10_begin 20 = .ok (.iconst 0, 1) := by decide +kernel
theorem dX10_begin_21 : decode cX10_begin 21 = .ok (.invokestatic 54, 3) := by decide +kernel
theorem dX10_begin_24 : decode cX10_begin 24 = .ok (.aload_n 0, 1) := by decide +kernel
theorem dX10_begin_25 : decode cX10_begin 25 = .ok (.getfield 30, 3) := by decide +kernel
theorem dX10_begin_28 : decode cX10_begin 28 = .ok (.iconst (-1), 1) := by decide +kernel
theorem dX10_begin_29 : decode cX10_begin 29 = .ok (.invokestatic 54, 3) := by decide +kernel
theorem dX10_begin_32 : decode cX10_begin 32 = .ok (.return_, 1) := by decide +kernel
set_option maxRecDepth 20000 in
theorem ggX11_init_X6_init : GoodIn wsX11_init wsX6_init := goodIn_r _ [48, 49, 2, 3, 50, 12, 13, 51, 52, 4, 53, 54, 55, 56, 57, 58, 59, 60, 61, 62, 63, 64, 65, 66, 67, 68, 69, 70, 71, 72, 73, 74, 75, 76, 77, 78, 79, 235, 236, 237, 238, 239, 240, 241, 242, 243, 244, 245, 246, 247, 248, 249, 250, 251, 252, 223, 224, 225, 226, 227, 228, 229, 230, 231, 232, 233, 234, 309, 310, 311, 312, 313] (by decide +kernel) (by decide +kernel)
set_option maxRecDepth 20000 in
theorem gX11_init_X6_init_n19 : GoodIn wsX11_init (wsX6_init) := ggX11_init_X6_init
set_option maxRecDepth 20000 in
theorem ggX11_init_X7_init : GoodIn wsX11_init wsX7_init := goodIn_r _ [55, 56, 2, 3, 57, 58, 4, 59, 60, 61, 62, 63, 64, 65, 66, 67, 68, 69, 70, 71, 72, 73, 74, 75, 76, 77, 78, 79, 235, 236, 237, 238, 239, 240, 241, 242, 243, 244, 245, 246, 247, 248, 249, 250, 251, 252, 309, 310, 311, 312, 313] (by decide +kernel) (by decide +kernel)
set_option maxRecDepth 20000 in
theorem gX11_init_X7_init_n26 : GoodIn wsX11_init (wsX7_init) := ggX11_init_X7_init
set_option maxRecDepth 20000 in
theorem ggX11_init_X7_clear : GoodIn wsX11_init wsX7_clear := goodIn_r _ [83, 84, 85, 86, 87, 62, 67, 74, 88, 89, 90, 91, 92, 93, 94, 73, 95, 96, 97, 98, 235, 236, 237, 238, 239, 240, 241, 242, 243, 244, 245, 246, 247, 248, 249, 250, 251, 252, 309, 310, 311, 312, 313] (by decide +kernel) (by decide +kernel)
set_option maxRecDepth 20000 in
theorem gX11_init_X7_clear : GoodIn wsX11_init (wsV RX11 31 RX7 yX7_clear wsX7_clear) := goodIn_app (goodIn_of _ (by decide +kernel)) ggX11_init_X7_clear
set_option maxRecDepth 20000 in
theorem ggX11_init_X9_init : GoodIn wsX11_init wsX9_init := goodIn_r _ [100, 101, 2, 3, 4, 102, 103, 104, 253, 254, 255, 256, 257] (by decide +kernel) (by decide +kernel)
set_option maxRecDepth 20000 in
theorem gX11_init_X9_init_n36 : GoodIn wsX11_init (wsX9_init) := ggX11_init_X9_init
set_option maxRecDepth 20000 in
theorem ggX11_init_X9_asTold : GoodIn wsX11_init wsX9_asTold := goodIn_r _ [108, 109, 110, 111, 112, 113, 114, 115, 104, 116, 117, 118, 119, 120, 121, 122, 17, 123, 102, 103, 253, 254, 255, 256, 257, 235, 236, 237, 238, 239, 240, 241, 242, 243, 244, 245, 246, 247, 248, 249, 250, 251, 252] (by decide +kernel) (by decide +kernel)
set_option maxRecDepth 20000 in
theorem gX11_init_X9_asTold : GoodIn wsX11_init (wsV RX11 41 RX9 yX9_asTold wsX9_asTold) := goodIn_app (goodIn_of _ (by decide +kernel)) ggX11_init_X9_asTold
set_option maxRecDepth 20000 in
theorem ggX11_init_X0_init : GoodIn wsX11_init wsX0_init := goodIn_r _ [125, 126, 2, 3, 4, 127, 128, 129, 258, 259, 260, 261, 262] (by decide +kernel) (by decide +kernel)
set_option maxRecDepth 20000 in
theorem gX11_init_X0_init_n54 : GoodIn wsX11_init (wsX0_init) := ggX11_init_X0_init
set_option maxRecDepth 20000 in
theorem ggX11_init_X5_init : GoodIn wsX11_init wsX5_init := goodIn_r _ [132, 133, 2, 3, 4, 134, 135, 136, 263, 264, 265] (by decide +kernel) (by decide +kernel)
set_option maxRecDepth 20000 in
theorem gX11_init_X5_init : GoodIn wsX11_init (wsX5_init) := ggX11_init_X5_init
set_option maxRecDepth 20000 in
theorem ggX11_init_X1_init : GoodIn wsX11_init wsX1_init := goodIn_r _ [139, 140, 2, 3, 4, 141, 142, 143, 144, 145, 146, 147, 148, 149, 150, 151, 152, 153, 154, 155, 156, 157, 158, 159, 160, 161, 162, 163, 89, 90, 91, 266, 267, 268, 269, 270, 271, 272, 314, 315, 316, 317, 318, 319, 320, 321] (by decide +kernel) (by decide +kernel)
set_option maxRecDepth 20000 in
theorem gX11_init_X1_init : GoodIn wsX11_init (wsX1_init) := ggX11_init_X1_init
set_option maxRecDepth 20000 in
theorem ggX11_init_X2_init : GoodIn wsX11_init wsX2_init := goodIn_r _ [166, 167, 2, 3, 4, 168, 169, 170, 171, 172, 173, 174, 175, 176, 148, 149, 177, 178, 152, 153, 154, 155, 156, 157, 158, 159, 160, 161, 162, 273, 274, 275, 276, 277, 278, 279, 280, 281, 282, 283, 314, 315, 316, 317, 318, 319, 320, 321] (by decide +kernel) (by decide +kernel)
set_option maxRecDepth 20000 in
theorem gX11_init_X2_init : GoodIn wsX11_init (wsX2_init) := ggX11_init_X2_init
set_option maxRecDepth 20000 in
theorem ggX11_init_X3_init : GoodIn wsX11_init wsX3_init := goodIn_r _ [181, 182, 2, 3, 4, 183, 184, 185, 186, 187, 188, 189, 190, 148, 149, 191, 192, 152, 153, 154, 155, 156, 157, 158, 159, 160, 161, 162, 284, 285, 286, 287, 288, 289, 290, 291, 292, 314, 315, 316, 317, 318, 319, 320, 321] (by decide +kernel) (by decide +kernel)
set_option maxRecDepth 20000 in
theorem gX11_init_X3_init : GoodIn wsX11_init (wsX3_init) := ggX11_init_X3_init
set_option maxRecDepth 20000 in
theorem ggX11_init_X8_init : GoodIn wsX11_init wsX8_init := goodIn_r _ [195, 196, 2, 3, 4, 197, 198, 199, 200, 201, 202, 203, 204, 205, 206, 148, 149, 207, 208, 152, 153, 154, 155, 156, 157, 158, 159, 160, 161, 162, 293, 294, 295, 296, 297, 298, 299, 300, 301, 302, 303, 304, 305, 306, 307, 308, 314, 315, 316, 317, 318, 319, 320, 321] (by decide +kernel) (by decide +kernel)
set_option maxRecDepth 20000 in
theorem gX11_init_X8_init : GoodIn wsX11_init (wsX8_init) := ggX11_init_X8_init
theorem dX11_init_0 : decode cX11_init 0 = .ok (.aload_n 0, 1) := by decide +kernel
theorem dX11_init_1 : decode cX11_init 1 = .ok (.invokespecial 1, 3) := by decide +kernel
theorem dX11_init_4 : decode cX11_init 4 = .ok (.aload_n 0, 1) := by decide +kernel
theorem dX11_init_5 : decode cX11_init 5 = .ok (.sipush 1600, 3) := by decide +kernel
theorem dX11_init_8 : decode cX11_init 8 = .ok (.newarray .int, 2) := by decide +kernel
theorem dX11_init_10 : decode cX11_init 10 = .ok (.putfield 9, 3) := by decide +kernel
theorem dX11_init_13 : decode cX11_init 13 = .ok (.aload_n 0, 1) := by decide +kernel
theorem dX11_init_14 : decode cX11_init 14 = .ok (.iconst 0, 1) := by decide +kernel
theorem dX11_init_15 : decode cX11_init 15 = .ok (.putfield 13, 3) := by decide +kernel
theorem dX11_init_18 : decode cX11_init 18 = .ok (.aload_n 0, 1) := by decide +kernel
theorem dX11_init_19 : decode cX11_init 19 = .ok (.new 17, 3) := by decide +kernel
theorem dX11_init_22 : decode cX11_init 22 = .ok (.dup, 1) := by decide +kernel
theorem dX11_init_23 : decode cX11_init 23 = .ok (.invokespecial 19, 3) := by decide +kernel
theorem dX11_init_26 : decode cX11_init 26 = .ok (.putfield 20, 3) := by decide +kernel
theorem dX11_init_29 : decode cX11_init 29 = .ok (.aload_n 0, 1) := by decide +kernel
theorem dX11_init_30 : decode cX11_init 30 = .ok (.new 24, 3) := by decide +kernel
theorem dX11_init_33 : decode cX11_init 33 = .ok (.dup, 1) := by decide +kernel
theorem dX11_init_34 : decode cX11_init 34 = .ok (.invokespecial 26, 3) := by decide +kernel
theorem dX11_init_37 : decode cX11_init 37 = .ok (.putfield 27, 3) := by decide +kernel
theorem dX11_init_40 : decode cX11_init 40 = .ok (.aload_n 0, 1) := by decide +kernel
theorem dX11_init_41 : decode cX11_init 41 = .ok (.getfield 27, 3) := by decide +kernel
theorem dX11_init_44 : decode cX11_init 44 = .ok (.invokevirtual 31, 3) := by decide +kernel
theorem dX11_init_47 : decode cX11_init 47 = .ok (.aload_n 0, 1) := by decide +kernel
theorem dX11_init_48 : decode cX11_init 48 = .ok (.new 34, 3) := by decide +kernel
theorem dX11_init_51 : decode cX11_init 51 = .ok (.dup, 1) := by decide +kernel
theorem dX11_init_52 : decode cX11_init 52 = .ok (.invokespecial 36, 3) := by decide +kernel
theorem dX11_init_55 : decode cX11_init 55 = .ok (.putfield 37, 3) := by decide +kernel
theorem dX11_init_58 : decode cX11_init 58 = .ok (.aload_n 0, 1) := by decide +kernel
theorem dX11_init_59 : decode cX11_init 59 = .ok (.getfield 37, 3) := by decide +kernel
theorem dX11_init_62 : decode cX11_init 62 = .ok (.aload_n 0, 1) := by decide +kernel
theorem dX11_init_63 : decode cX11_init 63 = .ok (.getfield 27, 3) := by decide +kernel
theorem dX11_init_66 : decode cX11_init 66 = .ok (.invokevirtual 41, 3) := by decide +kernel
theorem dX11_init_69 : decode cX11_init 69 = .ok (.aload_n 0, 1) := by decide +kernel
theorem dX11_init_70 : decode cX11_init 70 = .ok (.iconst 3, 1) := by decide +kernel
theorem dX11_init_71 : decode cX11_init 71 = .ok (.anewarray 34, 3) := by decide +kernel
theorem dX11_init_74 : decode cX11_init 74 = .ok (.putfield 45, 3) := by decide +kernel
theorem dX11_init_77 : decode cX11_init 77 = .ok (.iconst 0, 1) := by decide +kernel
theorem dX11_init_78 : decode cX11_init 78 = .ok (.istore_n 1, 1) := by decide +kernel
theorem dX11_init_79 : decode cX11_init 79 = .ok (.iload_n 1, 1) := by decide +kernel
theorem dX11_init_80 : decode cX11_init 80 = .ok (.iconst 3, 1) := by decide +kernel
theorem dX11_init_81 : decode cX11_init 81 = .ok (.if_icmp .ge 32, 3) := by decide +kernel
theorem dX11_init_84 : decode cX11_init 84 = .ok (.aload_n 0, 1) := by decide +kernel
theorem dX11_init_85 : decode cX11_init 85 = .ok (.getfield 45, 3) := by decide +kernel
theorem dX11_init_88 : decode cX11_init 88 = .ok (.iload_n 1, 1) := by decide +kernel
theorem dX11_init_89 : decode cX11_init 89 = .ok (.new 34, 3) := by decide +kernel
theorem dX11_init_92 : decode cX11_init 92 = .ok (.dup, 1) := by decide +kernel
theorem dX11_init_93 : decode cX11_init 93 = .ok (.invokespecial 36, 3) := by decide +kernel
theorem dX11_init_96 : decode cX11_init 96 = .ok (.aastore, 1) := by decide +kernel
theorem dX11_init_97 : decode cX11_init 97 = .ok (.aload_n 0, 1) := by decide +kernel
theorem dX11_init_98 : decode cX11_init 98 = .ok (.getfield 45, 3) := by decide +kernel
theorem dX11_init_101 : decode cX11_init 101 = .ok (.iload_n 1, 1) := by decide +kernel
theorem dX11_init_102 : decode cX11_init 102 = .ok (.aaload, 1) := by decide +kernel
theorem dX11_init_103 : decode cX11_init 103 = .ok (.iconst (-1), 1) := by decide +kernel
theorem dX11_init_104 : decode cX11_init 104 = .ok (.putfield 49, 3) := by decide +kernel
theorem dX11_init_107 : decode cX11_init 107 = .ok (.iinc 1 1, 3) := by decide +kernel
theorem dX11_init_110 : decode cX11_init 110 = .ok (.goto (-31), 3) := by decide +kernel
theorem dX11_init_113 : decode cX11_init 113 = .ok (.aload_n 0, 1) := by decide +kernel
theorem dX11_init_114 : decode cX11_init 114 = .ok (.new 52, 3) := by decide +kernel
theorem dX11_init_117 : decode cX11_init 117 = .ok (.dup, 1) := by decide +kernel
theorem dX11_init_118 : decode cX11_init 118 = .ok (.invokespecial 54, 3) := by decide +kernel
theorem dX11_init_121 : decode cX11_init 121 = .ok (.putfield 55, 3) := by decide +kernel
theorem dX11_init_124 : decode cX11_init 124 = .ok (.aload_n 0, 1) := by decide +kernel
theorem dX11_init_125 : decode cX11_init 125 = .ok (.new 59, 3) := by decide +kernel
theorem dX11_init_128 : decode cX11_init 128 = .ok (.dup, 1) := by decide +kernel
theorem dX11_init_129 : decode cX11_init 129 = .ok (.aload_n 0, 1) := by decide +kernel
theorem dX11_init_130 : decode cX11_init 130 = .ok (.getfield 27, 3) := by decide +kernel
theorem dX11_init_133 : decode cX11_init 133 = .ok (.invokespecial 61, 3) := by decide +kernel
theorem dX11_init_136 : decode cX11_init 136 = .ok (.putfield 63, 3) := by decide +kernel
theorem dX11_init_139 : decode cX11_init 139 = .ok (.aload_n 0, 1) := by decide +kernel
theorem dX11_init_140 : decode cX11_init 140 = .ok (.new 67, 3) := by decide +kernel
theorem dX11_init_143 : decode cX11_init 143 = .ok (.dup, 1) := by decide +kernel
theorem dX11_init_144 : decode cX11_init 144 = .ok (.aload_n 0, 1) := by decide +kernel
theorem dX11_init_145 : decode cX11_init 145 = .ok (.getfield 27, 3) := by decide +kernel
theorem dX11_init_148 : decode cX11_init 148 = .ok (.aload_n 0, 1) := by decide +kernel
theorem dX11_init_149 : decode cX11_init 149 = .ok (.getfield 37, 3) := by decide +kernel
theorem dX11_init_152 : decode cX11_init 152 = .ok (.aload_n 0, 1) := by decide +kernel
theorem dX11_init_153 : decode cX11_init 153 = .ok (.getfield 63, 3) := by decide +kernel
theorem dX11_init_156 : decode cX11_init 156 = .ok (.invokespecial 69, 3) := by decide +kernel
theorem dX11_init_159 : decode cX11_init 159 = .ok (.putfield 72, 3) := by decide +kernel
theorem dX11_init_162 : decode cX11_init 162 = .ok (.aload_n 0, 1) := by decide +kernel
theorem dX11_init_163 : decode cX11_init 163 = .ok (.new 76, 3) := by decide +kernel
theorem dX11_init_166 : decode cX11_init 166 = .ok (.dup, 1) := by decide +kernel
theorem dX11_init_167 : decode cX11_init 167 = .ok (.aload_n 0, 1) := by decide +kernel
theorem dX11_init_168 : decode cX11_init 168 = .ok (.getfield 27, 3) := by decide +kernel
theorem dX11_init_171 : decode cX11_init 171 = .ok (.aload_n 0, 1) := by decide +kernel
theorem dX11_init_172 : decode cX11_init 172 = .ok (.getfield 37, 3) := by decide +kernel
theorem dX11_init_175 : decode cX11_init 175 = .ok (.aload_n 0, 1) := by decide +kernel
theorem dX11_init_176 : decode cX11_init 176 = .ok (.getfield 63, 3) := by decide +kernel
theorem dX11_init_179 : decode cX11_init 179 = .ok (.invokespecial 78, 3) := by decide +kernel
theorem dX11_init_182 : decode cX11_init 182 = .ok (.putfield 79, 3) := by decide +kernel
theorem dX11_init_185 : decode cX11_init 185 = .ok (.aload_n 0, 1) := by decide +kernel
theorem dX11_init_186 : decode cX11_init 186 = .ok (.new 83, 3) := by decide +kernel
theorem dX11_init_189 : decode cX11_init 189 = .ok (.dup, 1) := by decide +kernel
theorem dX11_init_190 : decode cX11_init 190 = .ok (.aload_n 0, 1) := by decide +kernel
theorem dX11_init_191 : decode cX11_init 191 = .ok (.getfield 27, 3) := by decide +kernel
theorem dX11_init_194 : decode cX11_init 194 = .ok (.aload_n 0, 1) := by decide +kernel
theorem dX11_init_195 : decode cX11_init 195 = .ok (.getfield 37, 3) := by decide +kernel
theorem dX11_init_198 : decode cX11_init 198 = .ok (.aload_n 0, 1) := by decide +kernel
theorem dX11_init_199 : decode cX11_init 199 = .ok (.getfield 63, 3) := by decide +kernel
theorem dX11_init_202 : decode cX11_init 202 = .ok (.invokespecial 85, 3) := by decide +kernel
theorem dX11_init_205 : decode cX11_init 205 = .ok (.putfield 86, 3) := by decide +kernel
theorem dX11_init_208 : decode cX11_init 208 = .ok (.aload_n 0, 1) := by decide +kernel
theorem dX11_init_209 : decode cX11_init 209 = .ok (.new 90, 3) := by decide +kernel
theorem dX11_init_212 : decode cX11_init 212 = .ok (.dup, 1) := by decide +kernel
theorem dX11_init_213 : decode cX11_init 213 = .ok (.aload_n 0, 1) := by decide +kernel
theorem dX11_init_214 : decode cX11_init 214 = .ok (.getfield 27, 3) := by decide +kernel
theorem dX11_init_217 : decode cX11_init 217 = .ok (.invokespecial 92, 3) := by decide +kernel
theorem dX11_init_220 : decode cX11_init 220 = .ok (.putfield 93, 3) := by decide +kernel
theorem dX11_init_223 : decode cX11_init 223 = .ok (.aload_n 0, 1) := by decide +kernel
theorem dX11_init_224 : decode cX11_init 224 = .ok (.bipush 24, 2) := by decide +kernel
theorem dX11_init_226 : decode cX11_init 226 = .ok (.newarray .int, 2) := by decide +kernel
theorem dX11_init_228 : decode cX11_init 228 = .ok (.putfield 97, 3) := by decide +kernel
theorem dX11_init_231 : decode cX11_init 231 = .ok (.aload_n 0, 1) := by decide +kernel
theorem dX11_init_232 : decode cX11_init 232 = .ok (.iconst 0, 1) := by decide +kernel
theorem dX11_init_233 : decode cX11_init 233 = .ok (.putfield 100, 3) := by decide +kernel
theorem dX11_init_236 : decode cX11_init 236 = .ok (.return_, 1) := by decide +kernel
set_option maxRecDepth 20000 in
theorem ggX11_feed_X11_layFour : GoodIn wsX11_feed wsX11_layFour := goodIn_r _ [6, 1, 7, 8, 9, 10, 11, 12, 13, 14, 15, 16, 17, 18, 19, 20, 21] (by decide +kernel) (by decide +kernel)
set_option maxRecDepth 20000 in
theorem gX11_feed_X11_layFour : GoodIn wsX11_feed (wsV RX11 103 RX11 yX11_layFour wsX11_layFour) := goodIn_app (goodIn_of _ (by decide +kernel)) ggX11_feed_X11_layFour
theorem dX11_feed_0 : decode cX11_feed 0 = .ok (.aload_n 0, 1) := by decide +kernel
theorem dX11_feed_1 : decode cX11_feed 1 = .ok (.getfield 13, 3) := by decide +kernel
theorem dX11_feed_4 : decode cX11_feed 4 = .ok (.bipush 20, 2) := by decide +kernel
theorem dX11_feed_6 : decode cX11_feed 6 = .ok (.iadd, 1) := by decide +kernel
theorem dX11_feed_7 : decode cX11_feed 7 = .ok (.sipush 1600, 3) := by decide +kernel
theorem dX11_feed_10 : decode cX11_feed 10 = .ok (.if_icmp .le 5, 3) := by decide +kernel
theorem dX11_feed_13 : decode cX11_feed 13 = .ok (.iconst (-1), 1) := by decide +kernel
theorem dX11_feed_14 : decode cX11_feed 14 = .ok (.ireturn, 1) := by decide +kernel
theorem dX11_feed_15 : decode cX11_feed 15 = .ok (.aload_n 0, 1) := by decide +kernel
theorem dX11_feed_16 : decode cX11_feed 16 = .ok (.iload_n 1, 1) := by decide +kernel
theorem dX11_feed_17 : decode cX11_feed 17 = .ok (.invokevirtual 103, 3) := by decide +kernel
theorem dX11_feed_20 : decode cX11_feed 20 = .ok (.aload_n 0, 1) := by decide +kernel
theorem dX11_feed_21 : decode cX11_feed 21 = .ok (.iload_n 2, 1) := by decide +kernel
theorem dX11_feed_22 : decode cX11_feed 22 = .ok (.invokevirtual 103, 3) := by decide +kernel
theorem dX11_feed_25 : decode cX11_feed 25 = .ok (.aload_n 0, 1) := by decide +kernel
theorem dX11_feed_26 : decode cX11_feed 26 = .ok (.iload_n 3, 1) := by decide +kernel
theorem dX11_feed_27 : decode cX11_feed 27 = .ok (.invokevirtual 103, 3) := by decide +kernel
theorem dX11_feed_30 : decode cX11_feed 30 = .ok (.aload_n 0, 1) := by decide +kernel
theorem dX11_feed_31 : decode cX11_feed 31 = .ok (.iload 4, 2) := by decide +kernel
theorem dX11_feed_33 : decode cX11_feed 33 = .ok (.invokevirtual 103, 3) := by decide +kernel
theorem dX11_feed_36 : decode cX11_feed 36 = .ok (.aload_n 0, 1) := by decide +kernel
theorem dX11_feed_37 : decode cX11_feed 37 = .ok (.iload 5, 2) := by decide +kernel
theorem dX11_feed_39 : decode cX11_feed 39 = .ok (.invokevirtual 103, 3) := by decide +kernel
theorem dX11_feed_42 : decode cX11_feed 42 = .ok (.aload_n 0, 1) := by decide +kernel
theorem dX11_feed_43 : decode cX11_feed 43 = .ok (.getfield 13, 3) := by decide +kernel
theorem dX11_feed_46 : decode cX11_feed 46 = .ok (.ireturn, 1) := by decide +kernel
theorem dX11_layFour_0 : decode cX11_layFour 0 = .ok (.bipush 24, 2) := by decide +kernel
theorem dX11_layFour_2 : decode cX11_layFour 2 = .ok (.istore_n 2, 1) := by decide +kernel
theorem dX11_layFour_3 : decode cX11_layFour 3 = .ok (.iload_n 2, 1) := by decide +kernel
theorem dX11_layFour_4 : decode cX11_layFour 4 = .ok (.ifCond .lt 45, 3) := by decide +kernel
theorem dX11_layFour_7 : decode cX11_layFour 7 = .ok (.aload_n 0, 1) := by decide +kernel
theorem dX11_layFour_8 : decode cX11_layFour 8 = .ok (.getfield 13, 3) := by decide +kernel
theorem dX11_layFour_11 : decode cX11_layFour 11 = .ok (.sipush 1600, 3) := by decide +kernel
theorem dX11_layFour_14 : decode cX11_layFour 14 = .ok (.if_icmp .ge 35, 3) := by decide +kernel
theorem dX11_layFour_17 : decode cX11_layFour 17 = .ok (.aload_n 0, 1) := by decide +kernel
theorem dX11_layFour_18 : decode cX11_layFour 18 = .ok (.getfield 9, 3) := by decide +kernel
theorem dX11_layFour_21 : decode cX11_layFour 21 = .ok (.aload_n 0, 1) := by decide +kernel
theorem dX11_layFour_22 : decode cX11_layFour 22 = .ok (.getfield 13, 3) := by decide +kernel
theorem dX11_layFour_25 : decode cX11_layFour 25 = .ok (.iload_n 1, 1) := by decide +kernel
theorem dX11_layFour_26 : decode cX11_layFour 26 = .ok (.iload_n 2, 1) := by decide +kernel
theorem dX11_layFour_27 : decode cX11_layFour 27 = .ok (.iushr, 1) := by decide +kernel
theorem dX11_layFour_28 : decode cX11_layFour 28 = .ok (.sipush 255, 3) := by decide +kernel
theorem dX11_layFour_31 : decode cX11_layFour 31 = .ok (.iand, 1) := by decide +kernel
theorem dX11_layFour_32 : decode cX11_layFour 32 = .ok (.iastore, 1) := by decide +kernel
theorem dX11_layFour_33 : decode cX11_layFour 33 = .ok (.aload_n 0, 1) := by decide +kernel
theorem dX11_layFour_34 : decode cX11_layFour 34 = .ok (.dup, 1) := by decide +kernel
theorem dX11_layFour_35 : decode cX11_layFour 35 = .ok (.getfield 13, 3) := by decide +kernel
theorem dX11_layFour_38 : decode cX11_layFour 38 = .ok (.iconst 1, 1) := by decide +kernel
theorem dX11_layFour_39 : decode cX11_layFour 39 = .ok (.iadd, 1) := by decide +kernel
theorem dX11_layFour_40 : decode cX11_layFour 40 = .ok (.putfield 13, 3) := by decide +kernel
theorem dX11_layFour_43 : decode cX11_layFour 43 = .ok (.iinc 2 (-8), 3) := by decide +kernel
theorem dX11_layFour_46 : decode cX11_layFour 46 = .ok (.goto (-43), 3) := by decide +kernel
theorem dX11_layFour_49 : decode cX11_layFour 49 = .ok (.return_, 1) := by decide +kernel
set_option maxRecDepth 20000 in
theorem ggX11_end_X11_within : GoodIn wsX11_end wsX11_within := goodIn_r _ [5] (by decide +kernel) (by decide +kernel)
set_option maxRecDepth 20000 in
theorem gX11_end_X11_within : GoodIn wsX11_end (va_wsS RX11 107 yX11_within wsX11_within) := goodIn_app (goodIn_of _ (by decide +kernel)) ggX11_end_X11_within
theorem dX11_end_0 : decode cX11_end 0 = .ok (.iload_n 1, 1) := by decide +kernel
theorem dX11_end_1 : decode cX11_end 1 = .ok (.iconst 0, 1) := by decide +kernel
theorem dX11_end_2 : decode cX11_end 2 = .ok (.aload_n 0, 1) := by decide +kernel
theorem dX11_end_3 : decode cX11_end 3 = .ok (.getfield 13, 3) := by decide +kernel
theorem dX11_end_6 : decode cX11_end 6 = .ok (.invokestatic 107, 3) := by decide +kernel
theorem dX11_end_9 : decode cX11_end 9 = .ok (.ifCond .ne 5, 3) := by decide +kernel
theorem dX11_end_12 : decode cX11_end 12 = .ok (.iconst (-1), 1) := by decide +kernel
theorem dX11_end_13 : decode cX11_end 13 = .ok (.ireturn, 1) := by decide +kernel
theorem dX11_end_14 : decode cX11_end 14 = .ok (.aload_n 0, 1) := by decide +kernel
theorem dX11_end_15 : decode cX11_end 15 = .ok (.iload_n 1, 1) := by decide +kernel
theorem dX11_end_16 : decode cX11_end 16 = .ok (.putfield 13, 3) := by decide +kernel
theorem dX11_end_19 : decode cX11_end 19 = .ok (.iload_n 1, 1) := by decide +kernel
theorem dX11_end_20 : decode cX11_end 20 = .ok (.ireturn, 1) := by decide +kernel
set_option maxRecDepth 20000 in
theorem ggX11_road_X6_read : GoodIn wsX11_road wsX6_read := goodIn_r _ [18, 19, 20, 21, 22, 23, 24, 25, 26, 27, 28, 29, 30, 31, 32, 33, 34, 35, 36, 37, 38, 39, 40, 41, 42, 43, 44, 45, 46, 47, 48, 49, 50, 51, 52, 53, 54, 55, 56, 17, 57, 58, 59, 60, 61, 62, 63, 64, 65, 66, 67, 68, 69, 70, 71, 72, 73, 74, 75, 76, 77, 78, 79, 80, 81, 82, 83, 84, 85, 86, 87, 88, 89, 90, 91, 92, 93, 94, 95, 96, 97, 98, 99, 100, 101, 102, 103, 104, 105, 106, 107, 108, 109, 110, 111, 112, 113, 114, 115, 116, 117, 118, 119, 120, 121, 122, 123, 124, 125, 126, 127, 128, 129, 130, 131, 132, 133, 134, 135, 136, 137, 138, 139, 140, 141, 142, 143, 144, 145, 146, 147, 148, 149, 150, 151, 152, 153, 154, 155, 156, 157, 158, 159, 160, 161, 162, 163, 164, 165, 166, 167, 168, 169, 170, 171, 172, 173, 174, 175, 176, 177, 178, 179, 180, 181, 182, 183, 184, 185, 186, 187, 188, 189, 190, 191, 192, 193, 194, 195, 196, 197, 198, 199, 200, 201, 202, 203, 204, 205, 206, 207, 208, 209, 210, 211, 212, 213, 214, 215, 216, 217, 218, 219, 220, 221, 222, 223, 224, 225, 226, 227, 228, 229, 230, 231, 232, 233, 234, 235, 236, 237, 238, 239, 240, 241, 242, 243, 244, 245, 246, 247, 248, 249, 250, 251, 252, 253, 254, 255, 256, 257, 258, 259, 260, 261, 262, 263, 264, 265, 266, 267, 268, 269, 270, 271, 272, 273, 274, 275, 276, 277, 425, 426, 427, 428, 429, 430, 431, 432, 433, 434, 435, 436, 442, 443, 444, 445, 446, 447, 448, 449, 450, 451, 452, 453, 454, 455, 456, 457, 458, 459, 460, 461, 462, 463, 464] (by decide +kernel) (by decide +kernel)
set_option maxRecDepth 20000 in
theorem gX11_road_X6_read : GoodIn wsX11_road (wsV RX11 111 RX6 yX6_read wsX6_read) := goodIn_app (goodIn_of _ (by decide +kernel)) ggX11_road_X6_read
set_option maxRecDepth 20000 in
theorem ggX11_road_X7_becomes : GoodIn wsX11_road wsX7_becomes := goodIn_r _ [281, 35, 36, 37, 38, 282, 283, 284, 285, 286, 287, 288, 39, 289, 290, 291, 40, 292, 293, 41, 294, 295, 296, 49, 297, 51, 52, 53, 274, 298, 442, 443, 444, 445, 446, 447, 448, 449, 450, 451, 452, 453, 454, 455, 456, 457, 458, 459, 460, 461, 462, 463, 464] (by decide +kernel) (by decide +kernel)
set_option maxRecDepth 20000 in
theorem gX11_road_X7_becomes : GoodIn wsX11_road (wsV RX11 118 RX7 yX7_becomes wsX7_becomes) := goodIn_app (goodIn_of _ (by decide +kernel)) ggX11_road_X7_becomes
set_option maxRecDepth 20000 in
theorem ggX11_road_X5_forget : GoodIn wsX11_road wsX5_forget := goodIn_r _ [303, 304, 305, 43, 44, 45, 465, 466, 467] (by decide +kernel) (by decide +kernel)
set_option maxRecDepth 20000 in
theorem gX11_road_X5_forget : GoodIn wsX11_road (wsV RX11 121 RX5 yX5_forget wsX5_forget) := goodIn_app (goodIn_of _ (by decide +kernel)) ggX11_road_X5_forget
set_option maxRecDepth 20000 in
theorem ggX11_road_X9_asTold : GoodIn wsX11_road wsX9_asTold := goodIn_r _ [310, 311, 312, 313, 314, 315, 316, 317, 318, 319, 284, 285, 286, 320, 321, 322, 309, 323, 324, 325, 437, 438, 439, 440, 441, 442, 443, 444, 445, 446, 447, 448, 449, 450, 451, 452, 453, 454, 455, 456, 457, 458, 459] (by decide +kernel) (by decide +kernel)
set_option maxRecDepth 20000 in
theorem gX11_road_X9_asTold : GoodIn wsX11_road (wsV RX11 41 RX9 yX9_asTold wsX9_asTold) := goodIn_app (goodIn_of _ (by decide +kernel)) ggX11_road_X9_asTold
set_option maxRecDepth 20000 in
theorem ggX11_road_X0_forget : GoodIn wsX11_road wsX0_forget := goodIn_r _ [330, 331, 332, 468, 469, 470, 471, 472] (by decide +kernel) (by decide +kernel)
set_option maxRecDepth 20000 in
theorem gX11_road_X0_forget : GoodIn wsX11_road (wsV RX11 124 RX0 yX0_forget wsX0_forget) := goodIn_app (goodIn_of _ (by decide +kernel)) ggX11_road_X0_forget
set_option maxRecDepth 20000 in
theorem ggX11_road_X8_forget : GoodIn wsX11_road wsX8_forget := goodIn_r _ [337, 338, 473, 474, 475, 476, 477, 478, 479, 480, 481, 482, 483, 484, 485, 486, 487, 488] (by decide +kernel) (by decide +kernel)
set_option maxRecDepth 20000 in
theorem gX11_road_X8_forget : GoodIn wsX11_road (wsV RX11 125 RX8 yX8_forget wsX8_forget) := goodIn_app (goodIn_of _ (by decide +kernel)) ggX11_road_X8_forget
set_option maxRecDepth 20000 in
theorem ggX11_road_X1_workOut : GoodIn wsX11_road wsX1_workOut := goodIn_r _ [343, 344, 345, 346, 347, 348, 349, 350, 351, 352, 353, 354, 355, 356, 357, 358, 359, 309, 360, 311, 316, 361, 224, 362, 363, 364, 365, 43, 44, 45, 366, 367, 368, 369, 370, 371, 372, 284, 285, 286, 373, 374, 375, 376, 377, 378, 379, 380, 381, 382, 383, 384, 385, 386, 387, 388, 389, 390, 391, 392, 393, 394, 395, 302, 396, 397, 304, 398, 399, 400, 401, 402, 403, 49, 404, 53, 51, 274, 405, 406, 21, 22, 23, 407, 101, 102, 408, 409, 410, 489, 490, 491, 492, 493, 494, 495, 437, 438, 439, 440, 441, 442, 443, 444, 445, 446, 447, 448, 449, 450, 451, 452, 453, 454, 455, 456, 457, 458, 459, 496, 497, 498, 499, 500, 501, 502, 503, 465, 466, 467, 460, 461, 462, 463, 464] (by decide +kernel) (by decide +kernel)
set_option maxRecDepth 20000 in
theorem gX11_road_X1_workOut : GoodIn wsX11_road (wsV RX11 126 RX1 yX1_workOut wsX1_workOut) := goodIn_app (goodIn_of _ (by decide +kernel)) ggX11_road_X1_workOut
theorem dX11_road_0 : decode cX11_road 0 = .ok (.aload_n 0, 1) := by decide +kernel
theorem dX11_road_1 : decode cX11_road 1 = .ok (.getfield 20, 3) := by decide +kernel
theorem dX11_road_4 : decode cX11_road 4 = .ok (.aload_n 0, 1) := by decide +kernel
theorem dX11_road_5 : decode cX11_road 5 = .ok (.getfield 9, 3) := by decide +kernel
theorem dX11_road_8 : decode cX11_road 8 = .ok (.aload_n 0, 1) := by decide +kernel
theorem dX11_road_9 : decode cX11_road 9 = .ok (.getfield 13, 3) := by decide +kernel
theorem dX11_road_12 : decode cX11_road 12 = .ok (.invokevirtual 111, 3) := by decide +kernel
theorem dX11_road_15 : decode cX11_road 15 = .ok (.ifCond .ne 5, 3) := by decide +kernel
theorem dX11_road_18 : decode cX11_road 18 = .ok (.iconst (-1), 1) := by decide +kernel
theorem dX11_road_19 : decode cX11_road 19 = .ok (.ireturn, 1) := by decide +kernel
theorem dX11_road_20 : decode cX11_road 20 = .ok (.aload_n 0, 1) := by decide +kernel
theorem dX11_road_21 : decode cX11_road 21 = .ok (.iconst 0, 1) := by decide +kernel
theorem dX11_road_22 : decode cX11_road 22 = .ok (.putfield 13, 3) := by decide +kernel
theorem dX11_road_25 : decode cX11_road 25 = .ok (.aload_n 0, 1) := by decide +kernel
theorem dX11_road_26 : decode cX11_road 26 = .ok (.getfield 27, 3) := by decide +kernel
theorem dX11_road_29 : decode cX11_road 29 = .ok (.aload_n 0, 1) := by decide +kernel
theorem dX11_road_30 : decode cX11_road 30 = .ok (.getfield 20, 3) := by decide +kernel
theorem dX11_road_33 : decode cX11_road 33 = .ok (.getfield 115, 3) := by decide +kernel
theorem dX11_road_36 : decode cX11_road 36 = .ok (.invokevirtual 118, 3) := by decide +kernel
theorem dX11_road_39 : decode cX11_road 39 = .ok (.aload_n 0, 1) := by decide +kernel
theorem dX11_road_40 : decode cX11_road 40 = .ok (.getfield 63, 3) := by decide +kernel
theorem dX11_road_43 : decode cX11_road 43 = .ok (.invokevirtual 121, 3) := by decide +kernel
theorem dX11_road_46 : decode cX11_road 46 = .ok (.aload_n 0, 1) := by decide +kernel
theorem dX11_road_47 : decode cX11_road 47 = .ok (.getfield 37, 3) := by decide +kernel
theorem dX11_road_50 : decode cX11_road 50 = .ok (.aload_n 0, 1) := by decide +kernel
theorem dX11_road_51 : decode cX11_road 51 = .ok (.getfield 27, 3) := by decide +kernel
theorem dX11_road_54 : decode cX11_road 54 = .ok (.invokevirtual 41, 3) := by decide +kernel
theorem dX11_road_57 : decode cX11_road 57 = .ok (.aload_n 0, 1) := by decide +kernel
theorem dX11_road_58 : decode cX11_road 58 = .ok (.getfield 55, 3) := by decide +kernel
theorem dX11_road_61 : decode cX11_road 61 = .ok (.invokevirtual 124, 3) := by decide +kernel
theorem dX11_road_64 : decode cX11_road 64 = .ok (.aload_n 0, 1) := by decide +kernel
theorem dX11_road_65 : decode cX11_road 65 = .ok (.getfield 93, 3) := by decide +kernel
theorem dX11_road_68 : decode cX11_road 68 = .ok (.invokevirtual 125, 3) := by decide +kernel
theorem dX11_road_71 : decode cX11_road 71 = .ok (.aload_n 0, 1) := by decide +kernel
theorem dX11_road_72 : decode cX11_road 72 = .ok (.iconst 0, 1) := by decide +kernel
theorem dX11_road_73 : decode cX11_road 73 = .ok (.putfield 100, 3) := by decide +kernel
theorem dX11_road_76 : decode cX11_road 76 = .ok (.iconst 0, 1) := by decide +kernel
theorem dX11_road_77 : decode cX11_road 77 = .ok (.istore_n 1, 1) := by decide +kernel
theorem dX11_road_78 : decode cX11_road 78 = .ok (.iload_n 1, 1) := by decide +kernel
theorem dX11_road_79 : decode cX11_road 79 = .ok (.iconst 3, 1) := by decide +kernel
theorem dX11_road_80 : decode cX11_road 80 = .ok (.if_icmp .ge 19, 3) := by decide +kernel
theorem dX11_road_83 : decode cX11_road 83 = .ok (.aload_n 0, 1) := by decide +kernel
theorem dX11_road_84 : decode cX11_road 84 = .ok (.getfield 45, 3) := by decide +kernel
theorem dX11_road_87 : decode cX11_road 87 = .ok (.iload_n 1, 1) := by decide +kernel
theorem dX11_road_88 : decode cX11_road 88 = .ok (.aaload, 1) := by decide +kernel
theorem dX11_road_89 : decode cX11_road 89 = .ok (.iconst (-1), 1) := by decide +kernel
theorem dX11_road_90 : decode cX11_road 90 = .ok (.putfield 49, 3) := by decide +kernel
theorem dX11_road_93 : decode cX11_road 93 = .ok (.iinc 1 1, 3) := by decide +kernel
theorem dX11_road_96 : decode cX11_road 96 = .ok (.goto (-18), 3) := by decide +kernel
theorem dX11_road_99 : decode cX11_road 99 = .ok (.aload_n 0, 1) := by decide +kernel
theorem dX11_road_100 : decode cX11_road 100 = .ok (.getfield 72, 3) := by decide +kernel
theorem dX11_road_103 : decode cX11_road 103 = .ok (.invokevirtual 126, 3) := by decide +kernel
theorem dX11_road_106 : decode cX11_road 106 = .ok (.aload_n 0, 1) := by decide +kernel
theorem dX11_road_107 : decode cX11_road 107 = .ok (.getfield 37, 3) := by decide +kernel
theorem dX11_road_110 : decode cX11_road 110 = .ok (.getfield 49, 3) := by decide +kernel
theorem dX11_road_113 : decode cX11_road 113 = .ok (.ireturn, 1) := by decide +kernel
