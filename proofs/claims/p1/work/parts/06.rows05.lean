set_option maxRecDepth 20000 in
theorem ggX11_lies_X11_within : GoodIn wsX11_lies wsX11_within := goodIn_r _ [6] (by decide +kernel) (by decide +kernel)
set_option maxRecDepth 20000 in
theorem gX11_lies_X11_within : GoodIn wsX11_lies (va_wsS RX11 107 yX11_within wsX11_within) := goodIn_app (goodIn_of _ (by decide +kernel)) ggX11_lies_X11_within
theorem dX11_lies_0 : decode cX11_lies 0 = .ok (.iload_n 1, 1) := by decide +kernel
theorem dX11_lies_1 : decode cX11_lies 1 = .ok (.iconst 0, 1) := by decide +kernel
theorem dX11_lies_2 : decode cX11_lies 2 = .ok (.aload_n 0, 1) := by decide +kernel
theorem dX11_lies_3 : decode cX11_lies 3 = .ok (.getfield 100, 3) := by decide +kernel
theorem dX11_lies_6 : decode cX11_lies 6 = .ok (.iconst 1, 1) := by decide +kernel
theorem dX11_lies_7 : decode cX11_lies 7 = .ok (.isub, 1) := by decide +kernel
theorem dX11_lies_8 : decode cX11_lies 8 = .ok (.invokestatic 107, 3) := by decide +kernel
theorem dX11_lies_11 : decode cX11_lies 11 = .ok (.ifCond .eq 12, 3) := by decide +kernel
theorem dX11_lies_14 : decode cX11_lies 14 = .ok (.aload_n 0, 1) := by decide +kernel
theorem dX11_lies_15 : decode cX11_lies 15 = .ok (.getfield 97, 3) := by decide +kernel
theorem dX11_lies_18 : decode cX11_lies 18 = .ok (.iload_n 1, 1) := by decide +kernel
theorem dX11_lies_19 : decode cX11_lies 19 = .ok (.iaload, 1) := by decide +kernel
theorem dX11_lies_20 : decode cX11_lies 20 = .ok (.goto 4, 3) := by decide +kernel
theorem dX11_lies_23 : decode cX11_lies 23 = .ok (.iconst (-1), 1) := by decide +kernel
theorem dX11_lies_24 : decode cX11_lies 24 = .ok (.ireturn, 1) := by decide +kernel
set_option maxRecDepth 20000 in
theorem ggX11_sight_X11_within : GoodIn wsX11_sight wsX11_within := goodIn_r _ [6] (by decide +kernel) (by decide +kernel)
set_option maxRecDepth 20000 in
theorem gX11_sight_X11_within : GoodIn wsX11_sight (va_wsS RX11 107 yX11_within wsX11_within) := goodIn_app (goodIn_of _ (by decide +kernel)) ggX11_sight_X11_within
set_option maxRecDepth 20000 in
theorem ggX11_sight_X11_isBird : GoodIn wsX11_sight wsX11_isBird := goodIn_r _ [10, 11, 12, 3, 4, 5, 6, 25, 26, 27, 28, 29, 30, 31, 32, 33, 34, 35, 36, 37, 38, 55, 56, 57, 58, 59, 60, 61, 62, 63, 64, 65, 66, 67, 68, 69, 70, 71, 72] (by decide +kernel) (by decide +kernel)
set_option maxRecDepth 20000 in
theorem gX11_sight_X11_isBird : GoodIn wsX11_sight (wsV RX11 168 RX11 yX11_isBird wsX11_isBird) := goodIn_app (goodIn_of _ (by decide +kernel)) ggX11_sight_X11_isBird
set_option maxRecDepth 20000 in
theorem ggX11_sight_X8_tell : GoodIn wsX11_sight wsX8_tell := goodIn_r _ [17, 18, 19, 20, 21, 22, 23, 24, 39, 40, 41, 42, 43, 44, 45, 46, 47, 48, 49, 50, 51, 52, 53, 54] (by decide +kernel) (by decide +kernel)
set_option maxRecDepth 20000 in
theorem gX11_sight_X8_tell : GoodIn wsX11_sight (wsV RX11 259 RX8 yX8_tell wsX8_tell) := goodIn_app (goodIn_of _ (by decide +kernel)) ggX11_sight_X8_tell
theorem dX11_sight_0 : decode cX11_sight 0 = .ok (.iload_n 1, 1) := by decide +kernel
theorem dX11_sight_1 : decode cX11_sight 1 = .ok (.iconst 0, 1) := by decide +kernel
theorem dX11_sight_2 : decode cX11_sight 2 = .ok (.sipush 720, 3) := by decide +kernel
theorem dX11_sight_5 : decode cX11_sight 5 = .ok (.invokestatic 107, 3) := by decide +kernel
theorem dX11_sight_8 : decode cX11_sight 8 = .ok (.ifCond .eq 33, 3) := by decide +kernel
theorem dX11_sight_11 : decode cX11_sight 11 = .ok (.aload_n 0, 1) := by decide +kernel
theorem dX11_sight_12 : decode cX11_sight 12 = .ok (.iload_n 2, 1) := by decide +kernel
theorem dX11_sight_13 : decode cX11_sight 13 = .ok (.invokevirtual 168, 3) := by decide +kernel
theorem dX11_sight_16 : decode cX11_sight 16 = .ok (.ifCond .eq 25, 3) := by decide +kernel
theorem dX11_sight_19 : decode cX11_sight 19 = .ok (.iload_n 3, 1) := by decide +kernel
theorem dX11_sight_20 : decode cX11_sight 20 = .ok (.iconst 0, 1) := by decide +kernel
theorem dX11_sight_21 : decode cX11_sight 21 = .ok (.bipush 20, 2) := by decide +kernel
theorem dX11_sight_23 : decode cX11_sight 23 = .ok (.invokestatic 107, 3) := by decide +kernel
theorem dX11_sight_26 : decode cX11_sight 26 = .ok (.ifCond .eq 15, 3) := by decide +kernel
theorem dX11_sight_29 : decode cX11_sight 29 = .ok (.aload_n 0, 1) := by decide +kernel
theorem dX11_sight_30 : decode cX11_sight 30 = .ok (.getfield 93, 3) := by decide +kernel
theorem dX11_sight_33 : decode cX11_sight 33 = .ok (.getfield 256, 3) := by decide +kernel
theorem dX11_sight_36 : decode cX11_sight 36 = .ok (.bipush 30, 2) := by decide +kernel
theorem dX11_sight_38 : decode cX11_sight 38 = .ok (.if_icmp .lt 5, 3) := by decide +kernel
theorem dX11_sight_41 : decode cX11_sight 41 = .ok (.iconst (-1), 1) := by decide +kernel
theorem dX11_sight_42 : decode cX11_sight 42 = .ok (.ireturn, 1) := by decide +kernel
theorem dX11_sight_43 : decode cX11_sight 43 = .ok (.aload_n 0, 1) := by decide +kernel
theorem dX11_sight_44 : decode cX11_sight 44 = .ok (.getfield 93, 3) := by decide +kernel
theorem dX11_sight_47 : decode cX11_sight 47 = .ok (.iload_n 1, 1) := by decide +kernel
theorem dX11_sight_48 : decode cX11_sight 48 = .ok (.iload_n 2, 1) := by decide +kernel
theorem dX11_sight_49 : decode cX11_sight 49 = .ok (.iload_n 3, 1) := by decide +kernel
theorem dX11_sight_50 : decode cX11_sight 50 = .ok (.invokevirtual 259, 3) := by decide +kernel
theorem dX11_sight_53 : decode cX11_sight 53 = .ok (.ireturn, 1) := by decide +kernel
set_option maxRecDepth 20000 in
theorem ggX11_untell_X8_takeBack : GoodIn wsX11_untell wsX8_takeBack := goodIn_r _ [6, 7, 8, 9, 10, 11, 12, 27, 28, 29, 30, 31, 32, 33, 34, 35, 36, 37, 38, 39, 40, 41, 42] (by decide +kernel) (by decide +kernel)
set_option maxRecDepth 20000 in
theorem gX11_untell_X8_takeBack : GoodIn wsX11_untell (wsV RX11 263 RX8 yX8_takeBack wsX8_takeBack) := goodIn_app (goodIn_of _ (by decide +kernel)) ggX11_untell_X8_takeBack
theorem dX11_untell_0 : decode cX11_untell 0 = .ok (.aload_n 0, 1) := by decide +kernel
theorem dX11_untell_1 : decode cX11_untell 1 = .ok (.getfield 93, 3) := by decide +kernel
theorem dX11_untell_4 : decode cX11_untell 4 = .ok (.iload_n 1, 1) := by decide +kernel
theorem dX11_untell_5 : decode cX11_untell 5 = .ok (.invokevirtual 263, 3) := by decide +kernel
theorem dX11_untell_8 : decode cX11_untell 8 = .ok (.ireturn, 1) := by decide +kernel
set_option maxRecDepth 20000 in
theorem ggX11_later_X11_within : GoodIn wsX11_later wsX11_within := goodIn_r _ [7] (by decide +kernel) (by decide +kernel)
set_option maxRecDepth 20000 in
theorem gX11_later_X11_within : GoodIn wsX11_later (va_wsS RX11 107 yX11_within wsX11_within) := goodIn_app (goodIn_of _ (by decide +kernel)) ggX11_later_X11_within
theorem dX11_later_0 : decode cX11_later 0 = .ok (.iload_n 1, 1) := by decide +kernel
theorem dX11_later_1 : decode cX11_later 1 = .ok (.iconst 0, 1) := by decide +kernel
theorem dX11_later_2 : decode cX11_later 2 = .ok (.sipush 1000, 3) := by decide +kernel
theorem dX11_later_5 : decode cX11_later 5 = .ok (.invokestatic 107, 3) := by decide +kernel
theorem dX11_later_8 : decode cX11_later 8 = .ok (.ifCond .eq 18, 3) := by decide +kernel
theorem dX11_later_11 : decode cX11_later 11 = .ok (.aload_n 0, 1) := by decide +kernel
theorem dX11_later_12 : decode cX11_later 12 = .ok (.getfield 93, 3) := by decide +kernel
theorem dX11_later_15 : decode cX11_later 15 = .ok (.getfield 266, 3) := by decide +kernel
theorem dX11_later_18 : decode cX11_later 18 = .ok (.iload_n 1, 1) := by decide +kernel
theorem dX11_later_19 : decode cX11_later 19 = .ok (.iadd, 1) := by decide +kernel
theorem dX11_later_20 : decode cX11_later 20 = .ok (.ldc_w 269, 3) := by decide +kernel
theorem dX11_later_23 : decode cX11_later 23 = .ok (.if_icmp .le 5, 3) := by decide +kernel
theorem dX11_later_26 : decode cX11_later 26 = .ok (.iconst (-1), 1) := by decide +kernel
theorem dX11_later_27 : decode cX11_later 27 = .ok (.ireturn, 1) := by decide +kernel
theorem dX11_later_28 : decode cX11_later 28 = .ok (.aload_n 0, 1) := by decide +kernel
theorem dX11_later_29 : decode cX11_later 29 = .ok (.getfield 93, 3) := by decide +kernel
theorem dX11_later_32 : decode cX11_later 32 = .ok (.dup, 1) := by decide +kernel
theorem dX11_later_33 : decode cX11_later 33 = .ok (.getfield 266, 3) := by decide +kernel
theorem dX11_later_36 : decode cX11_later 36 = .ok (.iload_n 1, 1) := by decide +kernel
theorem dX11_later_37 : decode cX11_later 37 = .ok (.iadd, 1) := by decide +kernel
theorem dX11_later_38 : decode cX11_later 38 = .ok (.putfield 266, 3) := by decide +kernel
theorem dX11_later_41 : decode cX11_later 41 = .ok (.aload_n 0, 1) := by decide +kernel
theorem dX11_later_42 : decode cX11_later 42 = .ok (.getfield 93, 3) := by decide +kernel
theorem dX11_later_45 : decode cX11_later 45 = .ok (.getfield 266, 3) := by decide +kernel
theorem dX11_later_48 : decode cX11_later 48 = .ok (.ireturn, 1) := by decide +kernel
set_option maxRecDepth 20000 in
theorem ggX11_came_X11_within : GoodIn wsX11_came wsX11_within := goodIn_r _ [7] (by decide +kernel) (by decide +kernel)
set_option maxRecDepth 20000 in
theorem gX11_came_X11_within : GoodIn wsX11_came (va_wsS RX11 107 yX11_within wsX11_within) := goodIn_app (goodIn_of _ (by decide +kernel)) ggX11_came_X11_within
set_option maxRecDepth 20000 in
theorem ggX11_came_X8_findSets : GoodIn wsX11_came wsX8_findSets := goodIn_r _ [12, 13, 14, 15, 16, 17, 18, 19, 20, 21, 22, 23, 24, 25, 26, 27, 6, 28, 29, 30, 31, 11, 32, 33, 34, 35, 36, 37, 38, 39, 40, 41, 42, 43, 44, 45, 46, 47, 48, 49, 50, 51, 52, 53, 54, 55, 56, 57, 58, 59, 60, 61, 62, 63, 64, 65, 66, 67, 68, 69, 70, 71, 72, 73, 74, 75, 76, 77, 78, 79, 80, 81, 82, 83, 84, 85, 86, 87, 88, 89, 90, 91, 92, 93, 94, 95, 96, 115, 116, 117, 118, 119, 120, 121, 122, 123, 124, 125, 126, 127, 128, 129, 130, 131, 132, 133, 134, 135, 136, 137, 138, 139, 140, 141, 142, 143, 144, 145, 146, 147, 148, 149, 150, 151, 152, 153, 154, 155, 156] (by decide +kernel) (by decide +kernel)
set_option maxRecDepth 20000 in
theorem gX11_came_X8_findSets : GoodIn wsX11_came (wsV RX11 270 RX8 yX8_findSets wsX8_findSets) := goodIn_app (goodIn_of _ (by decide +kernel)) ggX11_came_X8_findSets
set_option maxRecDepth 20000 in
theorem ggX11_came_X8_inNone : GoodIn wsX11_came wsX8_inNone := goodIn_r _ [100, 13, 68, 26, 115, 116, 117, 118, 119, 120, 121, 122, 123, 124, 125, 126, 127, 128, 129, 130, 131, 132, 133, 134, 135, 136, 137, 138, 139, 140, 141, 142, 143, 144, 145, 146, 147, 148] (by decide +kernel) (by decide +kernel)
set_option maxRecDepth 20000 in
theorem gX11_came_X8_inNone : GoodIn wsX11_came (wsV RX11 279 RX8 yX8_inNone wsX8_inNone) := goodIn_app (goodIn_of _ (by decide +kernel)) ggX11_came_X8_inNone
theorem dX11_came_0 : decode cX11_came 0 = .ok (.iload_n 1, 1) := by decide +kernel
theorem dX11_came_1 : decode cX11_came 1 = .ok (.iconst 0, 1) := by decide +kernel
theorem dX11_came_2 : decode cX11_came 2 = .ok (.iconst 2, 1) := by decide +kernel
theorem dX11_came_3 : decode cX11_came 3 = .ok (.invokestatic 107, 3) := by decide +kernel
theorem dX11_came_6 : decode cX11_came 6 = .ok (.ifCond .ne 5, 3) := by decide +kernel
theorem dX11_came_9 : decode cX11_came 9 = .ok (.iconst (-1), 1) := by decide +kernel
theorem dX11_came_10 : decode cX11_came 10 = .ok (.ireturn, 1) := by decide +kernel
theorem dX11_came_11 : decode cX11_came 11 = .ok (.aload_n 0, 1) := by decide +kernel
theorem dX11_came_12 : decode cX11_came 12 = .ok (.getfield 93, 3) := by decide +kernel
theorem dX11_came_15 : decode cX11_came 15 = .ok (.iload_n 2, 1) := by decide +kernel
theorem dX11_came_16 : decode cX11_came 16 = .ok (.invokevirtual 270, 3) := by decide +kernel
theorem dX11_came_19 : decode cX11_came 19 = .ok (.iload_n 1, 1) := by decide +kernel
theorem dX11_came_20 : decode cX11_came 20 = .ok (.ifCond .ne 11, 3) := by decide +kernel
theorem dX11_came_23 : decode cX11_came 23 = .ok (.aload_n 0, 1) := by decide +kernel
theorem dX11_came_24 : decode cX11_came 24 = .ok (.getfield 93, 3) := by decide +kernel
theorem dX11_came_27 : decode cX11_came 27 = .ok (.getfield 273, 3) := by decide +kernel
theorem dX11_came_30 : decode cX11_came 30 = .ok (.ireturn, 1) := by decide +kernel
theorem dX11_came_31 : decode cX11_came 31 = .ok (.aload_n 0, 1) := by decide +kernel
theorem dX11_came_32 : decode cX11_came 32 = .ok (.getfield 93, 3) := by decide +kernel
theorem dX11_came_35 : decode cX11_came 35 = .ok (.getfield 273, 3) := by decide +kernel
theorem dX11_came_38 : decode cX11_came 38 = .ok (.ifCond .ne 5, 3) := by decide +kernel
theorem dX11_came_41 : decode cX11_came 41 = .ok (.iconst 0, 1) := by decide +kernel
theorem dX11_came_42 : decode cX11_came 42 = .ok (.ireturn, 1) := by decide +kernel
theorem dX11_came_43 : decode cX11_came 43 = .ok (.iload_n 1, 1) := by decide +kernel
theorem dX11_came_44 : decode cX11_came 44 = .ok (.iconst 1, 1) := by decide +kernel
theorem dX11_came_45 : decode cX11_came 45 = .ok (.if_icmp .ne 13, 3) := by decide +kernel
theorem dX11_came_48 : decode cX11_came 48 = .ok (.aload_n 0, 1) := by decide +kernel
theorem dX11_came_49 : decode cX11_came 49 = .ok (.getfield 93, 3) := by decide +kernel
theorem dX11_came_52 : decode cX11_came 52 = .ok (.getfield 276, 3) := by decide +kernel
theorem dX11_came_55 : decode cX11_came 55 = .ok (.goto 10, 3) := by decide +kernel
theorem dX11_came_58 : decode cX11_came 58 = .ok (.aload_n 0, 1) := by decide +kernel
theorem dX11_came_59 : decode cX11_came 59 = .ok (.getfield 93, 3) := by decide +kernel
theorem dX11_came_62 : decode cX11_came 62 = .ok (.invokevirtual 279, 3) := by decide +kernel
theorem dX11_came_65 : decode cX11_came 65 = .ok (.ireturn, 1) := by decide +kernel
set_option maxRecDepth 20000 in
theorem ggX11_image_X11_within : GoodIn wsX11_image wsX11_within := goodIn_r _ [7] (by decide +kernel) (by decide +kernel)
set_option maxRecDepth 20000 in
theorem gX11_image_X11_within : GoodIn wsX11_image (va_wsS RX11 107 yX11_within wsX11_within) := goodIn_app (goodIn_of _ (by decide +kernel)) ggX11_image_X11_within
set_option maxRecDepth 20000 in
theorem ggX11_image_X9_becomes : GoodIn wsX11_image wsX9_becomes := goodIn_r _ [12, 13, 14, 15, 16, 17, 18, 19, 20, 21, 36, 37, 38, 39, 40] (by decide +kernel) (by decide +kernel)
set_option maxRecDepth 20000 in
theorem gX11_image_X9_becomes : GoodIn wsX11_image (wsV RX11 282 RX9 yX9_becomes wsX9_becomes) := goodIn_app (goodIn_of _ (by decide +kernel)) ggX11_image_X9_becomes
theorem dX11_image_0 : decode cX11_image 0 = .ok (.iload_n 1, 1) := by decide +kernel
theorem dX11_image_1 : decode cX11_image 1 = .ok (.iconst 0, 1) := by decide +kernel
theorem dX11_image_2 : decode cX11_image 2 = .ok (.iconst 2, 1) := by decide +kernel
theorem dX11_image_3 : decode cX11_image 3 = .ok (.invokestatic 107, 3) := by decide +kernel
theorem dX11_image_6 : decode cX11_image 6 = .ok (.ifCond .ne 5, 3) := by decide +kernel
theorem dX11_image_9 : decode cX11_image 9 = .ok (.iconst (-1), 1) := by decide +kernel
theorem dX11_image_10 : decode cX11_image 10 = .ok (.ireturn, 1) := by decide +kernel
theorem dX11_image_11 : decode cX11_image 11 = .ok (.aload_n 0, 1) := by decide +kernel
theorem dX11_image_12 : decode cX11_image 12 = .ok (.getfield 45, 3) := by decide +kernel
theorem dX11_image_15 : decode cX11_image 15 = .ok (.iload_n 1, 1) := by decide +kernel
theorem dX11_image_16 : decode cX11_image 16 = .ok (.aaload, 1) := by decide +kernel
theorem dX11_image_17 : decode cX11_image 17 = .ok (.aload_n 0, 1) := by decide +kernel
theorem dX11_image_18 : decode cX11_image 18 = .ok (.getfield 37, 3) := by decide +kernel
theorem dX11_image_21 : decode cX11_image 21 = .ok (.invokevirtual 282, 3) := by decide +kernel
theorem dX11_image_24 : decode cX11_image 24 = .ok (.aload_n 0, 1) := by decide +kernel
theorem dX11_image_25 : decode cX11_image 25 = .ok (.getfield 37, 3) := by decide +kernel
theorem dX11_image_28 : decode cX11_image 28 = .ok (.getfield 49, 3) := by decide +kernel
theorem dX11_image_31 : decode cX11_image 31 = .ok (.ireturn, 1) := by decide +kernel
set_option maxRecDepth 20000 in
theorem ggX11_back_X11_within : GoodIn wsX11_back wsX11_within := goodIn_r _ [9] (by decide +kernel) (by decide +kernel)
set_option maxRecDepth 20000 in
theorem gX11_back_X11_within : GoodIn wsX11_back (va_wsS RX11 107 yX11_within wsX11_within) := goodIn_app (goodIn_of _ (by decide +kernel)) ggX11_back_X11_within
set_option maxRecDepth 20000 in
theorem ggX11_back_X9_becomes : GoodIn wsX11_back wsX9_becomes := goodIn_r _ [14, 15, 16, 17, 18, 19, 20, 21, 22, 23, 131, 132, 133, 134, 135] (by decide +kernel) (by decide +kernel)
set_option maxRecDepth 20000 in
theorem gX11_back_X9_becomes : GoodIn wsX11_back (wsV RX11 282 RX9 yX9_becomes wsX9_becomes) := goodIn_app (goodIn_of _ (by decide +kernel)) ggX11_back_X9_becomes
set_option maxRecDepth 20000 in
theorem ggX11_back_X0_forget : GoodIn wsX11_back wsX0_forget := goodIn_r _ [28, 29, 30, 136, 137, 138, 139, 140] (by decide +kernel) (by decide +kernel)
set_option maxRecDepth 20000 in
theorem gX11_back_X0_forget : GoodIn wsX11_back (wsV RX11 124 RX0 yX0_forget wsX0_forget) := goodIn_app (goodIn_of _ (by decide +kernel)) ggX11_back_X0_forget
set_option maxRecDepth 20000 in
theorem ggX11_back_X1_workOut : GoodIn wsX11_back wsX1_workOut := goodIn_r _ [35, 36, 37, 38, 39, 40, 41, 42, 43, 44, 45, 46, 47, 48, 49, 50, 51, 13, 52, 23, 21, 53, 8, 54, 55, 56, 57, 58, 59, 60, 61, 62, 63, 64, 65, 66, 67, 17, 18, 19, 68, 69, 70, 71, 72, 73, 74, 75, 76, 77, 78, 79, 80, 81, 82, 83, 84, 85, 86, 87, 88, 89, 90, 91, 92, 93, 94, 95, 96, 97, 98, 99, 100, 101, 102, 103, 104, 105, 106, 107, 108, 109, 110, 111, 112, 113, 114, 115, 116, 141, 142, 143, 144, 145, 146, 147, 131, 132, 133, 134, 135, 148, 149, 150, 151, 152, 153, 154, 155, 156, 157, 158, 159, 160, 161, 162, 163, 164, 165, 166, 167, 168, 169, 170, 171, 172, 173, 174, 175, 176, 177, 178, 179, 180, 181] (by decide +kernel) (by decide +kernel)
set_option maxRecDepth 20000 in
theorem gX11_back_X1_workOut : GoodIn wsX11_back (wsV RX11 126 RX1 yX1_workOut wsX1_workOut) := goodIn_app (goodIn_of _ (by decide +kernel)) ggX11_back_X1_workOut
theorem dX11_back_0 : decode cX11_back 0 = .ok (.iload_n 1, 1) := by decide +kernel
theorem dX11_back_1 : decode cX11_back 1 = .ok (.iconst 0, 1) := by decide +kernel
theorem dX11_back_2 : decode cX11_back 2 = .ok (.iconst 2, 1) := by decide +kernel
theorem dX11_back_3 : decode cX11_back 3 = .ok (.invokestatic 107, 3) := by decide +kernel
theorem dX11_back_6 : decode cX11_back 6 = .ok (.ifCond .eq 16, 3) := by decide +kernel
theorem dX11_back_9 : decode cX11_back 9 = .ok (.aload_n 0, 1) := by decide +kernel
theorem dX11_back_10 : decode cX11_back 10 = .ok (.getfield 45, 3) := by decide +kernel
theorem dX11_back_13 : decode cX11_back 13 = .ok (.iload_n 1, 1) := by decide +kernel
theorem dX11_back_14 : decode cX11_back 14 = .ok (.aaload, 1) := by decide +kernel
theorem dX11_back_15 : decode cX11_back 15 = .ok (.getfield 49, 3) := by decide +kernel
theorem dX11_back_18 : decode cX11_back 18 = .ok (.iconst (-1), 1) := by decide +kernel
theorem dX11_back_19 : decode cX11_back 19 = .ok (.if_icmp .ne 5, 3) := by decide +kernel
theorem dX11_back_22 : decode cX11_back 22 = .ok (.iconst (-1), 1) := by decide +kernel
theorem dX11_back_23 : decode cX11_back 23 = .ok (.ireturn, 1) := by decide +kernel
theorem dX11_back_24 : decode cX11_back 24 = .ok (.aload_n 0, 1) := by decide +kernel
theorem dX11_back_25 : decode cX11_back 25 = .ok (.getfield 37, 3) := by decide +kernel
theorem dX11_back_28 : decode cX11_back 28 = .ok (.aload_n 0, 1) := by decide +kernel
theorem dX11_back_29 : decode cX11_back 29 = .ok (.getfield 45, 3) := by decide +kernel
theorem dX11_back_32 : decode cX11_back 32 = .ok (.iload_n 1, 1) := by decide +kernel
theorem dX11_back_33 : decode cX11_back 33 = .ok (.aaload, 1) := by decide +kernel
theorem dX11_back_34 : decode cX11_back 34 = .ok (.invokevirtual 282, 3) := by decide +kernel
theorem dX11_back_37 : decode cX11_back 37 = .ok (.aload_n 0, 1) := by decide +kernel
theorem dX11_back_38 : decode cX11_back 38 = .ok (.getfield 55, 3) := by decide +kernel
theorem dX11_back_41 : decode cX11_back 41 = .ok (.invokevirtual 124, 3) := by decide +kernel
theorem dX11_back_44 : decode cX11_back 44 = .ok (.aload_n 0, 1) := by decide +kernel
theorem dX11_back_45 : decode cX11_back 45 = .ok (.getfield 72, 3) := by decide +kernel
theorem dX11_back_48 : decode cX11_back 48 = .ok (.invokevirtual 126, 3) := by decide +kernel
theorem dX11_back_51 : decode cX11_back 51 = .ok (.aload_n 0, 1) := by decide +kernel
theorem dX11_back_52 : decode cX11_back 52 = .ok (.getfield 37, 3) := by decide +kernel
theorem dX11_back_55 : decode cX11_back 55 = .ok (.getfield 49, 3) := by decide +kernel
theorem dX11_back_58 : decode cX11_back 58 = .ok (.ireturn, 1) := by decide +kernel
theorem dX11_about_0 : decode cX11_about 0 = .ok (.iload_n 1, 1) := by decide +kernel
theorem dX11_about_1 : decode cX11_about 1 = .ok (.tableswitch 140 0 9 #[55, 63, 71, 79, 87, 103, 111, 119, 124, 135], 55) := by decide +kernel
theorem dX11_about_56 : decode cX11_about 56 = .ok (.aload_n 0, 1) := by decide +kernel
theorem dX11_about_57 : decode cX11_about 57 = .ok (.getfield 27, 3) := by decide +kernel
theorem dX11_about_60 : decode cX11_about 60 = .ok (.getfield 247, 3) := by decide +kernel
theorem dX11_about_63 : decode cX11_about 63 = .ok (.ireturn, 1) := by decide +kernel
theorem dX11_about_64 : decode cX11_about 64 = .ok (.aload_n 0, 1) := by decide +kernel
theorem dX11_about_65 : decode cX11_about 65 = .ok (.getfield 27, 3) := by decide +kernel
theorem dX11_about_68 : decode cX11_about 68 = .ok (.getfield 250, 3) := by decide +kernel
theorem dX11_about_71 : decode cX11_about 71 = .ok (.ireturn, 1) := by decide +kernel
theorem dX11_about_72 : decode cX11_about 72 = .ok (.aload_n 0, 1) := by decide +kernel
theorem dX11_about_73 : decode cX11_about 73 = .ok (.getfield 37, 3) := by decide +kernel
theorem dX11_about_76 : decode cX11_about 76 = .ok (.getfield 49, 3) := by decide +kernel
theorem dX11_about_79 : decode cX11_about 79 = .ok (.ireturn, 1) := by decide +kernel
theorem dX11_about_80 : decode cX11_about 80 = .ok (.aload_n 0, 1) := by decide +kernel
theorem dX11_about_81 : decode cX11_about 81 = .ok (.getfield 55, 3) := by decide +kernel
theorem dX11_about_84 : decode cX11_about 84 = .ok (.getfield 203, 3) := by decide +kernel
theorem dX11_about_87 : decode cX11_about 87 = .ok (.ireturn, 1) := by decide +kernel
theorem dX11_about_88 : decode cX11_about 88 = .ok (.aload_n 0, 1) := by decide +kernel
theorem dX11_about_89 : decode cX11_about 89 = .ok (.getfield 55, 3) := by decide +kernel
theorem dX11_about_92 : decode cX11_about 92 = .ok (.getfield 285, 3) := by decide +kernel
theorem dX11_about_95 : decode cX11_about 95 = .ok (.aload_n 0, 1) := by decide +kernel
theorem dX11_about_96 : decode cX11_about 96 = .ok (.getfield 55, 3) := by decide +kernel
theorem dX11_about_99 : decode cX11_about 99 = .ok (.getfield 203, 3) := by decide +kernel
theorem dX11_about_102 : decode cX11_about 102 = .ok (.isub, 1) := by decide +kernel
theorem dX11_about_103 : decode cX11_about 103 = .ok (.ireturn, 1) := by decide +kernel
theorem dX11_about_104 : decode cX11_about 104 = .ok (.aload_n 0, 1) := by decide +kernel
theorem dX11_about_105 : decode cX11_about 105 = .ok (.getfield 93, 3) := by decide +kernel
theorem dX11_about_108 : decode cX11_about 108 = .ok (.getfield 256, 3) := by decide +kernel
theorem dX11_about_111 : decode cX11_about 111 = .ok (.ireturn, 1) := by decide +kernel
theorem dX11_about_112 : decode cX11_about 112 = .ok (.aload_n 0, 1) := by decide +kernel
theorem dX11_about_113 : decode cX11_about 113 = .ok (.getfield 93, 3) := by decide +kernel
theorem dX11_about_116 : decode cX11_about 116 = .ok (.getfield 266, 3) := by decide +kernel
theorem dX11_about_119 : decode cX11_about 119 = .ok (.ireturn, 1) := by decide +kernel
theorem dX11_about_120 : decode cX11_about 120 = .ok (.aload_n 0, 1) := by decide +kernel
theorem dX11_about_121 : decode cX11_about 121 = .ok (.getfield 13, 3) := by decide +kernel
theorem dX11_about_124 : decode cX11_about 124 = .ok (.ireturn, 1) := by decide +kernel
theorem dX11_about_125 : decode cX11_about 125 = .ok (.aload_n 0, 1) := by decide +kernel
theorem dX11_about_126 : decode cX11_about 126 = .ok (.getfield 27, 3) := by decide +kernel
theorem dX11_about_129 : decode cX11_about 129 = .ok (.getfield 288, 3) := by decide +kernel
theorem dX11_about_132 : decode cX11_about 132 = .ok (.getfield 292, 3) := by decide +kernel
theorem dX11_about_135 : decode cX11_about 135 = .ok (.ireturn, 1) := by decide +kernel
theorem dX11_about_136 : decode cX11_about 136 = .ok (.aload_n 0, 1) := by decide +kernel
theorem dX11_about_137 : decode cX11_about 137 = .ok (.getfield 100, 3) := by decide +kernel
theorem dX11_about_140 : decode cX11_about 140 = .ok (.ireturn, 1) := by decide +kernel
theorem dX11_about_141 : decode cX11_about 141 = .ok (.iconst (-1), 1) := by decide +kernel
theorem dX11_about_142 : decode cX11_about 142 = .ok (.ireturn, 1) := by decide +kernel
theorem dX11_layThere_0 : decode cX11_layThere 0 = .ok (.aload_n 0, 1) := by decide +kernel
theorem dX11_layThere_1 : decode cX11_layThere 1 = .ok (.iload_n 2, 1) := by decide +kernel
theorem dX11_layThere_2 : decode cX11_layThere 2 = .ok (.aload_n 0, 1) := by decide +kernel
theorem dX11_layThere_3 : decode cX11_layThere 3 = .ok (.getfield 97, 3) := by decide +kernel
theorem dX11_layThere_6 : decode cX11_layThere 6 = .ok (.arraylength, 1) := by decide +kernel
theorem dX11_layThere_7 : decode cX11_layThere 7 = .ok (.aload_n 1, 1) := by decide +kernel
theorem dX11_layThere_8 : decode cX11_layThere 8 = .ok (.arraylength, 1) := by decide +kernel
theorem dX11_layThere_9 : decode cX11_layThere 9 = .ok (.invokestatic 297, 3) := by decide +kernel
theorem dX11_layThere_12 : decode cX11_layThere 12 = .ok (.invokestatic 297, 3) := by decide +kernel
theorem dX11_layThere_15 : decode cX11_layThere 15 = .ok (.putfield 100, 3) := by decide +kernel
theorem dX11_layThere_18 : decode cX11_layThere 18 = .ok (.aload_n 1, 1) := by decide +kernel
theorem dX11_layThere_19 : decode cX11_layThere 19 = .ok (.iconst 0, 1) := by decide +kernel
theorem dX11_layThere_20 : decode cX11_layThere 20 = .ok (.aload_n 0, 1) := by decide +kernel
theorem dX11_layThere_21 : decode cX11_layThere 21 = .ok (.getfield 97, 3) := by decide +kernel
theorem dX11_layThere_24 : decode cX11_layThere 24 = .ok (.iconst 0, 1) := by decide +kernel
theorem dX11_layThere_25 : decode cX11_layThere 25 = .ok (.aload_n 0, 1) := by decide +kernel
theorem dX11_layThere_26 : decode cX11_layThere 26 = .ok (.getfield 100, 3) := by decide +kernel
theorem dX11_layThere_29 : decode cX11_layThere 29 = .ok (.invokestatic 302, 3) := by decide +kernel
theorem dX11_layThere_32 : decode cX11_layThere 32 = .ok (.return_, 1) := by decide +kernel
set_option maxRecDepth 20000 in
theorem ggX11_isCart_X11_within : GoodIn wsX11_isCart wsX11_within := goodIn_r _ [6] (by decide +kernel) (by decide +kernel)
set_option maxRecDepth 20000 in
theorem gX11_isCart_X11_within : GoodIn wsX11_isCart (va_wsS RX11 107 yX11_within wsX11_within) := goodIn_app (goodIn_of _ (by decide +kernel)) ggX11_isCart_X11_within
theorem dX11_isCart_0 : decode cX11_isCart 0 = .ok (.iload_n 1, 1) := by decide +kernel
theorem dX11_isCart_1 : decode cX11_isCart 1 = .ok (.iconst 0, 1) := by decide +kernel
theorem dX11_isCart_2 : decode cX11_isCart 2 = .ok (.aload_n 0, 1) := by decide +kernel
theorem dX11_isCart_3 : decode cX11_isCart 3 = .ok (.getfield 37, 3) := by decide +kernel
theorem dX11_isCart_6 : decode cX11_isCart 6 = .ok (.getfield 49, 3) := by decide +kernel
theorem dX11_isCart_9 : decode cX11_isCart 9 = .ok (.iconst 1, 1) := by decide +kernel
theorem dX11_isCart_10 : decode cX11_isCart 10 = .ok (.isub, 1) := by decide +kernel
theorem dX11_isCart_11 : decode cX11_isCart 11 = .ok (.invokestatic 107, 3) := by decide +kernel
theorem dX11_isCart_14 : decode cX11_isCart 14 = .ok (.ireturn, 1) := by decide +kernel
set_option maxRecDepth 20000 in
theorem ggX11_isPost_X11_within : GoodIn wsX11_isPost wsX11_within := goodIn_r _ [6] (by decide +kernel) (by decide +kernel)
set_option maxRecDepth 20000 in
theorem gX11_isPost_X11_within : GoodIn wsX11_isPost (va_wsS RX11 107 yX11_within wsX11_within) := goodIn_app (goodIn_of _ (by decide +kernel)) ggX11_isPost_X11_within
theorem dX11_isPost_0 : decode cX11_isPost 0 = .ok (.iload_n 1, 1) := by decide +kernel
theorem dX11_isPost_1 : decode cX11_isPost 1 = .ok (.iconst 0, 1) := by decide +kernel
theorem dX11_isPost_2 : decode cX11_isPost 2 = .ok (.aload_n 0, 1) := by decide +kernel
theorem dX11_isPost_3 : decode cX11_isPost 3 = .ok (.getfield 27, 3) := by decide +kernel
theorem dX11_isPost_6 : decode cX11_isPost 6 = .ok (.getfield 250, 3) := by decide +kernel
theorem dX11_isPost_9 : decode cX11_isPost 9 = .ok (.iconst 1, 1) := by decide +kernel
theorem dX11_isPost_10 : decode cX11_isPost 10 = .ok (.isub, 1) := by decide +kernel
theorem dX11_isPost_11 : decode cX11_isPost 11 = .ok (.invokestatic 107, 3) := by decide +kernel
theorem dX11_isPost_14 : decode cX11_isPost 14 = .ok (.ireturn, 1) := by decide +kernel
set_option maxRecDepth 20000 in
theorem ggX11_isBird_X11_within : GoodIn wsX11_isBird wsX11_within := goodIn_r _ [6] (by decide +kernel) (by decide +kernel)
set_option maxRecDepth 20000 in
theorem gX11_isBird_X11_within : GoodIn wsX11_isBird (va_wsS RX11 107 yX11_within wsX11_within) := goodIn_app (goodIn_of _ (by decide +kernel)) ggX11_isBird_X11_within
theorem dX11_isBird_0 : decode cX11_isBird 0 = .ok (.iload_n 1, 1) := by decide +kernel
theorem dX11_isBird_1 : decode cX11_isBird 1 = .ok (.iconst 0, 1) := by decide +kernel
theorem dX11_isBird_2 : decode cX11_isBird 2 = .ok (.aload_n 0, 1) := by decide +kernel
theorem dX11_isBird_3 : decode cX11_isBird 3 = .ok (.getfield 27, 3) := by decide +kernel
theorem dX11_isBird_6 : decode cX11_isBird 6 = .ok (.getfield 247, 3) := by decide +kernel
theorem dX11_isBird_9 : decode cX11_isBird 9 = .ok (.iconst 1, 1) := by decide +kernel
theorem dX11_isBird_10 : decode cX11_isBird 10 = .ok (.isub, 1) := by decide +kernel
theorem dX11_isBird_11 : decode cX11_isBird 11 = .ok (.invokestatic 107, 3) := by decide +kernel
theorem dX11_isBird_14 : decode cX11_isBird 14 = .ok (.ireturn, 1) := by decide +kernel
theorem dX11_within_0 : decode cX11_within 0 = .ok (.iload_n 0, 1) := by decide +kernel
theorem dX11_within_1 : decode cX11_within 1 = .ok (.iload_n 1, 1) := by decide +kernel
theorem dX11_within_2 : decode cX11_within 2 = .ok (.if_icmp .lt 12, 3) := by decide +kernel
theorem dX11_within_5 : decode cX11_within 5 = .ok (.iload_n 0, 1) := by decide +kernel
theorem dX11_within_6 : decode cX11_within 6 = .ok (.iload_n 2, 1) := by decide +kernel
theorem dX11_within_7 : decode cX11_within 7 = .ok (.if_icmp .gt 7, 3) := by decide +kernel
theorem dX11_within_10 : decode cX11_within 10 = .ok (.iconst 1, 1) := by decide +kernel
theorem dX11_within_11 : decode cX11_within 11 = .ok (.goto 4, 3) := by decide +kernel
theorem dX11_within_14 : decode cX11_within 14 = .ok (.iconst 0, 1) := by decide +kernel
theorem dX11_within_15 : decode cX11_within 15 = .ok (.ireturn, 1) := by decide +kernel
theorem dX11_has_0 : decode cX11_has 0 = .ok (.iload_n 0, 1) := by decide +kernel
theorem dX11_has_1 : decode cX11_has 1 = .ok (.iload_n 1, 1) := by decide +kernel
theorem dX11_has_2 : decode cX11_has 2 = .ok (.ishr, 1) := by decide +kernel
theorem dX11_has_3 : decode cX11_has 3 = .ok (.iconst 1, 1) := by decide +kernel
theorem dX11_has_4 : decode cX11_has 4 = .ok (.iand, 1) := by decide +kernel
theorem dX11_has_5 : decode cX11_has 5 = .ok (.ifCond .eq 7, 3) := by decide +kernel
theorem dX11_has_8 : decode cX11_has 8 = .ok (.iconst 1, 1) := by decide +kernel
theorem dX11_has_9 : decode cX11_has 9 = .ok (.goto 4, 3) := by decide +kernel
theorem dX11_has_12 : decode cX11_has 12 = .ok (.iconst 0, 1) := by decide +kernel
theorem dX11_has_13 : decode cX11_has 13 = .ok (.ireturn, 1) := by decide +kernel
theorem dX11_putByMinutes_0 : decode cX11_putByMinutes 0 = .ok (.iconst 1, 1) := by decide +kernel
theorem dX11_putByMinutes_1 : decode cX11_putByMinutes 1 = .ok (.istore_n 3, 1) := by decide +kernel
theorem dX11_putByMinutes_2 : decode cX11_putByMinutes 2 = .ok (.iload_n 3, 1) := by decide +kernel
theorem dX11_putByMinutes_3 : decode cX11_putByMinutes 3 = .ok (.iload_n 1, 1) := by decide +kernel
theorem dX11_putByMinutes_4 : decode cX11_putByMinutes 4 = .ok (.if_icmp .ge 59, 3) := by decide +kernel
theorem dX11_putByMinutes_7 : decode cX11_putByMinutes 7 = .ok (.aload_n 0, 1) := by decide +kernel
theorem dX11_putByMinutes_8 : decode cX11_putByMinutes 8 = .ok (.iload_n 3, 1) := by decide +kernel
theorem dX11_putByMinutes_9 : decode cX11_putByMinutes 9 = .ok (.iaload, 1) := by decide +kernel
theorem dX11_putByMinutes_10 : decode cX11_putByMinutes 10 = .ok (.istore 4, 2) := by decide +kernel
theorem dX11_putByMinutes_12 : decode cX11_putByMinutes 12 = .ok (.iload_n 3, 1) := by decide +kernel
theorem dX11_putByMinutes_13 : decode cX11_putByMinutes 13 = .ok (.istore 5, 2) := by decide +kernel
theorem dX11_putByMinutes_15 : decode cX11_putByMinutes 15 = .ok (.iload 5, 2) := by decide +kernel
theorem dX11_putByMinutes_17 : decode cX11_putByMinutes 17 = .ok (.ifCond .le 34, 3) := by decide +kernel
theorem dX11_putByMinutes_20 : decode cX11_putByMinutes 20 = .ok (.aload_n 2, 1) := by decide +kernel
theorem dX11_putByMinutes_21 : decode cX11_putByMinutes 21 = .ok (.aload_n 0, 1) := by decide +kernel
theorem dX11_putByMinutes_22 : decode cX11_putByMinutes 22 = .ok (.iload 5, 2) := by decide +kernel
theorem dX11_putByMinutes_24 : decode cX11_putByMinutes 24 = .ok (.iconst 1, 1) := by decide +kernel
theorem dX11_putByMinutes_25 : decode cX11_putByMinutes 25 = .ok (.isub, 1) := by decide +kernel
theorem dX11_putByMinutes_26 : decode cX11_putByMinutes 26 = .ok (.iaload, 1) := by decide +kernel
theorem dX11_putByMinutes_27 : decode cX11_putByMinutes 27 = .ok (.iaload, 1) := by decide +kernel
theorem dX11_putByMinutes_28 : decode cX11_putByMinutes 28 = .ok (.aload_n 2, 1) := by decide +kernel
theorem dX11_putByMinutes_29 : decode cX11_putByMinutes 29 = .ok (.iload 4, 2) := by decide +kernel
theorem dX11_putByMinutes_31 : decode cX11_putByMinutes 31 = .ok (.iaload, 1) := by decide +kernel
theorem dX11_putByMinutes_32 : decode cX11_putByMinutes 32 = .ok (.if_icmp .le 19, 3) := by decide +kernel
theorem dX11_putByMinutes_35 : decode cX11_putByMinutes 35 = .ok (.aload_n 0, 1) := by decide +kernel
theorem dX11_putByMinutes_36 : decode cX11_putByMinutes 36 = .ok (.iload 5, 2) := by decide +kernel
theorem dX11_putByMinutes_38 : decode cX11_putByMinutes 38 = .ok (.aload_n 0, 1) := by decide +kernel
theorem dX11_putByMinutes_39 : decode cX11_putByMinutes 39 = .ok (.iload 5, 2) := by decide +kernel
theorem dX11_putByMinutes_41 : decode cX11_putByMinutes 41 = .ok (.iconst 1, 1) := by decide +kernel
theorem dX11_putByMinutes_42 : decode cX11_putByMinutes 42 = .ok (.isub, 1) := by decide +kernel
theorem dX11_putByMinutes_43 : decode cX11_putByMinutes 43 = .ok (.iaload, 1) := by decide +kernel
theorem dX11_putByMinutes_44 : decode cX11_putByMinutes 44 = .ok (.iastore, 1) := by decide +kernel
theorem dX11_putByMinutes_45 : decode cX11_putByMinutes 45 = .ok (.iinc 5 (-1), 3) := by decide +kernel
theorem dX11_putByMinutes_48 : decode cX11_putByMinutes 48 = .ok (.goto (-33), 3) := by decide +kernel
theorem dX11_putByMinutes_51 : decode cX11_putByMinutes 51 = .ok (.aload_n 0, 1) := by decide +kernel
theorem dX11_putByMinutes_52 : decode cX11_putByMinutes 52 = .ok (.iload 5, 2) := by decide +kernel
theorem dX11_putByMinutes_54 : decode cX11_putByMinutes 54 = .ok (.iload 4, 2) := by decide +kernel
theorem dX11_putByMinutes_56 : decode cX11_putByMinutes 56 = .ok (.iastore, 1) := by decide +kernel
theorem dX11_putByMinutes_57 : decode cX11_putByMinutes 57 = .ok (.iinc 3 1, 3) := by decide +kernel
theorem dX11_putByMinutes_60 : decode cX11_putByMinutes 60 = .ok (.goto (-58), 3) := by decide +kernel
theorem dX11_putByMinutes_63 : decode cX11_putByMinutes 63 = .ok (.return_, 1) := by decide +kernel
theorem dX11_spread_0 : decode cX11_spread 0 = .ok (.iload_n 0, 1) := by decide +kernel
theorem dX11_spread_1 : decode cX11_spread 1 = .ok (.istore 4, 2) := by decide +kernel
theorem dX11_spread_3 : decode cX11_spread 3 = .ok (.iload_n 2, 1) := by decide +kernel
theorem dX11_spread_4 : decode cX11_spread 4 = .ok (.iconst 1, 1) := by decide +kernel
theorem dX11_spread_5 : decode cX11_spread 5 = .ok (.isub, 1) := by decide +kernel
theorem dX11_spread_6 : decode cX11_spread 6 = .ok (.istore 5, 2) := by decide +kernel
theorem dX11_spread_8 : decode cX11_spread 8 = .ok (.iload 5, 2) := by decide +kernel
theorem dX11_spread_10 : decode cX11_spread 10 = .ok (.ifCond .lt 27, 3) := by decide +kernel
theorem dX11_spread_13 : decode cX11_spread 13 = .ok (.iload_n 1, 1) := by decide +kernel
theorem dX11_spread_14 : decode cX11_spread 14 = .ok (.ifCond .le 23, 3) := by decide +kernel
theorem dX11_spread_17 : decode cX11_spread 17 = .ok (.aload_n 3, 1) := by decide +kernel
theorem dX11_spread_18 : decode cX11_spread 18 = .ok (.iload 5, 2) := by decide +kernel
theorem dX11_spread_20 : decode cX11_spread 20 = .ok (.iload 4, 2) := by decide +kernel
theorem dX11_spread_22 : decode cX11_spread 22 = .ok (.iload_n 1, 1) := by decide +kernel
theorem dX11_spread_23 : decode cX11_spread 23 = .ok (.irem, 1) := by decide +kernel
theorem dX11_spread_24 : decode cX11_spread 24 = .ok (.iastore, 1) := by decide +kernel
theorem dX11_spread_25 : decode cX11_spread 25 = .ok (.iload 4, 2) := by decide +kernel
theorem dX11_spread_27 : decode cX11_spread 27 = .ok (.iload_n 1, 1) := by decide +kernel
theorem dX11_spread_28 : decode cX11_spread 28 = .ok (.idiv, 1) := by decide +kernel
theorem dX11_spread_29 : decode cX11_spread 29 = .ok (.istore 4, 2) := by decide +kernel
theorem dX11_spread_31 : decode cX11_spread 31 = .ok (.iinc 5 (-1), 3) := by decide +kernel
theorem dX11_spread_34 : decode cX11_spread 34 = .ok (.goto (-26), 3) := by decide +kernel
theorem dX11_spread_37 : decode cX11_spread 37 = .ok (.return_, 1) := by decide +kernel
theorem dX11_power_0 : decode cX11_power 0 = .ok (.iconst 1, 1) := by decide +kernel
theorem dX11_power_1 : decode cX11_power 1 = .ok (.istore_n 2, 1) := by decide +kernel
theorem dX11_power_2 : decode cX11_power 2 = .ok (.iconst 0, 1) := by decide +kernel
theorem dX11_power_3 : decode cX11_power 3 = .ok (.istore_n 3, 1) := by decide +kernel
theorem dX11_power_4 : decode cX11_power 4 = .ok (.iload_n 3, 1) := by decide +kernel
theorem dX11_power_5 : decode cX11_power 5 = .ok (.iload_n 1, 1) := by decide +kernel
theorem dX11_power_6 : decode cX11_power 6 = .ok (.if_icmp .ge 13, 3) := by decide +kernel
theorem dX11_power_9 : decode cX11_power 9 = .ok (.iload_n 2, 1) := by decide +kernel
theorem dX11_power_10 : decode cX11_power 10 = .ok (.iload_n 0, 1) := by decide +kernel
theorem dX11_power_11 : decode cX11_power 11 = .ok (.imul, 1) := by decide +kernel
theorem dX11_power_12 : decode cX11_power 12 = .ok (.istore_n 2, 1) := by decide +kernel
theorem dX11_power_13 : decode cX11_power 13 = .ok (.iinc 3 1, 3) := by decide +kernel
theorem dX11_power_16 : decode cX11_power 16 = .ok (.goto (-12), 3) := by decide +kernel
theorem dX11_power_19 : decode cX11_power 19 = .ok (.iload_n 2, 1) := by decide +kernel
theorem dX11_power_20 : decode cX11_power 20 = .ok (.ireturn, 1) := by decide +kernel
theorem dJ7_fill_53178_0 : decode cJ7_fill_53178 0 = .ok (.iconst 0, 1) := by decide +kernel
theorem dJ7_fill_53178_1 : decode cJ7_fill_53178 1 = .ok (.istore_n 2, 1) := by decide +kernel
theorem dJ7_fill_53178_2 : decode cJ7_fill_53178 2 = .ok (.aload_n 0, 1) := by decide +kernel
theorem dJ7_fill_53178_3 : decode cJ7_fill_53178 3 = .ok (.arraylength, 1) := by decide +kernel
theorem dJ7_fill_53178_4 : decode cJ7_fill_53178 4 = .ok (.istore_n 3, 1) := by decide +kernel
theorem dJ7_fill_53178_5 : decode cJ7_fill_53178 5 = .ok (.iload_n 2, 1) := by decide +kernel
theorem dJ7_fill_53178_6 : decode cJ7_fill_53178 6 = .ok (.iload_n 3, 1) := by decide +kernel
theorem dJ7_fill_53178_7 : decode cJ7_fill_53178 7 = .ok (.if_icmp .ge 13, 3) := by decide +kernel
theorem dJ7_fill_53178_10 : decode cJ7_fill_53178 10 = .ok (.aload_n 0, 1) := by decide +kernel
theorem dJ7_fill_53178_11 : decode cJ7_fill_53178 11 = .ok (.iload_n 2, 1) := by decide +kernel
theorem dJ7_fill_53178_12 : decode cJ7_fill_53178 12 = .ok (.iload_n 1, 1) := by decide +kernel
theorem dJ7_fill_53178_13 : decode cJ7_fill_53178 13 = .ok (.iastore, 1) := by decide +kernel
theorem dJ7_fill_53178_14 : decode cJ7_fill_53178 14 = .ok (.iinc 2 1, 3) := by decide +kernel
theorem dJ7_fill_53178_17 : decode cJ7_fill_53178 17 = .ok (.goto (-12), 3) := by decide +kernel
theorem dJ7_fill_53178_20 : decode cJ7_fill_53178 20 = .ok (.return_, 1) := by decide +kernel
set_option maxRecDepth 20000 in
theorem ggX12_init_X12_clearBank : GoodIn wsX12_init wsX12_clearBank := goodIn_r _ [66, 9, 67, 10, 11, 12, 26, 68, 16, 80, 81, 82, 83, 84, 85, 86, 87, 88, 89, 90, 91, 92, 93, 94, 95, 96, 97, 98, 99, 100, 101, 102, 103, 104, 105, 106, 107, 108, 109, 110, 111, 112, 113, 114, 115, 116, 117, 118, 119, 120, 121, 122, 123, 124, 125, 126, 127, 128, 129, 130, 131, 132, 133, 134, 135, 136, 137, 138, 139, 140, 141, 142, 143, 144, 145, 146, 147, 148, 149, 150, 151, 152, 153] (by decide +kernel) (by decide +kernel)
set_option maxRecDepth 20000 in
theorem gX12_init_X12_clearBank : GoodIn wsX12_init (wsV RX12 176 RX12 yX12_clearBank wsX12_clearBank) := goodIn_app (goodIn_of _ (by decide +kernel)) ggX12_init_X12_clearBank
set_option maxRecDepth 20000 in
theorem ggX12_init_X12_begin : GoodIn wsX12_init wsX12_begin := goodIn_r _ [72, 36, 11, 73, 21, 22, 25, 13, 74, 75, 76, 77, 78, 65, 79, 9, 80, 81, 82, 83, 84, 85, 86, 87, 88, 89, 90, 91, 92, 93, 94, 95, 96, 97, 98, 99, 100, 101, 102, 103, 104, 105, 106, 107, 108, 109, 110, 111, 112, 113, 114, 115, 116, 117, 118, 119, 120, 121, 122, 123, 124, 125, 126, 127, 128, 129, 130, 131, 132, 133, 134, 135, 136, 137, 138, 139, 140, 141, 142, 143, 144, 145, 146, 147, 148, 149, 150, 151, 152, 153] (by decide +kernel) (by decide +kernel)
set_option maxRecDepth 20000 in
theorem gX12_init_X12_begin : GoodIn wsX12_init (wsV RX12 179 RX12 yX12_begin wsX12_begin) := goodIn_app (goodIn_of _ (by decide +kernel)) ggX12_init_X12_begin
theorem dX12_init_0 : decode cX12_init 0 = .ok (.aload_n 0, 1) := by decide +kernel
theorem dX12_init_1 : decode cX12_init 1 = .ok (.invokespecial 1, 3) := by decide +kernel
theorem dX12_init_4 : decode cX12_init 4 = .ok (.aload_n 0, 1) := by decide +kernel
theorem dX12_init_5 : decode cX12_init 5 = .ok (.sipush 1620, 3) := by decide +kernel
theorem dX12_init_8 : decode cX12_init 8 = .ok (.newarray .byte, 2) := by decide +kernel
theorem dX12_init_10 : decode cX12_init 10 = .ok (.putfield 7, 3) := by decide +kernel
theorem dX12_init_13 : decode cX12_init 13 = .ok (.aload_n 0, 1) := by decide +kernel
theorem dX12_init_14 : decode cX12_init 14 = .ok (.sipush 1600, 3) := by decide +kernel
theorem dX12_init_17 : decode cX12_init 17 = .ok (.newarray .byte, 2) := by decide +kernel
theorem dX12_init_19 : decode cX12_init 19 = .ok (.putfield 13, 3) := by decide +kernel
theorem dX12_init_22 : decode cX12_init 22 = .ok (.aload_n 0, 1) := by decide +kernel
theorem dX12_init_23 : decode cX12_init 23 = .ok (.iconst (-1), 1) := by decide +kernel
theorem dX12_init_24 : decode cX12_init 24 = .ok (.putfield 16, 3) := by decide +kernel
theorem dX12_init_27 : decode cX12_init 27 = .ok (.aload_n 0, 1) := by decide +kernel
theorem dX12_init_28 : decode cX12_init 28 = .ok (.iconst 2, 1) := by decide +kernel
theorem dX12_init_29 : decode cX12_init 29 = .ok (.newarray .int, 2) := by decide +kernel
theorem dX12_init_31 : decode cX12_init 31 = .ok (.putfield 20, 3) := by decide +kernel
theorem dX12_init_34 : decode cX12_init 34 = .ok (.aload_n 0, 1) := by decide +kernel
theorem dX12_init_35 : decode cX12_init 35 = .ok (.iconst 2, 1) := by decide +kernel
theorem dX12_init_36 : decode cX12_init 36 = .ok (.newarray .int, 2) := by decide +kernel
theorem dX12_init_38 : decode cX12_init 38 = .ok (.putfield 24, 3) := by decide +kernel
theorem dX12_init_41 : decode cX12_init 41 = .ok (.aload_n 0, 1) := by decide +kernel
theorem dX12_init_42 : decode cX12_init 42 = .ok (.iconst 2, 1) := by decide +kernel
theorem dX12_init_43 : decode cX12_init 43 = .ok (.newarray .int, 2) := by decide +kernel
theorem dX12_init_45 : decode cX12_init 45 = .ok (.putfield 27, 3) := by decide +kernel
theorem dX12_init_48 : decode cX12_init 48 = .ok (.aload_n 0, 1) := by decide +kernel
theorem dX12_init_49 : decode cX12_init 49 = .ok (.iconst 2, 1) := by decide +kernel
theorem dX12_init_50 : decode cX12_init 50 = .ok (.newarray .int, 2) := by decide +kernel
theorem dX12_init_52 : decode cX12_init 52 = .ok (.putfield 30, 3) := by decide +kernel
theorem dX12_init_55 : decode cX12_init 55 = .ok (.aload_n 0, 1) := by decide +kernel
theorem dX12_init_56 : decode cX12_init 56 = .ok (.bipush 10, 2) := by decide +kernel
theorem dX12_init_58 : decode cX12_init 58 = .ok (.newarray .int, 2) := by decide +kernel
theorem dX12_init_60 : decode cX12_init 60 = .ok (.putfield 33, 3) := by decide +kernel
theorem dX12_init_63 : decode cX12_init 63 = .ok (.aload_n 0, 1) := by decide +kernel
theorem dX12_init_64 : decode cX12_init 64 = .ok (.bipush 10, 2) := by decide +kernel
theorem dX12_init_66 : decode cX12_init 66 = .ok (.newarray .int, 2) := by decide +kernel
theorem dX12_init_68 : decode cX12_init 68 = .ok (.putfield 36, 3) := by decide +kernel
theorem dX12_init_71 : decode cX12_init 71 = .ok (.aload_n 0, 1) := by decide +kernel
theorem dX12_init_72 : decode cX12_init 72 = .ok (.bipush 10, 2) := by decide +kernel
theorem dX12_init_74 : decode cX12_init 74 = .ok (.newarray .int, 2) := by decide +kernel
theorem dX12_init_76 : decode cX12_init 76 = .ok (.putfield 39, 3) := by decide +kernel
theorem dX12_init_79 : decode cX12_init 79 = .ok (.aload_n 0, 1) := by decide +kernel
theorem dX12_init_80 : decode cX12_init 80 = .ok (.bipush 10, 2) := by decide +kernel
theorem dX12_init_82 : decode cX12_init 82 = .ok (.newarray .int, 2) := by decide +kernel
theorem dX12_init_84 : decode cX12_init 84 = .ok (.putfield 42, 3) := by decide +kernel
theorem dX12_init_87 : decode cX12_init 87 = .ok (.aload_n 0, 1) := by decide +kernel
theorem dX12_init_88 : decode cX12_init 88 = .ok (.bipush 8, 2) := by decide +kernel
theorem dX12_init_90 : decode cX12_init 90 = .ok (.newarray .int, 2) := by decide +kernel
theorem dX12_init_92 : decode cX12_init 92 = .ok (.putfield 45, 3) := by decide +kernel
theorem dX12_init_95 : decode cX12_init 95 = .ok (.aload_n 0, 1) := by decide +kernel
theorem dX12_init_96 : decode cX12_init 96 = .ok (.bipush 8, 2) := by decide +kernel
theorem dX12_init_98 : decode cX12_init 98 = .ok (.newarray .int, 2) := by decide +kernel
theorem dX12_init_100 : decode cX12_init 100 = .ok (.putfield 48, 3) := by decide +kernel
theorem dX12_init_103 : decode cX12_init 103 = .ok (.aload_n 0, 1) := by decide +kernel
theorem dX12_init_104 : decode cX12_init 104 = .ok (.bipush 8, 2) := by decide +kernel
theorem dX12_init_106 : decode cX12_init 106 = .ok (.newarray .int, 2) := by decide +kernel
theorem dX12_init_108 : decode cX12_init 108 = .ok (.putfield 51, 3) := by decide +kernel
theorem dX12_init_111 : decode cX12_init 111 = .ok (.aload_n 0, 1) := by decide +kernel
theorem dX12_init_112 : decode cX12_init 112 = .ok (.bipush 40, 2) := by decide +kernel
theorem dX12_init_114 : decode cX12_init 114 = .ok (.newarray .int, 2) := by decide +kernel
theorem dX12_init_116 : decode cX12_init 116 = .ok (.putfield 54, 3) := by decide +kernel
theorem dX12_init_119 : decode cX12_init 119 = .ok (.aload_n 0, 1) := by decide +kernel
theorem dX12_init_120 : decode cX12_init 120 = .ok (.bipush 24, 2) := by decide +kernel
theorem dX12_init_122 : decode cX12_init 122 = .ok (.newarray .int, 2) := by decide +kernel
theorem dX12_init_124 : decode cX12_init 124 = .ok (.putfield 57, 3) := by decide +kernel
theorem dX12_init_127 : decode cX12_init 127 = .ok (.aload_n 0, 1) := by decide +kernel
theorem dX12_init_128 : decode cX12_init 128 = .ok (.bipush 24, 2) := by decide +kernel
theorem dX12_init_130 : decode cX12_init 130 = .ok (.newarray .int, 2) := by decide +kernel
theorem dX12_init_132 : decode cX12_init 132 = .ok (.putfield 60, 3) := by decide +kernel
theorem dX12_init_135 : decode cX12_init 135 = .ok (.aload_n 0, 1) := by decide +kernel
theorem dX12_init_136 : decode cX12_init 136 = .ok (.iconst 2, 1) := by decide +kernel
theorem dX12_init_137 : decode cX12_init 137 = .ok (.newarray .int, 2) := by decide +kernel
theorem dX12_init_139 : decode cX12_init 139 = .ok (.putfield 63, 3) := by decide +kernel
theorem dX12_init_142 : decode cX12_init 142 = .ok (.aload_n 0, 1) := by decide +kernel
theorem dX12_init_143 : decode cX12_init 143 = .ok (.bipush 24, 2) := by decide +kernel
theorem dX12_init_145 : decode cX12_init 145 = .ok (.newarray .boolean, 2) := by decide +kernel
theorem dX12_init_147 : decode cX12_init 147 = .ok (.putfield 66, 3) := by decide +kernel
theorem dX12_init_150 : decode cX12_init 150 = .ok (.aload_n 0, 1) := by decide +kernel
theorem dX12_init_151 : decode cX12_init 151 = .ok (.iconst 2, 1) := by decide +kernel
theorem dX12_init_152 : decode cX12_init 152 = .ok (.newarray .boolean, 2) := by decide +kernel
theorem dX12_init_154 : decode cX12_init 154 = .ok (.putfield 70, 3) := by decide +kernel
theorem dX12_init_157 : decode cX12_init 157 = .ok (.aload_n 0, 1) := by decide +kernel
theorem dX12_init_158 : decode cX12_init 158 = .ok (.bipush 10, 2) := by decide +kernel
theorem dX12_init_160 : decode cX12_init 160 = .ok (.newarray .long, 2) := by decide +kernel
theorem dX12_init_162 : decode cX12_init 162 = .ok (.putfield 73, 3) := by decide +kernel
theorem dX12_init_165 : decode cX12_init 165 = .ok (.aload_n 0, 1) := by decide +kernel
theorem dX12_init_166 : decode cX12_init 166 = .ok (.bipush 8, 2) := by decide +kernel
theorem dX12_init_168 : decode cX12_init 168 = .ok (.newarray .long, 2) := by decide +kernel
theorem dX12_init_170 : decode cX12_init 170 = .ok (.putfield 77, 3) := by decide +kernel
theorem dX12_init_173 : decode cX12_init 173 = .ok (.aload_n 0, 1) := by decide +kernel
theorem dX12_init_174 : decode cX12_init 174 = .ok (.bipush 24, 2) := by decide +kernel
theorem dX12_init_176 : decode cX12_init 176 = .ok (.newarray .long, 2) := by decide +kernel
theorem dX12_init_178 : decode cX12_init 178 = .ok (.putfield 80, 3) := by decide +kernel
theorem dX12_init_181 : decode cX12_init 181 = .ok (.aload_n 0, 1) := by decide +kernel
theorem dX12_init_182 : decode cX12_init 182 = .ok (.sipush 980, 3) := by decide +kernel
theorem dX12_init_185 : decode cX12_init 185 = .ok (.newarray .int, 2) := by decide +kernel
theorem dX12_init_187 : decode cX12_init 187 = .ok (.putfield 83, 3) := by decide +kernel
theorem dX12_init_190 : decode cX12_init 190 = .ok (.aload_n 0, 1) := by decide +kernel
theorem dX12_init_191 : decode cX12_init 191 = .ok (.sipush 980, 3) := by decide +kernel
theorem dX12_init_194 : decode cX12_init 194 = .ok (.newarray .int, 2) := by decide +kernel
theorem dX12_init_196 : decode cX12_init 196 = .ok (.putfield 86, 3) := by decide +kernel
theorem dX12_init_199 : decode cX12_init 199 = .ok (.aload_n 0, 1) := by decide +kernel
theorem dX12_init_200 : decode cX12_init 200 = .ok (.bipush 90, 2) := by decide +kernel
theorem dX12_init_202 : decode cX12_init 202 = .ok (.newarray .int, 2) := by decide +kernel
theorem dX12_init_204 : decode cX12_init 204 = .ok (.putfield 89, 3) := by decide +kernel
theorem dX12_init_207 : decode cX12_init 207 = .ok (.aload_n 0, 1) := by decide +kernel
theorem dX12_init_208 : decode cX12_init 208 = .ok (.bipush 90, 2) := by decide +kernel
theorem dX12_init_210 : decode cX12_init 210 = .ok (.newarray .int, 2) := by decide +kernel
theorem dX12_init_212 : decode cX12_init 212 = .ok (.putfield 92, 3) := by decide +kernel
theorem dX12_init_215 : decode cX12_init 215 = .ok (.aload_n 0, 1) := by decide +kernel
theorem dX12_init_216 : decode cX12_init 216 = .ok (.bipush 60, 2) := by decide +kernel
theorem dX12_init_218 : decode cX12_init 218 = .ok (.newarray .int, 2) := by decide +kernel
theorem dX12_init_220 : decode cX12_init 220 = .ok (.putfield 95, 3) := by decide +kernel
theorem dX12_init_223 : decode cX12_init 223 = .ok (.aload_n 0, 1) := by decide +kernel
theorem dX12_init_224 : decode cX12_init 224 = .ok (.bipush 80, 2) := by decide +kernel
theorem dX12_init_226 : decode cX12_init 226 = .ok (.newarray .int, 2) := by decide +kernel
theorem dX12_init_228 : decode cX12_init 228 = .ok (.putfield 98, 3) := by decide +kernel
theorem dX12_init_231 : decode cX12_init 231 = .ok (.aload_n 0, 1) := by decide +kernel
theorem dX12_init_232 : decode cX12_init 232 = .ok (.bipush 30, 2) := by decide +kernel
theorem dX12_init_234 : decode cX12_init 234 = .ok (.newarray .int, 2) := by decide +kernel
theorem dX12_init_236 : decode cX12_init 236 = .ok (.putfield 101, 3) := by decide +kernel
theorem dX12_init_239 : decode cX12_init 239 = .ok (.aload_n 0, 1) := by decide +kernel
theorem dX12_init_240 : decode cX12_init 240 = .ok (.bipush 30, 2) := by decide +kernel
theorem dX12_init_242 : decode cX12_init 242 = .ok (.newarray .int, 2) := by decide +kernel
theorem dX12_init_244 : decode cX12_init 244 = .ok (.putfield 104, 3) := by decide +kernel
theorem dX12_init_247 : decode cX12_init 247 = .ok (.aload_n 0, 1) := by decide +kernel
theorem dX12_init_248 : decode cX12_init 248 = .ok (.iconst 5, 1) := by decide +kernel
theorem dX12_init_249 : decode cX12_init 249 = .ok (.newarray .int, 2) := by decide +kernel
theorem dX12_init_251 : decode cX12_init 251 = .ok (.putfield 107, 3) := by decide +kernel
theorem dX12_init_254 : decode cX12_init 254 = .ok (.aload_n 0, 1) := by decide +kernel
theorem dX12_init_255 : decode cX12_init 255 = .ok (.iconst 4, 1) := by decide +kernel
theorem dX12_init_256 : decode cX12_init 256 = .ok (.newarray .int, 2) := by decide +kernel
theorem dX12_init_258 : decode cX12_init 258 = .ok (.putfield 110, 3) := by decide +kernel
theorem dX12_init_261 : decode cX12_init 261 = .ok (.aload_n 0, 1) := by decide +kernel
theorem dX12_init_262 : decode cX12_init 262 = .ok (.bipush 20, 2) := by decide +kernel
theorem dX12_init_264 : decode cX12_init 264 = .ok (.newarray .int, 2) := by decide +kernel
theorem dX12_init_266 : decode cX12_init 266 = .ok (.putfield 113, 3) := by decide +kernel
theorem dX12_init_269 : decode cX12_init 269 = .ok (.aload_n 0, 1) := by decide +kernel
theorem dX12_init_270 : decode cX12_init 270 = .ok (.bipush 30, 2) := by decide +kernel
theorem dX12_init_272 : decode cX12_init 272 = .ok (.newarray .int, 2) := by decide +kernel
theorem dX12_init_274 : decode cX12_init 274 = .ok (.putfield 116, 3) := by decide +kernel
theorem dX12_init_277 : decode cX12_init 277 = .ok (.aload_n 0, 1) := by decide +kernel
theorem dX12_init_278 : decode cX12_init 278 = .ok (.bipush 120, 2) := by decide +kernel
theorem dX12_init_280 : decode cX12_init 280 = .ok (.newarray .int, 2) := by decide +kernel
theorem dX12_init_282 : decode cX12_init 282 = .ok (.putfield 119, 3) := by decide +kernel
theorem dX12_init_285 : decode cX12_init 285 = .ok (.aload_n 0, 1) := by decide +kernel
theorem dX12_init_286 : decode cX12_init 286 = .ok (.bipush 120, 2) := by decide +kernel
theorem dX12_init_288 : decode cX12_init 288 = .ok (.newarray .int, 2) := by decide +kernel
theorem dX12_init_290 : decode cX12_init 290 = .ok (.putfield 122, 3) := by decide +kernel
theorem dX12_init_293 : decode cX12_init 293 = .ok (.aload_n 0, 1) := by decide +kernel
theorem dX12_init_294 : decode cX12_init 294 = .ok (.iconst 5, 1) := by decide +kernel
theorem dX12_init_295 : decode cX12_init 295 = .ok (.newarray .int, 2) := by decide +kernel
theorem dX12_init_297 : decode cX12_init 297 = .ok (.putfield 125, 3) := by decide +kernel
theorem dX12_init_300 : decode cX12_init 300 = .ok (.aload_n 0, 1) := by decide +kernel
theorem dX12_init_301 : decode cX12_init 301 = .ok (.iconst 5, 1) := by decide +kernel
theorem dX12_init_302 : decode cX12_init 302 = .ok (.newarray .int, 2) := by decide +kernel
theorem dX12_init_304 : decode cX12_init 304 = .ok (.putfield 128, 3) := by decide +kernel
theorem dX12_init_307 : decode cX12_init 307 = .ok (.aload_n 0, 1) := by decide +kernel
theorem dX12_init_308 : decode cX12_init 308 = .ok (.iconst 5, 1) := by decide +kernel
theorem dX12_init_309 : decode cX12_init 309 = .ok (.newarray .int, 2) := by decide +kernel
theorem dX12_init_311 : decode cX12_init 311 = .ok (.putfield 131, 3) := by decide +kernel
theorem dX12_init_314 : decode cX12_init 314 = .ok (.aload_n 0, 1) := by decide +kernel
theorem dX12_init_315 : decode cX12_init 315 = .ok (.iconst 5, 1) := by decide +kernel
theorem dX12_init_316 : decode cX12_init 316 = .ok (.newarray .int, 2) := by decide +kernel
theorem dX12_init_318 : decode cX12_init 318 = .ok (.putfield 134, 3) := by decide +kernel
theorem dX12_init_321 : decode cX12_init 321 = .ok (.aload_n 0, 1) := by decide +kernel
theorem dX12_init_322 : decode cX12_init 322 = .ok (.bipush 30, 2) := by decide +kernel
theorem dX12_init_324 : decode cX12_init 324 = .ok (.newarray .boolean, 2) := by decide +kernel
theorem dX12_init_326 : decode cX12_init 326 = .ok (.putfield 137, 3) := by decide +kernel
theorem dX12_init_329 : decode cX12_init 329 = .ok (.aload_n 0, 1) := by decide +kernel
theorem dX12_init_330 : decode cX12_init 330 = .ok (.iconst 5, 1) := by decide +kernel
theorem dX12_init_331 : decode cX12_init 331 = .ok (.newarray .boolean, 2) := by decide +kernel
theorem dX12_init_333 : decode cX12_init 333 = .ok (.putfield 140, 3) := by decide +kernel
theorem dX12_init_336 : decode cX12_init 336 = .ok (.aload_n 0, 1) := by decide +kernel
theorem dX12_init_337 : decode cX12_init 337 = .ok (.sipush 3280, 3) := by decide +kernel
theorem dX12_init_340 : decode cX12_init 340 = .ok (.newarray .int, 2) := by decide +kernel
theorem dX12_init_342 : decode cX12_init 342 = .ok (.putfield 143, 3) := by decide +kernel
theorem dX12_init_345 : decode cX12_init 345 = .ok (.aload_n 0, 1) := by decide +kernel
theorem dX12_init_346 : decode cX12_init 346 = .ok (.bipush 24, 2) := by decide +kernel
theorem dX12_init_348 : decode cX12_init 348 = .ok (.newarray .int, 2) := by decide +kernel
theorem dX12_init_350 : decode cX12_init 350 = .ok (.putfield 146, 3) := by decide +kernel
theorem dX12_init_353 : decode cX12_init 353 = .ok (.aload_n 0, 1) := by decide +kernel
theorem dX12_init_354 : decode cX12_init 354 = .ok (.bipush 24, 2) := by decide +kernel
theorem dX12_init_356 : decode cX12_init 356 = .ok (.newarray .int, 2) := by decide +kernel
theorem dX12_init_358 : decode cX12_init 358 = .ok (.putfield 149, 3) := by decide +kernel
theorem dX12_init_361 : decode cX12_init 361 = .ok (.aload_n 0, 1) := by decide +kernel
theorem dX12_init_362 : decode cX12_init 362 = .ok (.iconst 5, 1) := by decide +kernel
theorem dX12_init_363 : decode cX12_init 363 = .ok (.newarray .int, 2) := by decide +kernel
theorem dX12_init_365 : decode cX12_init 365 = .ok (.putfield 152, 3) := by decide +kernel
theorem dX12_init_368 : decode cX12_init 368 = .ok (.aload_n 0, 1) := by decide +kernel
theorem dX12_init_369 : decode cX12_init 369 = .ok (.bipush 30, 2) := by decide +kernel
theorem dX12_init_371 : decode cX12_init 371 = .ok (.newarray .int, 2) := by decide +kernel
theorem dX12_init_373 : decode cX12_init 373 = .ok (.putfield 155, 3) := by decide +kernel
theorem dX12_init_376 : decode cX12_init 376 = .ok (.aload_n 0, 1) := by decide +kernel
theorem dX12_init_377 : decode cX12_init 377 = .ok (.bipush 30, 2) := by decide +kernel
theorem dX12_init_379 : decode cX12_init 379 = .ok (.newarray .int, 2) := by decide +kernel
theorem dX12_init_381 : decode cX12_init 381 = .ok (.putfield 158, 3) := by decide +kernel
theorem dX12_init_384 : decode cX12_init 384 = .ok (.aload_n 0, 1) := by decide +kernel
theorem dX12_init_385 : decode cX12_init 385 = .ok (.bipush 30, 2) := by decide +kernel
theorem dX12_init_387 : decode cX12_init 387 = .ok (.newarray .int, 2) := by decide +kernel
theorem dX12_init_389 : decode cX12_init 389 = .ok (.putfield 161, 3) := by decide +kernel
theorem dX12_init_392 : decode cX12_init 392 = .ok (.aload_n 0, 1) := by decide +kernel
theorem dX12_init_393 : decode cX12_init 393 = .ok (.bipush 30, 2) := by decide +kernel
theorem dX12_init_395 : decode cX12_init 395 = .ok (.newarray .int, 2) := by decide +kernel
theorem dX12_init_397 : decode cX12_init 397 = .ok (.putfield 164, 3) := by decide +kernel
theorem dX12_init_400 : decode cX12_init 400 = .ok (.aload_n 0, 1) := by decide +kernel
theorem dX12_init_401 : decode cX12_init 401 = .ok (.bipush 30, 2) := by decide +kernel
theorem dX12_init_403 : decode cX12_init 403 = .ok (.newarray .int, 2) := by decide +kernel
theorem dX12_init_405 : decode cX12_init 405 = .ok (.putfield 167, 3) := by decide +kernel
theorem dX12_init_408 : decode cX12_init 408 = .ok (.aload_n 0, 1) := by decide +kernel
theorem dX12_init_409 : decode cX12_init 409 = .ok (.sipush 240, 3) := by decide +kernel
theorem dX12_init_412 : decode cX12_init 412 = .ok (.newarray .int, 2) := by decide +kernel
theorem dX12_init_414 : decode cX12_init 414 = .ok (.putfield 170, 3) := by decide +kernel
theorem dX12_init_417 : decode cX12_init 417 = .ok (.aload_n 0, 1) := by decide +kernel
theorem dX12_init_418 : decode cX12_init 418 = .ok (.iconst 3, 1) := by decide +kernel
theorem dX12_init_419 : decode cX12_init 419 = .ok (.newarray .boolean, 2) := by decide +kernel
theorem dX12_init_421 : decode cX12_init 421 = .ok (.putfield 173, 3) := by decide +kernel
theorem dX12_init_424 : decode cX12_init 424 = .ok (.aload_n 0, 1) := by decide +kernel
theorem dX12_init_425 : decode cX12_init 425 = .ok (.invokevirtual 176, 3) := by decide +kernel
theorem dX12_init_428 : decode cX12_init 428 = .ok (.aload_n 0, 1) := by decide +kernel
theorem dX12_init_429 : decode cX12_init 429 = .ok (.invokevirtual 179, 3) := by decide +kernel
theorem dX12_init_432 : decode cX12_init 432 = .ok (.iconst 0, 1) := by decide +kernel
theorem dX12_init_433 : decode cX12_init 433 = .ok (.istore_n 1, 1) := by decide +kernel
theorem dX12_init_434 : decode cX12_init 434 = .ok (.iload_n 1, 1) := by decide +kernel
theorem dX12_init_435 : decode cX12_init 435 = .ok (.iconst 3, 1) := by decide +kernel
theorem dX12_init_436 : decode cX12_init 436 = .ok (.if_icmp .ge 16, 3) := by decide +kernel
theorem dX12_init_439 : decode cX12_init 439 = .ok (.aload_n 0, 1) := by decide +kernel
theorem dX12_init_440 : decode cX12_init 440 = .ok (.getfield 173, 3) := by decide +kernel
theorem dX12_init_443 : decode cX12_init 443 = .ok (.iload_n 1, 1) := by decide +kernel
theorem dX12_init_444 : decode cX12_init 444 = .ok (.iconst 0, 1) := by decide +kernel
theorem dX12_init_445 : decode cX12_init 445 = .ok (.bastore, 1) := by decide +kernel
theorem dX12_init_446 : decode cX12_init 446 = .ok (.iinc 1 1, 3) := by decide +kernel
theorem dX12_init_449 : decode cX12_init 449 = .ok (.goto (-15), 3) := by decide +kernel
theorem dX12_init_452 : decode cX12_init 452 = .ok (.return_, 1) := by decide +kernel
