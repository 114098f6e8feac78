theorem ddX12_rankHere_0 : decode cX12_rankHere 0 = .ok (.aload_n 0, 1) := by decide +kernel
theorem ddX12_rankHere_1 : decode cX12_rankHere 1 = .ok (.ldc2_w 214, 3) := by decide +kernel
theorem ddX12_rankHere_4 : decode cX12_rankHere 4 = .ok (.invokevirtual 266, 3) := by decide +kernel
theorem ddX12_rankHere_7 : decode cX12_rankHere 7 = .ok (.ifCond .eq 5, 3) := by decide +kernel
theorem ddX12_rankHere_10 : decode cX12_rankHere 10 = .ok (.iconst 2, 1) := by decide +kernel
theorem ddX12_rankHere_11 : decode cX12_rankHere 11 = .ok (.ireturn, 1) := by decide +kernel
theorem ddX12_rankHere_12 : decode cX12_rankHere 12 = .ok (.aload_n 0, 1) := by decide +kernel
theorem ddX12_rankHere_13 : decode cX12_rankHere 13 = .ok (.ldc2_w 212, 3) := by decide +kernel
theorem ddX12_rankHere_16 : decode cX12_rankHere 16 = .ok (.invokevirtual 266, 3) := by decide +kernel
theorem ddX12_rankHere_19 : decode cX12_rankHere 19 = .ok (.ifCond .eq 5, 3) := by decide +kernel
theorem ddX12_rankHere_22 : decode cX12_rankHere 22 = .ok (.iconst 1, 1) := by decide +kernel
theorem ddX12_rankHere_23 : decode cX12_rankHere 23 = .ok (.ireturn, 1) := by decide +kernel
theorem ddX12_rankHere_24 : decode cX12_rankHere 24 = .ok (.aload_n 0, 1) := by decide +kernel
theorem ddX12_rankHere_25 : decode cX12_rankHere 25 = .ok (.bipush 60, 2) := by decide +kernel
theorem ddX12_rankHere_27 : decode cX12_rankHere 27 = .ok (.invokevirtual 313, 3) := by decide +kernel
theorem ddX12_rankHere_30 : decode cX12_rankHere 30 = .ok (.ifCond .ne 21, 3) := by decide +kernel
theorem ddX12_rankHere_33 : decode cX12_rankHere 33 = .ok (.aload_n 0, 1) := by decide +kernel
theorem ddX12_rankHere_34 : decode cX12_rankHere 34 = .ok (.bipush 62, 2) := by decide +kernel
theorem ddX12_rankHere_36 : decode cX12_rankHere 36 = .ok (.invokevirtual 313, 3) := by decide +kernel
theorem ddX12_rankHere_39 : decode cX12_rankHere 39 = .ok (.ifCond .ne 12, 3) := by decide +kernel
theorem ddX12_rankHere_42 : decode cX12_rankHere 42 = .ok (.aload_n 0, 1) := by decide +kernel
theorem ddX12_rankHere_43 : decode cX12_rankHere 43 = .ok (.bipush 61, 2) := by decide +kernel
theorem ddX12_rankHere_45 : decode cX12_rankHere 45 = .ok (.invokevirtual 313, 3) := by decide +kernel
theorem ddX12_rankHere_48 : decode cX12_rankHere 48 = .ok (.ifCond .eq 5, 3) := by decide +kernel
theorem ddX12_rankHere_51 : decode cX12_rankHere 51 = .ok (.iconst 4, 1) := by decide +kernel
theorem ddX12_rankHere_52 : decode cX12_rankHere 52 = .ok (.ireturn, 1) := by decide +kernel
theorem ddX12_rankHere_53 : decode cX12_rankHere 53 = .ok (.aload_n 0, 1) := by decide +kernel
theorem ddX12_rankHere_54 : decode cX12_rankHere 54 = .ok (.bipush 43, 2) := by decide +kernel
theorem ddX12_rankHere_56 : decode cX12_rankHere 56 = .ok (.invokevirtual 313, 3) := by decide +kernel
theorem ddX12_rankHere_59 : decode cX12_rankHere 59 = .ok (.ifCond .ne 12, 3) := by decide +kernel
theorem ddX12_rankHere_62 : decode cX12_rankHere 62 = .ok (.aload_n 0, 1) := by decide +kernel
theorem ddX12_rankHere_63 : decode cX12_rankHere 63 = .ok (.bipush 45, 2) := by decide +kernel
theorem ddX12_rankHere_65 : decode cX12_rankHere 65 = .ok (.invokevirtual 313, 3) := by decide +kernel
theorem ddX12_rankHere_68 : decode cX12_rankHere 68 = .ok (.ifCond .eq 5, 3) := by decide +kernel
theorem ddX12_rankHere_71 : decode cX12_rankHere 71 = .ok (.iconst 5, 1) := by decide +kernel
theorem ddX12_rankHere_72 : decode cX12_rankHere 72 = .ok (.ireturn, 1) := by decide +kernel
theorem ddX12_rankHere_73 : decode cX12_rankHere 73 = .ok (.aload_n 0, 1) := by decide +kernel
theorem ddX12_rankHere_74 : decode cX12_rankHere 74 = .ok (.bipush 42, 2) := by decide +kernel
theorem ddX12_rankHere_76 : decode cX12_rankHere 76 = .ok (.invokevirtual 313, 3) := by decide +kernel
theorem ddX12_rankHere_79 : decode cX12_rankHere 79 = .ok (.ifCond .ne 21, 3) := by decide +kernel
theorem ddX12_rankHere_82 : decode cX12_rankHere 82 = .ok (.aload_n 0, 1) := by decide +kernel
theorem ddX12_rankHere_83 : decode cX12_rankHere 83 = .ok (.bipush 47, 2) := by decide +kernel
theorem ddX12_rankHere_85 : decode cX12_rankHere 85 = .ok (.invokevirtual 313, 3) := by decide +kernel
theorem ddX12_rankHere_88 : decode cX12_rankHere 88 = .ok (.ifCond .ne 12, 3) := by decide +kernel
theorem ddX12_rankHere_91 : decode cX12_rankHere 91 = .ok (.aload_n 0, 1) := by decide +kernel
theorem ddX12_rankHere_92 : decode cX12_rankHere 92 = .ok (.bipush 37, 2) := by decide +kernel
theorem ddX12_rankHere_94 : decode cX12_rankHere 94 = .ok (.invokevirtual 313, 3) := by decide +kernel
theorem ddX12_rankHere_97 : decode cX12_rankHere 97 = .ok (.ifCond .eq 8, 3) := by decide +kernel
theorem ddX12_rankHere_100 : decode cX12_rankHere 100 = .ok (.bipush 6, 2) := by decide +kernel
theorem ddX12_rankHere_102 : decode cX12_rankHere 102 = .ok (.goto 4, 3) := by decide +kernel
theorem ddX12_rankHere_105 : decode cX12_rankHere 105 = .ok (.iconst 0, 1) := by decide +kernel
theorem ddX12_rankHere_106 : decode cX12_rankHere 106 = .ok (.ireturn, 1) := by decide +kernel
def wq_k_X12_rankHere : List Cond := Cond.code yX12_rankHere cX12_rankHere 1 (some .int) :: (([Cond.constantLong RX12 214 (6385252), Cond.methodLink RX12 266 yX12_isWord, Cond.instanceMethod yX12_isWord, Cond.selects RX12 yX12_isWord yX12_isWord, Cond.initialized RX12, Cond.code yX12_isWord cX12_isWord 3 (some .boolean), Cond.fieldLink RX12 228 "CrowTollModel" "token" "I", Cond.fieldLink RX12 235 "CrowTollModel" "name" "J", Cond.constantLong RX12 212 (28530), Cond.methodLink RX12 313 yX12_isSignHere, Cond.instanceMethod yX12_isSignHere, Cond.selects RX12 yX12_isSignHere yX12_isSignHere, Cond.code yX12_isSignHere cX12_isSignHere 2 (some .boolean), Cond.fieldLink RX12 221 "CrowTollModel" "at" "I", Cond.methodLink RX12 224 yX12_sign, Cond.instanceMethod yX12_sign, Cond.selects RX12 yX12_sign yX12_sign, Cond.code yX12_sign cX12_sign 2 (some .int), Cond.fieldLink RX12 182 "CrowTollModel" "size" "I", Cond.fieldLink RX12 13 "CrowTollModel" "text" "[B"] : List Cond) ++ wsX120)
set_option maxRecDepth 20000 in
theorem gr_k_X12_rankHere_k_X12_isWord : GoodIn wq_k_X12_rankHere wq_k_X12_isWord := List.forall_mem_cons.mpr ⟨⟨(List.mem_of_getElem? (i := 6) rfl), good_of_word rfl⟩, List.forall_mem_append.mpr ⟨List.forall_mem_cons.mpr ⟨⟨(List.mem_of_getElem? (i := 7) rfl), good_of_word rfl⟩, List.forall_mem_cons.mpr ⟨⟨(List.mem_of_getElem? (i := 8) rfl), good_of_word rfl⟩, (fun _ h => absurd h List.not_mem_nil)⟩⟩, fun w h => ⟨(fun w h => List.mem_cons_of_mem _ (List.mem_append_right _ h)) w h, good_of_word (List.all_eq_true.mp gw_X12 w h)⟩⟩⟩
set_option maxRecDepth 20000 in
theorem gq_k_X12_rankHere_k_X12_isWord_266 : GoodIn wq_k_X12_rankHere (wsV RX12 266 RX12 yX12_isWord wq_k_X12_isWord) := goodIn_app (List.forall_mem_cons.mpr ⟨⟨(List.mem_of_getElem? (i := 2) rfl), good_of_word rfl⟩, List.forall_mem_cons.mpr ⟨⟨(List.mem_of_getElem? (i := 3) rfl), good_of_word rfl⟩, List.forall_mem_cons.mpr ⟨⟨(List.mem_of_getElem? (i := 4) rfl), good_of_word rfl⟩, List.forall_mem_cons.mpr ⟨⟨(List.mem_of_getElem? (i := 5) rfl), good_of_word rfl⟩, (fun _ h => absurd h List.not_mem_nil)⟩⟩⟩⟩) gr_k_X12_rankHere_k_X12_isWord
set_option maxRecDepth 20000 in
theorem gr_k_X12_rankHere_k_X12_isSignHere : GoodIn wq_k_X12_rankHere wq_k_X12_isSignHere := List.forall_mem_cons.mpr ⟨⟨(List.mem_of_getElem? (i := 13) rfl), good_of_word rfl⟩, List.forall_mem_append.mpr ⟨List.forall_mem_cons.mpr ⟨⟨(List.mem_of_getElem? (i := 7) rfl), good_of_word rfl⟩, List.forall_mem_cons.mpr ⟨⟨(List.mem_of_getElem? (i := 14) rfl), good_of_word rfl⟩, List.forall_mem_cons.mpr ⟨⟨(List.mem_of_getElem? (i := 15) rfl), good_of_word rfl⟩, List.forall_mem_cons.mpr ⟨⟨(List.mem_of_getElem? (i := 16) rfl), good_of_word rfl⟩, List.forall_mem_cons.mpr ⟨⟨(List.mem_of_getElem? (i := 17) rfl), good_of_word rfl⟩, List.forall_mem_cons.mpr ⟨⟨(List.mem_of_getElem? (i := 5) rfl), good_of_word rfl⟩, List.forall_mem_cons.mpr ⟨⟨(List.mem_of_getElem? (i := 18) rfl), good_of_word rfl⟩, List.forall_mem_cons.mpr ⟨⟨(List.mem_of_getElem? (i := 19) rfl), good_of_word rfl⟩, List.forall_mem_cons.mpr ⟨⟨(List.mem_of_getElem? (i := 20) rfl), good_of_word rfl⟩, (fun _ h => absurd h List.not_mem_nil)⟩⟩⟩⟩⟩⟩⟩⟩⟩, fun w h => ⟨(fun w h => List.mem_cons_of_mem _ (List.mem_append_right _ h)) w h, good_of_word (List.all_eq_true.mp gw_X12 w h)⟩⟩⟩
set_option maxRecDepth 20000 in
theorem gq_k_X12_rankHere_k_X12_isSignHere_313 : GoodIn wq_k_X12_rankHere (wsV RX12 313 RX12 yX12_isSignHere wq_k_X12_isSignHere) := goodIn_app (List.forall_mem_cons.mpr ⟨⟨(List.mem_of_getElem? (i := 10) rfl), good_of_word rfl⟩, List.forall_mem_cons.mpr ⟨⟨(List.mem_of_getElem? (i := 11) rfl), good_of_word rfl⟩, List.forall_mem_cons.mpr ⟨⟨(List.mem_of_getElem? (i := 12) rfl), good_of_word rfl⟩, List.forall_mem_cons.mpr ⟨⟨(List.mem_of_getElem? (i := 5) rfl), good_of_word rfl⟩, (fun _ h => absurd h List.not_mem_nil)⟩⟩⟩⟩) gr_k_X12_rankHere_k_X12_isSignHere
set_option maxHeartbeats 8000000 in
set_option maxRecDepth 100000 in
theorem k_X12_rankHere (l : Launch) (D : va_G) (cy : Nat → ClassId) (ad : Nat → Nat) (g : Nat → va_E) {u0_0 : Value} {u0_2 : Value} {x0_3 : Int32} {u0_4 : Value} {u0_5 : Value} {x0_6 : Int32} {u0_7 : Value} {x0_8 : Int32} {u0_9 : Value} {w0x10 : Int64} {u0_11 : Value} {u0_12 : Value} {u0_13 : Value} {u0_14 : Value} {u0_15 : Value} {u0_16 : Value} {u0_17 : Value} {u0_18 : Value} {u0_19 : Value} {u0_20 : Value} {u0_21 : Value} {u0_22 : Value} {u0_23 : Value} {u0_24 : Value} {u0_25 : Value} {u0_26 : Value} {u0_27 : Value} {u0_28 : Value} {u0_29 : Value} {u0_30 : Value} {u0_31 : Value} {u0_32 : Value} {u0_33 : Value} {u0_34 : Value} {u0_35 : Value} {u0_36 : Value} {u0_37 : Value} {u0_38 : Value} {u0_39 : Value} {u0_40 : Value} {u0_41 : Value} {u0_42 : Value} {u0_43 : Value} {u0_44 : Value} {u0_45 : Value} {u0_46 : Value} {u0_47 : Value} {u0_48 : Value} {u0_49 : Value} {u0_50 : Value} {u0_51 : Value} {u0_52 : Value} {u0_53 : Value} {u0_54 : Value} {u0_55 : Value} {u0_56 : Value} {u0_57 : Value} {u0_58 : Value} {u0_59 : Value} {u0_60 : Value} {u0_61 : Value} {u0_62 : Value} {u0_63 : Value} {u0_64 : Value} {u0_65 : Value} {u0_66 : Value} {u0_67 : Value} {u0_68 : Value} {u0_69 : Value} {u0_70 : Value} {u0_71 : Value} {u0_72 : Value} {u0_73 : Value} {c1 : Nat → Int32} (o0 : g 0 = .inr (12, [u0_0, .ref (ad 1), u0_2, .int x0_3, u0_4, u0_5, .int x0_6, u0_7, .int x0_8, u0_9, .long w0x10, u0_11, u0_12, u0_13, u0_14, u0_15, u0_16, u0_17, u0_18, u0_19, u0_20, u0_21, u0_22, u0_23, u0_24, u0_25, u0_26, u0_27, u0_28, u0_29, u0_30, u0_31, u0_32, u0_33, u0_34, u0_35, u0_36, u0_37, u0_38, u0_39, u0_40, u0_41, u0_42, u0_43, u0_44, u0_45, u0_46, u0_47, u0_48, u0_49, u0_50, u0_51, u0_52, u0_53, u0_54, u0_55, u0_56, u0_57, u0_58, u0_59, u0_60, u0_61, u0_62, u0_63, u0_64, u0_65, u0_66, u0_67, u0_68, u0_69, u0_70, u0_71, u0_72, u0_73])) (a1 : g 1 = .inl (cy 3, 1600, .inl c1)) (b0_3 : zi 0 1600 x0_3) (b0_6 : zi 0 1600 x0_6) (b0_8 : zi 0 5 x0_8) : cMi l yX12_rankHere wq_k_X12_rankHere { frames := 2, cells := 0, slots := 0, locals := 42 } 2 0 0 0 D cy ad g [.ref (ad 0)] (fun r nw lu => (zi 0 6 r) ∧ (((r : Int32).toInt = 0 ∨ 3 ≤ (x0_8 : Int32).toInt) ∧ ¬ (r : Int32).toInt = 3 ∧ ((r : Int32).toInt ≤ 2 ∨ (sgn c1 (x0_3 : Int32) (x0_6 : Int32)).toInt ≤ 62)) ∧ (lu = [])) := by
  refine cM_of (Qc := fun A => cQi (fun r nw lu => (zi 0 6 r) ∧ (((r : Int32).toInt = 0 ∨ 3 ≤ (x0_8 : Int32).toInt) ∧ ¬ (r : Int32).toInt = 3 ∧ ((r : Int32).toInt ≤ 2 ∨ (sgn c1 (x0_3 : Int32) (x0_6 : Int32)).toInt ≤ 62)) ∧ (lu = [])) D 2 0 ad g A) (cc := cX12_rankHere) (maxL := 1) (ret := (some .int)) (by decide) rfl (Nat.le_of_ble_eq_true rfl) ?_
  intro p e s m below meth c A hC hr hlk hnm hO ls hl
  have hC : CallFix p m c cX12_rankHere 1 s [.ref (ad 0)].toArray wq_k_X12_rankHere RX12 := hC
  obtain ⟨hx, hb, hml, hown, hts⟩ := id hC
  have hl : lv_has ls 1 [(0, .ref (ad 0))] := hl
  have zc0 : (0 : Int32).toInt = 0 := by decide
  have zc1 : (1 : Int32).toInt = 1 := by decide
  have zc2 : (2 : Int32).toInt = 2 := by decide
  have zc3 : (3 : Int32).toInt = 3 := by decide
  have zc4 : (4 : Int32).toInt = 4 := by decide
  have zc5 : (5 : Int32).toInt = 5 := by decide
  have zc6 : (6 : Int32).toInt = 6 := by decide
  have zc7 : (7 : Int32).toInt = 7 := by decide
  have zc8 : (8 : Int32).toInt = 8 := by decide
  have zc60 : (60 : Int32).toInt = 60 := by decide
  have zc62 : (62 : Int32).toInt = 62 := by decide
  have zc61 : (61 : Int32).toInt = 61 := by decide
  have zc43 : (43 : Int32).toInt = 43 := by decide
  have zc45 : (45 : Int32).toInt = 45 := by decide
  have zc42 : (42 : Int32).toInt = 42 := by decide
  have zc47 : (47 : Int32).toInt = 47 := by decide
  have zc37 : (37 : Int32).toInt = 37 := by decide
  have i_X12 : ∀ w ∈ wsX120, w ∈ wq_k_X12_rankHere := fun w h => List.mem_cons_of_mem _ (List.mem_append_right _ h)
  refine lv_aload_n hx hb ddX12_rankHere_0 rfl (lv_at hl 0 rfl) ?_
  refine lv_ldc2 (v := 6385252) hx hb hown (hts _ (List.mem_of_getElem? (i := 1) rfl)) ddX12_rankHere_1 ?_
  refine cg_Vi (As := [.long 6385252]) (rest := []) (mc := 0) (ms := 0) (rm := { frames := 0, cells := 0, slots := 0, locals := 0 }) hC hl.1 hO [0] (by decide +kernel) (k_X12_isWord l D cy _ _ (u0_0 := u0_0) (u0_1 := .ref (ad 1)) (u0_2 := u0_2) (u0_3 := .int x0_3) (u0_4 := u0_4) (u0_5 := u0_5) (u0_6 := .int x0_6) (u0_7 := u0_7) (x0_8 := x0_8) (u0_9 := u0_9) (w0x10 := w0x10) (u0_11 := u0_11) (u0_12 := u0_12) (u0_13 := u0_13) (u0_14 := u0_14) (u0_15 := u0_15) (u0_16 := u0_16) (u0_17 := u0_17) (u0_18 := u0_18) (u0_19 := u0_19) (u0_20 := u0_20) (u0_21 := u0_21) (u0_22 := u0_22) (u0_23 := u0_23) (u0_24 := u0_24) (u0_25 := u0_25) (u0_26 := u0_26) (u0_27 := u0_27) (u0_28 := u0_28) (u0_29 := u0_29) (u0_30 := u0_30) (u0_31 := u0_31) (u0_32 := u0_32) (u0_33 := u0_33) (u0_34 := u0_34) (u0_35 := u0_35) (u0_36 := u0_36) (u0_37 := u0_37) (u0_38 := u0_38) (u0_39 := u0_39) (u0_40 := u0_40) (u0_41 := u0_41) (u0_42 := u0_42) (u0_43 := u0_43) (u0_44 := u0_44) (u0_45 := u0_45) (u0_46 := u0_46) (u0_47 := u0_47) (u0_48 := u0_48) (u0_49 := u0_49) (u0_50 := u0_50) (u0_51 := u0_51) (u0_52 := u0_52) (u0_53 := u0_53) (u0_54 := u0_54) (u0_55 := u0_55) (u0_56 := u0_56) (u0_57 := u0_57) (u0_58 := u0_58) (u0_59 := u0_59) (u0_60 := u0_60) (u0_61 := u0_61) (u0_62 := u0_62) (u0_63 := u0_63) (u0_64 := u0_64) (u0_65 := u0_65) (u0_66 := u0_66) (u0_67 := u0_67) (u0_68 := u0_68) (u0_69 := u0_69) (u0_70 := u0_70) (u0_71 := u0_71) (u0_72 := u0_72) (u0_73 := u0_73) (w := 6385252) o0 b0_8) gq_k_X12_rankHere_k_X12_isWord_266 rfl rfl rfl 1 (by decide +kernel) ⟨Nat.le_of_ble_eq_true rfl, Nat.le_of_ble_eq_true rfl⟩ rfl (by decide) o0 rfl rfl (Nat.le_of_ble_eq_true rfl) ddX12_rankHere_4 ⟨Nat.le_of_ble_eq_true rfl, Nat.le_of_ble_eq_true rfl⟩ (fun r_4_103 nw_4_101 l_4_102 H locs hw hO => ?_)
  obtain ⟨z_4_104, gp_4_105, rfl⟩ := hw
  have hO : cO D cy A s.heap s 2 ad (cup [] g) _ _ := hO
  refine lv_if_eq (tgt := 12) hx hb ddX12_rankHere_7 (by decide) (fun h_7_106 => ?_) (fun h_7_106 => ?_)
  · have qk_7_107 : r_4_103.toInt = 0 := (zr_eq h_7_106).trans (by decide)
    have q_7_108 := zr_eq h_7_106
    have z_7_109 : zi 0 0 r_4_103 := ze_eq q_7_108 z_4_104 (zi_k (a := 0) (b := 0) (x := 0) rfl)
    refine lv_aload_n hx hb ddX12_rankHere_12 rfl (lv_at hl 0 rfl) ?_
    refine lv_ldc2 (v := 28530) hx hb hown (hts _ (List.mem_of_getElem? (i := 9) rfl)) ddX12_rankHere_13 ?_
    refine cg_Vi (As := [.long 28530]) (rest := []) (mc := 0) (ms := 0) (rm := { frames := 0, cells := 0, slots := 0, locals := 0 }) hC hl.1 hO [0] (by decide +kernel) (k_X12_isWord l D cy _ _ (u0_0 := u0_0) (u0_1 := .ref (ad 1)) (u0_2 := u0_2) (u0_3 := .int x0_3) (u0_4 := u0_4) (u0_5 := u0_5) (u0_6 := .int x0_6) (u0_7 := u0_7) (x0_8 := x0_8) (u0_9 := u0_9) (w0x10 := w0x10) (u0_11 := u0_11) (u0_12 := u0_12) (u0_13 := u0_13) (u0_14 := u0_14) (u0_15 := u0_15) (u0_16 := u0_16) (u0_17 := u0_17) (u0_18 := u0_18) (u0_19 := u0_19) (u0_20 := u0_20) (u0_21 := u0_21) (u0_22 := u0_22) (u0_23 := u0_23) (u0_24 := u0_24) (u0_25 := u0_25) (u0_26 := u0_26) (u0_27 := u0_27) (u0_28 := u0_28) (u0_29 := u0_29) (u0_30 := u0_30) (u0_31 := u0_31) (u0_32 := u0_32) (u0_33 := u0_33) (u0_34 := u0_34) (u0_35 := u0_35) (u0_36 := u0_36) (u0_37 := u0_37) (u0_38 := u0_38) (u0_39 := u0_39) (u0_40 := u0_40) (u0_41 := u0_41) (u0_42 := u0_42) (u0_43 := u0_43) (u0_44 := u0_44) (u0_45 := u0_45) (u0_46 := u0_46) (u0_47 := u0_47) (u0_48 := u0_48) (u0_49 := u0_49) (u0_50 := u0_50) (u0_51 := u0_51) (u0_52 := u0_52) (u0_53 := u0_53) (u0_54 := u0_54) (u0_55 := u0_55) (u0_56 := u0_56) (u0_57 := u0_57) (u0_58 := u0_58) (u0_59 := u0_59) (u0_60 := u0_60) (u0_61 := u0_61) (u0_62 := u0_62) (u0_63 := u0_63) (u0_64 := u0_64) (u0_65 := u0_65) (u0_66 := u0_66) (u0_67 := u0_67) (u0_68 := u0_68) (u0_69 := u0_69) (u0_70 := u0_70) (u0_71 := u0_71) (u0_72 := u0_72) (u0_73 := u0_73) (w := 28530) o0 b0_8) gq_k_X12_rankHere_k_X12_isWord_266 rfl rfl rfl 1 (by decide +kernel) ⟨Nat.le_of_ble_eq_true rfl, Nat.le_of_ble_eq_true rfl⟩ rfl (by decide) o0 rfl rfl (Nat.le_of_ble_eq_true rfl) ddX12_rankHere_16 ⟨Nat.le_of_ble_eq_true rfl, Nat.le_of_ble_eq_true rfl⟩ (fun r_16_112 nw_16_110 l_16_111 H locs hw hO => ?_)
    obtain ⟨z_16_113, gp_16_114, rfl⟩ := hw
    have hO : cO D cy A s.heap s 2 ad (cup [] g) _ _ := hO
    refine lv_if_eq (tgt := 24) hx hb ddX12_rankHere_19 (by decide) (fun h_19_115 => ?_) (fun h_19_115 => ?_)
    · have qk_19_116 : r_16_112.toInt = 0 := (zr_eq h_19_115).trans (by decide)
      have q_19_117 := zr_eq h_19_115
      have z_19_118 : zi 0 0 r_16_112 := ze_eq q_19_117 z_16_113 (zi_k (a := 0) (b := 0) (x := 0) rfl)
      refine lv_aload_n hx hb ddX12_rankHere_24 rfl (lv_at hl 0 rfl) ?_
      refine lv_bipush (v := 60) hx hb ddX12_rankHere_25 (by decide) ?_
      refine cg_Vi (As := [.int 60]) (rest := []) (mc := 0) (ms := 0) (rm := { frames := 1, cells := 0, slots := 0, locals := 21 }) hC hl.1 hO [0, 1] (by decide +kernel) (k_X12_isSignHere l D cy _ _ (u0_0 := u0_0) (c1 := c1) (u0_2 := u0_2) (x0_3 := x0_3) (u0_4 := u0_4) (u0_5 := u0_5) (x0_6 := x0_6) (u0_7 := u0_7) (x0_8 := x0_8) (u0_9 := u0_9) (u0_10 := .long w0x10) (u0_11 := u0_11) (u0_12 := u0_12) (u0_13 := u0_13) (u0_14 := u0_14) (u0_15 := u0_15) (u0_16 := u0_16) (u0_17 := u0_17) (u0_18 := u0_18) (u0_19 := u0_19) (u0_20 := u0_20) (u0_21 := u0_21) (u0_22 := u0_22) (u0_23 := u0_23) (u0_24 := u0_24) (u0_25 := u0_25) (u0_26 := u0_26) (u0_27 := u0_27) (u0_28 := u0_28) (u0_29 := u0_29) (u0_30 := u0_30) (u0_31 := u0_31) (u0_32 := u0_32) (u0_33 := u0_33) (u0_34 := u0_34) (u0_35 := u0_35) (u0_36 := u0_36) (u0_37 := u0_37) (u0_38 := u0_38) (u0_39 := u0_39) (u0_40 := u0_40) (u0_41 := u0_41) (u0_42 := u0_42) (u0_43 := u0_43) (u0_44 := u0_44) (u0_45 := u0_45) (u0_46 := u0_46) (u0_47 := u0_47) (u0_48 := u0_48) (u0_49 := u0_49) (u0_50 := u0_50) (u0_51 := u0_51) (u0_52 := u0_52) (u0_53 := u0_53) (u0_54 := u0_54) (u0_55 := u0_55) (u0_56 := u0_56) (u0_57 := u0_57) (u0_58 := u0_58) (u0_59 := u0_59) (u0_60 := u0_60) (u0_61 := u0_61) (u0_62 := u0_62) (u0_63 := u0_63) (u0_64 := u0_64) (u0_65 := u0_65) (u0_66 := u0_66) (u0_67 := u0_67) (u0_68 := u0_68) (u0_69 := u0_69) (u0_70 := u0_70) (u0_71 := u0_71) (u0_72 := u0_72) (u0_73 := u0_73) (cx := 60) o0 a1 b0_3 b0_6 b0_8) gq_k_X12_rankHere_k_X12_isSignHere_313 rfl rfl rfl 1 (by decide +kernel) ⟨Nat.le_of_ble_eq_true rfl, Nat.le_of_ble_eq_true rfl⟩ rfl (by decide) o0 rfl rfl (Nat.le_of_ble_eq_true rfl) ddX12_rankHere_27 ⟨Nat.le_of_ble_eq_true rfl, Nat.le_of_ble_eq_true rfl⟩ (fun r_27_121 nw_27_119 l_27_120 H locs hw hO => ?_)
      obtain ⟨z_27_122, gp_27_123, rfl⟩ := hw
      have hO : cO D cy A s.heap s 2 ad (cup [] g) _ _ := hO
      refine lv_if_ne (tgt := 51) hx hb ddX12_rankHere_30 (by decide) (fun h_30_124 => ?_) (fun h_30_124 => ?_)
      · have qk_30_125 : ¬ (r_27_121.toInt = 0) := (fun z => (zr_ne h_30_124) (z.trans (by decide)))
        have q_30_126 := zr_ne h_30_124
        have z_30_127 : zi 1 1 r_27_121 := zn_lo q_30_126 z_27_122 (zi_k (a := 0) (b := 0) (x := 0) rfl) (by decide)
        refine lv_iconst (v := 4) hx hb ddX12_rankHere_51 (by decide) ?_
        exact cg_iret (nw := fun _ => 0) hC hr hlk hO.same rfl (Nat.le_of_ble_eq_true rfl) (Nat.le_of_ble_eq_true rfl) (⟨(zi_k (a := 0) (b := 6) (x := 4) rfl), (by omega), rfl⟩) ddX12_rankHere_52
      · have qk_30_128 : r_27_121.toInt = 0 := (zr_eq h_30_124).trans (by decide)
        have q_30_129 := zr_eq h_30_124
        have z_30_130 : zi 0 0 r_27_121 := ze_eq q_30_129 z_27_122 (zi_k (a := 0) (b := 0) (x := 0) rfl)
        refine lv_aload_n hx hb ddX12_rankHere_33 rfl (lv_at hl 0 rfl) ?_
        refine lv_bipush (v := 62) hx hb ddX12_rankHere_34 (by decide) ?_
        refine cg_Vi (As := [.int 62]) (rest := []) (mc := 0) (ms := 0) (rm := { frames := 1, cells := 0, slots := 0, locals := 21 }) hC hl.1 hO [0, 1] (by decide +kernel) (k_X12_isSignHere l D cy _ _ (u0_0 := u0_0) (c1 := c1) (u0_2 := u0_2) (x0_3 := x0_3) (u0_4 := u0_4) (u0_5 := u0_5) (x0_6 := x0_6) (u0_7 := u0_7) (x0_8 := x0_8) (u0_9 := u0_9) (u0_10 := .long w0x10) (u0_11 := u0_11) (u0_12 := u0_12) (u0_13 := u0_13) (u0_14 := u0_14) (u0_15 := u0_15) (u0_16 := u0_16) (u0_17 := u0_17) (u0_18 := u0_18) (u0_19 := u0_19) (u0_20 := u0_20) (u0_21 := u0_21) (u0_22 := u0_22) (u0_23 := u0_23) (u0_24 := u0_24) (u0_25 := u0_25) (u0_26 := u0_26) (u0_27 := u0_27) (u0_28 := u0_28) (u0_29 := u0_29) (u0_30 := u0_30) (u0_31 := u0_31) (u0_32 := u0_32) (u0_33 := u0_33) (u0_34 := u0_34) (u0_35 := u0_35) (u0_36 := u0_36) (u0_37 := u0_37) (u0_38 := u0_38) (u0_39 := u0_39) (u0_40 := u0_40) (u0_41 := u0_41) (u0_42 := u0_42) (u0_43 := u0_43) (u0_44 := u0_44) (u0_45 := u0_45) (u0_46 := u0_46) (u0_47 := u0_47) (u0_48 := u0_48) (u0_49 := u0_49) (u0_50 := u0_50) (u0_51 := u0_51) (u0_52 := u0_52) (u0_53 := u0_53) (u0_54 := u0_54) (u0_55 := u0_55) (u0_56 := u0_56) (u0_57 := u0_57) (u0_58 := u0_58) (u0_59 := u0_59) (u0_60 := u0_60) (u0_61 := u0_61) (u0_62 := u0_62) (u0_63 := u0_63) (u0_64 := u0_64) (u0_65 := u0_65) (u0_66 := u0_66) (u0_67 := u0_67) (u0_68 := u0_68) (u0_69 := u0_69) (u0_70 := u0_70) (u0_71 := u0_71) (u0_72 := u0_72) (u0_73 := u0_73) (cx := 62) o0 a1 b0_3 b0_6 b0_8) gq_k_X12_rankHere_k_X12_isSignHere_313 rfl rfl rfl 1 (by decide +kernel) ⟨Nat.le_of_ble_eq_true rfl, Nat.le_of_ble_eq_true rfl⟩ rfl (by decide) o0 rfl rfl (Nat.le_of_ble_eq_true rfl) ddX12_rankHere_36 ⟨Nat.le_of_ble_eq_true rfl, Nat.le_of_ble_eq_true rfl⟩ (fun r_36_133 nw_36_131 l_36_132 H locs hw hO => ?_)
        obtain ⟨z_36_134, gp_36_135, rfl⟩ := hw
        have hO : cO D cy A s.heap s 2 ad (cup [] g) _ _ := hO
        refine lv_if_ne (tgt := 51) hx hb ddX12_rankHere_39 (by decide) (fun h_39_136 => ?_) (fun h_39_136 => ?_)
        · have qk_39_137 : ¬ (r_36_133.toInt = 0) := (fun z => (zr_ne h_39_136) (z.trans (by decide)))
          have q_39_138 := zr_ne h_39_136
          have z_39_139 : zi 1 1 r_36_133 := zn_lo q_39_138 z_36_134 (zi_k (a := 0) (b := 0) (x := 0) rfl) (by decide)
          refine lv_iconst (v := 4) hx hb ddX12_rankHere_51 (by decide) ?_
          exact cg_iret (nw := fun _ => 0) hC hr hlk hO.same rfl (Nat.le_of_ble_eq_true rfl) (Nat.le_of_ble_eq_true rfl) (⟨(zi_k (a := 0) (b := 6) (x := 4) rfl), (by omega), rfl⟩) ddX12_rankHere_52
        · have qk_39_140 : r_36_133.toInt = 0 := (zr_eq h_39_136).trans (by decide)
          have q_39_141 := zr_eq h_39_136
          have z_39_142 : zi 0 0 r_36_133 := ze_eq q_39_141 z_36_134 (zi_k (a := 0) (b := 0) (x := 0) rfl)
          refine lv_aload_n hx hb ddX12_rankHere_42 rfl (lv_at hl 0 rfl) ?_
          refine lv_bipush (v := 61) hx hb ddX12_rankHere_43 (by decide) ?_
          refine cg_Vi (As := [.int 61]) (rest := []) (mc := 0) (ms := 0) (rm := { frames := 1, cells := 0, slots := 0, locals := 21 }) hC hl.1 hO [0, 1] (by decide +kernel) (k_X12_isSignHere l D cy _ _ (u0_0 := u0_0) (c1 := c1) (u0_2 := u0_2) (x0_3 := x0_3) (u0_4 := u0_4) (u0_5 := u0_5) (x0_6 := x0_6) (u0_7 := u0_7) (x0_8 := x0_8) (u0_9 := u0_9) (u0_10 := .long w0x10) (u0_11 := u0_11) (u0_12 := u0_12) (u0_13 := u0_13) (u0_14 := u0_14) (u0_15 := u0_15) (u0_16 := u0_16) (u0_17 := u0_17) (u0_18 := u0_18) (u0_19 := u0_19) (u0_20 := u0_20) (u0_21 := u0_21) (u0_22 := u0_22) (u0_23 := u0_23) (u0_24 := u0_24) (u0_25 := u0_25) (u0_26 := u0_26) (u0_27 := u0_27) (u0_28 := u0_28) (u0_29 := u0_29) (u0_30 := u0_30) (u0_31 := u0_31) (u0_32 := u0_32) (u0_33 := u0_33) (u0_34 := u0_34) (u0_35 := u0_35) (u0_36 := u0_36) (u0_37 := u0_37) (u0_38 := u0_38) (u0_39 := u0_39) (u0_40 := u0_40) (u0_41 := u0_41) (u0_42 := u0_42) (u0_43 := u0_43) (u0_44 := u0_44) (u0_45 := u0_45) (u0_46 := u0_46) (u0_47 := u0_47) (u0_48 := u0_48) (u0_49 := u0_49) (u0_50 := u0_50) (u0_51 := u0_51) (u0_52 := u0_52) (u0_53 := u0_53) (u0_54 := u0_54) (u0_55 := u0_55) (u0_56 := u0_56) (u0_57 := u0_57) (u0_58 := u0_58) (u0_59 := u0_59) (u0_60 := u0_60) (u0_61 := u0_61) (u0_62 := u0_62) (u0_63 := u0_63) (u0_64 := u0_64) (u0_65 := u0_65) (u0_66 := u0_66) (u0_67 := u0_67) (u0_68 := u0_68) (u0_69 := u0_69) (u0_70 := u0_70) (u0_71 := u0_71) (u0_72 := u0_72) (u0_73 := u0_73) (cx := 61) o0 a1 b0_3 b0_6 b0_8) gq_k_X12_rankHere_k_X12_isSignHere_313 rfl rfl rfl 1 (by decide +kernel) ⟨Nat.le_of_ble_eq_true rfl, Nat.le_of_ble_eq_true rfl⟩ rfl (by decide) o0 rfl rfl (Nat.le_of_ble_eq_true rfl) ddX12_rankHere_45 ⟨Nat.le_of_ble_eq_true rfl, Nat.le_of_ble_eq_true rfl⟩ (fun r_45_145 nw_45_143 l_45_144 H locs hw hO => ?_)
          obtain ⟨z_45_146, gp_45_147, rfl⟩ := hw
          have hO : cO D cy A s.heap s 2 ad (cup [] g) _ _ := hO
          refine lv_if_eq (tgt := 53) hx hb ddX12_rankHere_48 (by decide) (fun h_48_148 => ?_) (fun h_48_148 => ?_)
          · have qk_48_149 : r_45_145.toInt = 0 := (zr_eq h_48_148).trans (by decide)
            have q_48_150 := zr_eq h_48_148
            have z_48_151 : zi 0 0 r_45_145 := ze_eq q_48_150 z_45_146 (zi_k (a := 0) (b := 0) (x := 0) rfl)
            refine lv_aload_n hx hb ddX12_rankHere_53 rfl (lv_at hl 0 rfl) ?_
            refine lv_bipush (v := 43) hx hb ddX12_rankHere_54 (by decide) ?_
            refine cg_Vi (As := [.int 43]) (rest := []) (mc := 0) (ms := 0) (rm := { frames := 1, cells := 0, slots := 0, locals := 21 }) hC hl.1 hO [0, 1] (by decide +kernel) (k_X12_isSignHere l D cy _ _ (u0_0 := u0_0) (c1 := c1) (u0_2 := u0_2) (x0_3 := x0_3) (u0_4 := u0_4) (u0_5 := u0_5) (x0_6 := x0_6) (u0_7 := u0_7) (x0_8 := x0_8) (u0_9 := u0_9) (u0_10 := .long w0x10) (u0_11 := u0_11) (u0_12 := u0_12) (u0_13 := u0_13) (u0_14 := u0_14) (u0_15 := u0_15) (u0_16 := u0_16) (u0_17 := u0_17) (u0_18 := u0_18) (u0_19 := u0_19) (u0_20 := u0_20) (u0_21 := u0_21) (u0_22 := u0_22) (u0_23 := u0_23) (u0_24 := u0_24) (u0_25 := u0_25) (u0_26 := u0_26) (u0_27 := u0_27) (u0_28 := u0_28) (u0_29 := u0_29) (u0_30 := u0_30) (u0_31 := u0_31) (u0_32 := u0_32) (u0_33 := u0_33) (u0_34 := u0_34) (u0_35 := u0_35) (u0_36 := u0_36) (u0_37 := u0_37) (u0_38 := u0_38) (u0_39 := u0_39) (u0_40 := u0_40) (u0_41 := u0_41) (u0_42 := u0_42) (u0_43 := u0_43) (u0_44 := u0_44) (u0_45 := u0_45) (u0_46 := u0_46) (u0_47 := u0_47) (u0_48 := u0_48) (u0_49 := u0_49) (u0_50 := u0_50) (u0_51 := u0_51) (u0_52 := u0_52) (u0_53 := u0_53) (u0_54 := u0_54) (u0_55 := u0_55) (u0_56 := u0_56) (u0_57 := u0_57) (u0_58 := u0_58) (u0_59 := u0_59) (u0_60 := u0_60) (u0_61 := u0_61) (u0_62 := u0_62) (u0_63 := u0_63) (u0_64 := u0_64) (u0_65 := u0_65) (u0_66 := u0_66) (u0_67 := u0_67) (u0_68 := u0_68) (u0_69 := u0_69) (u0_70 := u0_70) (u0_71 := u0_71) (u0_72 := u0_72) (u0_73 := u0_73) (cx := 43) o0 a1 b0_3 b0_6 b0_8) gq_k_X12_rankHere_k_X12_isSignHere_313 rfl rfl rfl 1 (by decide +kernel) ⟨Nat.le_of_ble_eq_true rfl, Nat.le_of_ble_eq_true rfl⟩ rfl (by decide) o0 rfl rfl (Nat.le_of_ble_eq_true rfl) ddX12_rankHere_56 ⟨Nat.le_of_ble_eq_true rfl, Nat.le_of_ble_eq_true rfl⟩ (fun r_56_154 nw_56_152 l_56_153 H locs hw hO => ?_)
            obtain ⟨z_56_155, gp_56_156, rfl⟩ := hw
            have hO : cO D cy A s.heap s 2 ad (cup [] g) _ _ := hO
            refine lv_if_ne (tgt := 71) hx hb ddX12_rankHere_59 (by decide) (fun h_59_157 => ?_) (fun h_59_157 => ?_)
            · have qk_59_158 : ¬ (r_56_154.toInt = 0) := (fun z => (zr_ne h_59_157) (z.trans (by decide)))
              have q_59_159 := zr_ne h_59_157
              have z_59_160 : zi 1 1 r_56_154 := zn_lo q_59_159 z_56_155 (zi_k (a := 0) (b := 0) (x := 0) rfl) (by decide)
              refine lv_iconst (v := 5) hx hb ddX12_rankHere_71 (by decide) ?_
              exact cg_iret (nw := fun _ => 0) hC hr hlk hO.same rfl (Nat.le_of_ble_eq_true rfl) (Nat.le_of_ble_eq_true rfl) (⟨(zi_k (a := 0) (b := 6) (x := 5) rfl), (by omega), rfl⟩) ddX12_rankHere_72
            · have qk_59_161 : r_56_154.toInt = 0 := (zr_eq h_59_157).trans (by decide)
              have q_59_162 := zr_eq h_59_157
              have z_59_163 : zi 0 0 r_56_154 := ze_eq q_59_162 z_56_155 (zi_k (a := 0) (b := 0) (x := 0) rfl)
              refine lv_aload_n hx hb ddX12_rankHere_62 rfl (lv_at hl 0 rfl) ?_
              refine lv_bipush (v := 45) hx hb ddX12_rankHere_63 (by decide) ?_
              refine cg_Vi (As := [.int 45]) (rest := []) (mc := 0) (ms := 0) (rm := { frames := 1, cells := 0, slots := 0, locals := 21 }) hC hl.1 hO [0, 1] (by decide +kernel) (k_X12_isSignHere l D cy _ _ (u0_0 := u0_0) (c1 := c1) (u0_2 := u0_2) (x0_3 := x0_3) (u0_4 := u0_4) (u0_5 := u0_5) (x0_6 := x0_6) (u0_7 := u0_7) (x0_8 := x0_8) (u0_9 := u0_9) (u0_10 := .long w0x10) (u0_11 := u0_11) (u0_12 := u0_12) (u0_13 := u0_13) (u0_14 := u0_14) (u0_15 := u0_15) (u0_16 := u0_16) (u0_17 := u0_17) (u0_18 := u0_18) (u0_19 := u0_19) (u0_20 := u0_20) (u0_21 := u0_21) (u0_22 := u0_22) (u0_23 := u0_23) (u0_24 := u0_24) (u0_25 := u0_25) (u0_26 := u0_26) (u0_27 := u0_27) (u0_28 := u0_28) (u0_29 := u0_29) (u0_30 := u0_30) (u0_31 := u0_31) (u0_32 := u0_32) (u0_33 := u0_33) (u0_34 := u0_34) (u0_35 := u0_35) (u0_36 := u0_36) (u0_37 := u0_37) (u0_38 := u0_38) (u0_39 := u0_39) (u0_40 := u0_40) (u0_41 := u0_41) (u0_42 := u0_42) (u0_43 := u0_43) (u0_44 := u0_44) (u0_45 := u0_45) (u0_46 := u0_46) (u0_47 := u0_47) (u0_48 := u0_48) (u0_49 := u0_49) (u0_50 := u0_50) (u0_51 := u0_51) (u0_52 := u0_52) (u0_53 := u0_53) (u0_54 := u0_54) (u0_55 := u0_55) (u0_56 := u0_56) (u0_57 := u0_57) (u0_58 := u0_58) (u0_59 := u0_59) (u0_60 := u0_60) (u0_61 := u0_61) (u0_62 := u0_62) (u0_63 := u0_63) (u0_64 := u0_64) (u0_65 := u0_65) (u0_66 := u0_66) (u0_67 := u0_67) (u0_68 := u0_68) (u0_69 := u0_69) (u0_70 := u0_70) (u0_71 := u0_71) (u0_72 := u0_72) (u0_73 := u0_73) (cx := 45) o0 a1 b0_3 b0_6 b0_8) gq_k_X12_rankHere_k_X12_isSignHere_313 rfl rfl rfl 1 (by decide +kernel) ⟨Nat.le_of_ble_eq_true rfl, Nat.le_of_ble_eq_true rfl⟩ rfl (by decide) o0 rfl rfl (Nat.le_of_ble_eq_true rfl) ddX12_rankHere_65 ⟨Nat.le_of_ble_eq_true rfl, Nat.le_of_ble_eq_true rfl⟩ (fun r_65_166 nw_65_164 l_65_165 H locs hw hO => ?_)
              obtain ⟨z_65_167, gp_65_168, rfl⟩ := hw
              have hO : cO D cy A s.heap s 2 ad (cup [] g) _ _ := hO
              refine lv_if_eq (tgt := 73) hx hb ddX12_rankHere_68 (by decide) (fun h_68_169 => ?_) (fun h_68_169 => ?_)
              · have qk_68_170 : r_65_166.toInt = 0 := (zr_eq h_68_169).trans (by decide)
                have q_68_171 := zr_eq h_68_169
                have z_68_172 : zi 0 0 r_65_166 := ze_eq q_68_171 z_65_167 (zi_k (a := 0) (b := 0) (x := 0) rfl)
                refine lv_aload_n hx hb ddX12_rankHere_73 rfl (lv_at hl 0 rfl) ?_
                refine lv_bipush (v := 42) hx hb ddX12_rankHere_74 (by decide) ?_
                refine cg_Vi (As := [.int 42]) (rest := []) (mc := 0) (ms := 0) (rm := { frames := 1, cells := 0, slots := 0, locals := 21 }) hC hl.1 hO [0, 1] (by decide +kernel) (k_X12_isSignHere l D cy _ _ (u0_0 := u0_0) (c1 := c1) (u0_2 := u0_2) (x0_3 := x0_3) (u0_4 := u0_4) (u0_5 := u0_5) (x0_6 := x0_6) (u0_7 := u0_7) (x0_8 := x0_8) (u0_9 := u0_9) (u0_10 := .long w0x10) (u0_11 := u0_11) (u0_12 := u0_12) (u0_13 := u0_13) (u0_14 := u0_14) (u0_15 := u0_15) (u0_16 := u0_16) (u0_17 := u0_17) (u0_18 := u0_18) (u0_19 := u0_19) (u0_20 := u0_20) (u0_21 := u0_21) (u0_22 := u0_22) (u0_23 := u0_23) (u0_24 := u0_24) (u0_25 := u0_25) (u0_26 := u0_26) (u0_27 := u0_27) (u0_28 := u0_28) (u0_29 := u0_29) (u0_30 := u0_30) (u0_31 := u0_31) (u0_32 := u0_32) (u0_33 := u0_33) (u0_34 := u0_34) (u0_35 := u0_35) (u0_36 := u0_36) (u0_37 := u0_37) (u0_38 := u0_38) (u0_39 := u0_39) (u0_40 := u0_40) (u0_41 := u0_41) (u0_42 := u0_42) (u0_43 := u0_43) (u0_44 := u0_44) (u0_45 := u0_45) (u0_46 := u0_46) (u0_47 := u0_47) (u0_48 := u0_48) (u0_49 := u0_49) (u0_50 := u0_50) (u0_51 := u0_51) (u0_52 := u0_52) (u0_53 := u0_53) (u0_54 := u0_54) (u0_55 := u0_55) (u0_56 := u0_56) (u0_57 := u0_57) (u0_58 := u0_58) (u0_59 := u0_59) (u0_60 := u0_60) (u0_61 := u0_61) (u0_62 := u0_62) (u0_63 := u0_63) (u0_64 := u0_64) (u0_65 := u0_65) (u0_66 := u0_66) (u0_67 := u0_67) (u0_68 := u0_68) (u0_69 := u0_69) (u0_70 := u0_70) (u0_71 := u0_71) (u0_72 := u0_72) (u0_73 := u0_73) (cx := 42) o0 a1 b0_3 b0_6 b0_8) gq_k_X12_rankHere_k_X12_isSignHere_313 rfl rfl rfl 1 (by decide +kernel) ⟨Nat.le_of_ble_eq_true rfl, Nat.le_of_ble_eq_true rfl⟩ rfl (by decide) o0 rfl rfl (Nat.le_of_ble_eq_true rfl) ddX12_rankHere_76 ⟨Nat.le_of_ble_eq_true rfl, Nat.le_of_ble_eq_true rfl⟩ (fun r_76_175 nw_76_173 l_76_174 H locs hw hO => ?_)
                obtain ⟨z_76_176, gp_76_177, rfl⟩ := hw
                have hO : cO D cy A s.heap s 2 ad (cup [] g) _ _ := hO
                refine lv_if_ne (tgt := 100) hx hb ddX12_rankHere_79 (by decide) (fun h_79_178 => ?_) (fun h_79_178 => ?_)
                · have qk_79_179 : ¬ (r_76_175.toInt = 0) := (fun z => (zr_ne h_79_178) (z.trans (by decide)))
                  have q_79_180 := zr_ne h_79_178
                  have z_79_181 : zi 1 1 r_76_175 := zn_lo q_79_180 z_76_176 (zi_k (a := 0) (b := 0) (x := 0) rfl) (by decide)
                  refine lv_bipush (v := 6) hx hb ddX12_rankHere_100 (by decide) ?_
                  refine lv_goto (tgt := 106) hx hb ddX12_rankHere_102 (by decide) ?_
                  exact cg_iret (nw := fun _ => 0) hC hr hlk hO.same rfl (Nat.le_of_ble_eq_true rfl) (Nat.le_of_ble_eq_true rfl) (⟨(zi_k (a := 0) (b := 6) (x := 6) rfl), (by omega), rfl⟩) ddX12_rankHere_106
                · have qk_79_182 : r_76_175.toInt = 0 := (zr_eq h_79_178).trans (by decide)
                  have q_79_183 := zr_eq h_79_178
                  have z_79_184 : zi 0 0 r_76_175 := ze_eq q_79_183 z_76_176 (zi_k (a := 0) (b := 0) (x := 0) rfl)
                  refine lv_aload_n hx hb ddX12_rankHere_82 rfl (lv_at hl 0 rfl) ?_
                  refine lv_bipush (v := 47) hx hb ddX12_rankHere_83 (by decide) ?_
                  refine cg_Vi (As := [.int 47]) (rest := []) (mc := 0) (ms := 0) (rm := { frames := 1, cells := 0, slots := 0, locals := 21 }) hC hl.1 hO [0, 1] (by decide +kernel) (k_X12_isSignHere l D cy _ _ (u0_0 := u0_0) (c1 := c1) (u0_2 := u0_2) (x0_3 := x0_3) (u0_4 := u0_4) (u0_5 := u0_5) (x0_6 := x0_6) (u0_7 := u0_7) (x0_8 := x0_8) (u0_9 := u0_9) (u0_10 := .long w0x10) (u0_11 := u0_11) (u0_12 := u0_12) (u0_13 := u0_13) (u0_14 := u0_14) (u0_15 := u0_15) (u0_16 := u0_16) (u0_17 := u0_17) (u0_18 := u0_18) (u0_19 := u0_19) (u0_20 := u0_20) (u0_21 := u0_21) (u0_22 := u0_22) (u0_23 := u0_23) (u0_24 := u0_24) (u0_25 := u0_25) (u0_26 := u0_26) (u0_27 := u0_27) (u0_28 := u0_28) (u0_29 := u0_29) (u0_30 := u0_30) (u0_31 := u0_31) (u0_32 := u0_32) (u0_33 := u0_33) (u0_34 := u0_34) (u0_35 := u0_35) (u0_36 := u0_36) (u0_37 := u0_37) (u0_38 := u0_38) (u0_39 := u0_39) (u0_40 := u0_40) (u0_41 := u0_41) (u0_42 := u0_42) (u0_43 := u0_43) (u0_44 := u0_44) (u0_45 := u0_45) (u0_46 := u0_46) (u0_47 := u0_47) (u0_48 := u0_48) (u0_49 := u0_49) (u0_50 := u0_50) (u0_51 := u0_51) (u0_52 := u0_52) (u0_53 := u0_53) (u0_54 := u0_54) (u0_55 := u0_55) (u0_56 := u0_56) (u0_57 := u0_57) (u0_58 := u0_58) (u0_59 := u0_59) (u0_60 := u0_60) (u0_61 := u0_61) (u0_62 := u0_62) (u0_63 := u0_63) (u0_64 := u0_64) (u0_65 := u0_65) (u0_66 := u0_66) (u0_67 := u0_67) (u0_68 := u0_68) (u0_69 := u0_69) (u0_70 := u0_70) (u0_71 := u0_71) (u0_72 := u0_72) (u0_73 := u0_73) (cx := 47) o0 a1 b0_3 b0_6 b0_8) gq_k_X12_rankHere_k_X12_isSignHere_313 rfl rfl rfl 1 (by decide +kernel) ⟨Nat.le_of_ble_eq_true rfl, Nat.le_of_ble_eq_true rfl⟩ rfl (by decide) o0 rfl rfl (Nat.le_of_ble_eq_true rfl) ddX12_rankHere_85 ⟨Nat.le_of_ble_eq_true rfl, Nat.le_of_ble_eq_true rfl⟩ (fun r_85_187 nw_85_185 l_85_186 H locs hw hO => ?_)
                  obtain ⟨z_85_188, gp_85_189, rfl⟩ := hw
                  have hO : cO D cy A s.heap s 2 ad (cup [] g) _ _ := hO
                  refine lv_if_ne (tgt := 100) hx hb ddX12_rankHere_88 (by decide) (fun h_88_190 => ?_) (fun h_88_190 => ?_)
                  · have qk_88_191 : ¬ (r_85_187.toInt = 0) := (fun z => (zr_ne h_88_190) (z.trans (by decide)))
                    have q_88_192 := zr_ne h_88_190
                    have z_88_193 : zi 1 1 r_85_187 := zn_lo q_88_192 z_85_188 (zi_k (a := 0) (b := 0) (x := 0) rfl) (by decide)
                    refine lv_bipush (v := 6) hx hb ddX12_rankHere_100 (by decide) ?_
                    refine lv_goto (tgt := 106) hx hb ddX12_rankHere_102 (by decide) ?_
                    exact cg_iret (nw := fun _ => 0) hC hr hlk hO.same rfl (Nat.le_of_ble_eq_true rfl) (Nat.le_of_ble_eq_true rfl) (⟨(zi_k (a := 0) (b := 6) (x := 6) rfl), (by omega), rfl⟩) ddX12_rankHere_106
                  · have qk_88_194 : r_85_187.toInt = 0 := (zr_eq h_88_190).trans (by decide)
                    have q_88_195 := zr_eq h_88_190
                    have z_88_196 : zi 0 0 r_85_187 := ze_eq q_88_195 z_85_188 (zi_k (a := 0) (b := 0) (x := 0) rfl)
                    refine lv_aload_n hx hb ddX12_rankHere_91 rfl (lv_at hl 0 rfl) ?_
                    refine lv_bipush (v := 37) hx hb ddX12_rankHere_92 (by decide) ?_
                    refine cg_Vi (As := [.int 37]) (rest := []) (mc := 0) (ms := 0) (rm := { frames := 1, cells := 0, slots := 0, locals := 21 }) hC hl.1 hO [0, 1] (by decide +kernel) (k_X12_isSignHere l D cy _ _ (u0_0 := u0_0) (c1 := c1) (u0_2 := u0_2) (x0_3 := x0_3) (u0_4 := u0_4) (u0_5 := u0_5) (x0_6 := x0_6) (u0_7 := u0_7) (x0_8 := x0_8) (u0_9 := u0_9) (u0_10 := .long w0x10) (u0_11 := u0_11) (u0_12 := u0_12) (u0_13 := u0_13) (u0_14 := u0_14) (u0_15 := u0_15) (u0_16 := u0_16) (u0_17 := u0_17) (u0_18 := u0_18) (u0_19 := u0_19) (u0_20 := u0_20) (u0_21 := u0_21) (u0_22 := u0_22) (u0_23 := u0_23) (u0_24 := u0_24) (u0_25 := u0_25) (u0_26 := u0_26) (u0_27 := u0_27) (u0_28 := u0_28) (u0_29 := u0_29) (u0_30 := u0_30) (u0_31 := u0_31) (u0_32 := u0_32) (u0_33 := u0_33) (u0_34 := u0_34) (u0_35 := u0_35) (u0_36 := u0_36) (u0_37 := u0_37) (u0_38 := u0_38) (u0_39 := u0_39) (u0_40 := u0_40) (u0_41 := u0_41) (u0_42 := u0_42) (u0_43 := u0_43) (u0_44 := u0_44) (u0_45 := u0_45) (u0_46 := u0_46) (u0_47 := u0_47) (u0_48 := u0_48) (u0_49 := u0_49) (u0_50 := u0_50) (u0_51 := u0_51) (u0_52 := u0_52) (u0_53 := u0_53) (u0_54 := u0_54) (u0_55 := u0_55) (u0_56 := u0_56) (u0_57 := u0_57) (u0_58 := u0_58) (u0_59 := u0_59) (u0_60 := u0_60) (u0_61 := u0_61) (u0_62 := u0_62) (u0_63 := u0_63) (u0_64 := u0_64) (u0_65 := u0_65) (u0_66 := u0_66) (u0_67 := u0_67) (u0_68 := u0_68) (u0_69 := u0_69) (u0_70 := u0_70) (u0_71 := u0_71) (u0_72 := u0_72) (u0_73 := u0_73) (cx := 37) o0 a1 b0_3 b0_6 b0_8) gq_k_X12_rankHere_k_X12_isSignHere_313 rfl rfl rfl 1 (by decide +kernel) ⟨Nat.le_of_ble_eq_true rfl, Nat.le_of_ble_eq_true rfl⟩ rfl (by decide) o0 rfl rfl (Nat.le_of_ble_eq_true rfl) ddX12_rankHere_94 ⟨Nat.le_of_ble_eq_true rfl, Nat.le_of_ble_eq_true rfl⟩ (fun r_94_199 nw_94_197 l_94_198 H locs hw hO => ?_)
                    obtain ⟨z_94_200, gp_94_201, rfl⟩ := hw
                    have hO : cO D cy A s.heap s 2 ad (cup [] g) _ _ := hO
                    refine lv_if_eq (tgt := 105) hx hb ddX12_rankHere_97 (by decide) (fun h_97_202 => ?_) (fun h_97_202 => ?_)
                    · have qk_97_203 : r_94_199.toInt = 0 := (zr_eq h_97_202).trans (by decide)
                      have q_97_204 := zr_eq h_97_202
                      have z_97_205 : zi 0 0 r_94_199 := ze_eq q_97_204 z_94_200 (zi_k (a := 0) (b := 0) (x := 0) rfl)
                      refine lv_iconst (v := 0) hx hb ddX12_rankHere_105 (by decide) ?_
                      exact cg_iret (nw := fun _ => 0) hC hr hlk hO.same rfl (Nat.le_of_ble_eq_true rfl) (Nat.le_of_ble_eq_true rfl) (⟨(zi_k (a := 0) (b := 6) (x := 0) rfl), (by omega), rfl⟩) ddX12_rankHere_106
                    · have qk_97_206 : ¬ (r_94_199.toInt = 0) := (fun z => (zr_ne h_97_202) (z.trans (by decide)))
                      have q_97_207 := zr_ne h_97_202
                      have z_97_208 : zi 1 1 r_94_199 := zn_lo q_97_207 z_94_200 (zi_k (a := 0) (b := 0) (x := 0) rfl) (by decide)
                      refine lv_bipush (v := 6) hx hb ddX12_rankHere_100 (by decide) ?_
                      refine lv_goto (tgt := 106) hx hb ddX12_rankHere_102 (by decide) ?_
                      exact cg_iret (nw := fun _ => 0) hC hr hlk hO.same rfl (Nat.le_of_ble_eq_true rfl) (Nat.le_of_ble_eq_true rfl) (⟨(zi_k (a := 0) (b := 6) (x := 6) rfl), (by omega), rfl⟩) ddX12_rankHere_106
              · have qk_68_209 : ¬ (r_65_166.toInt = 0) := (fun z => (zr_ne h_68_169) (z.trans (by decide)))
                have q_68_210 := zr_ne h_68_169
                have z_68_211 : zi 1 1 r_65_166 := zn_lo q_68_210 z_65_167 (zi_k (a := 0) (b := 0) (x := 0) rfl) (by decide)
                refine lv_iconst (v := 5) hx hb ddX12_rankHere_71 (by decide) ?_
                exact cg_iret (nw := fun _ => 0) hC hr hlk hO.same rfl (Nat.le_of_ble_eq_true rfl) (Nat.le_of_ble_eq_true rfl) (⟨(zi_k (a := 0) (b := 6) (x := 5) rfl), (by omega), rfl⟩) ddX12_rankHere_72
          · have qk_48_212 : ¬ (r_45_145.toInt = 0) := (fun z => (zr_ne h_48_148) (z.trans (by decide)))
            have q_48_213 := zr_ne h_48_148
            have z_48_214 : zi 1 1 r_45_145 := zn_lo q_48_213 z_45_146 (zi_k (a := 0) (b := 0) (x := 0) rfl) (by decide)
            refine lv_iconst (v := 4) hx hb ddX12_rankHere_51 (by decide) ?_
            exact cg_iret (nw := fun _ => 0) hC hr hlk hO.same rfl (Nat.le_of_ble_eq_true rfl) (Nat.le_of_ble_eq_true rfl) (⟨(zi_k (a := 0) (b := 6) (x := 4) rfl), (by omega), rfl⟩) ddX12_rankHere_52
    · have qk_19_215 : ¬ (r_16_112.toInt = 0) := (fun z => (zr_ne h_19_115) (z.trans (by decide)))
      have q_19_216 := zr_ne h_19_115
      have z_19_217 : zi 1 1 r_16_112 := zn_lo q_19_216 z_16_113 (zi_k (a := 0) (b := 0) (x := 0) rfl) (by decide)
      refine lv_iconst (v := 1) hx hb ddX12_rankHere_22 (by decide) ?_
      exact cg_iret (nw := fun _ => 0) hC hr hlk hO.same rfl (Nat.le_of_ble_eq_true rfl) (Nat.le_of_ble_eq_true rfl) (⟨(zi_k (a := 0) (b := 6) (x := 1) rfl), (by omega), rfl⟩) ddX12_rankHere_23
  · have qk_7_218 : ¬ (r_4_103.toInt = 0) := (fun z => (zr_ne h_7_106) (z.trans (by decide)))
    have q_7_219 := zr_ne h_7_106
    have z_7_220 : zi 1 1 r_4_103 := zn_lo q_7_219 z_4_104 (zi_k (a := 0) (b := 0) (x := 0) rfl) (by decide)
    refine lv_iconst (v := 2) hx hb ddX12_rankHere_10 (by decide) ?_
    exact cg_iret (nw := fun _ => 0) hC hr hlk hO.same rfl (Nat.le_of_ble_eq_true rfl) (Nat.le_of_ble_eq_true rfl) (⟨(zi_k (a := 0) (b := 6) (x := 2) rfl), (by omega), rfl⟩) ddX12_rankHere_11

theorem ddX12_emit_0 : decode cX12_emit 0 = .ok (.aload_n 0, 1) := by decide +kernel
theorem ddX12_emit_1 : decode cX12_emit 1 = .ok (.getfield 83, 3) := by decide +kernel
theorem ddX12_emit_4 : decode cX12_emit 4 = .ok (.aload_n 0, 1) := by decide +kernel
theorem ddX12_emit_5 : decode cX12_emit 5 = .ok (.getfield 280, 3) := by decide +kernel
theorem ddX12_emit_8 : decode cX12_emit 8 = .ok (.iload_n 1, 1) := by decide +kernel
theorem ddX12_emit_9 : decode cX12_emit 9 = .ok (.iastore, 1) := by decide +kernel
theorem ddX12_emit_10 : decode cX12_emit 10 = .ok (.aload_n 0, 1) := by decide +kernel
theorem ddX12_emit_11 : decode cX12_emit 11 = .ok (.getfield 86, 3) := by decide +kernel
theorem ddX12_emit_14 : decode cX12_emit 14 = .ok (.aload_n 0, 1) := by decide +kernel
theorem ddX12_emit_15 : decode cX12_emit 15 = .ok (.getfield 280, 3) := by decide +kernel
theorem ddX12_emit_18 : decode cX12_emit 18 = .ok (.iload_n 2, 1) := by decide +kernel
theorem ddX12_emit_19 : decode cX12_emit 19 = .ok (.iastore, 1) := by decide +kernel
theorem ddX12_emit_20 : decode cX12_emit 20 = .ok (.aload_n 0, 1) := by decide +kernel
theorem ddX12_emit_21 : decode cX12_emit 21 = .ok (.dup, 1) := by decide +kernel
theorem ddX12_emit_22 : decode cX12_emit 22 = .ok (.getfield 280, 3) := by decide +kernel
theorem ddX12_emit_25 : decode cX12_emit 25 = .ok (.iconst 1, 1) := by decide +kernel
theorem ddX12_emit_26 : decode cX12_emit 26 = .ok (.iadd, 1) := by decide +kernel
theorem ddX12_emit_27 : decode cX12_emit 27 = .ok (.putfield 280, 3) := by decide +kernel
theorem ddX12_emit_30 : decode cX12_emit 30 = .ok (.return_, 1) := by decide +kernel
def wq_k_X12_emit : List Cond := Cond.code yX12_emit cX12_emit 3 none :: (([Cond.fieldLink RX12 83 "CrowTollModel" "code" "[I", Cond.fieldLink RX12 280 "CrowTollModel" "codes" "I", Cond.fieldLink RX12 86 "CrowTollModel" "codeNumber" "[I"] : List Cond) ++ wsX120)
set_option maxHeartbeats 8000000 in
set_option maxRecDepth 100000 in
theorem k_X12_emit (l : Launch) (D : va_G) (cy : Nat → ClassId) (ad : Nat → Nat) (g : Nat → va_E) {u0_0 : Value} {u0_1 : Value} {u0_2 : Value} {u0_3 : Value} {u0_4 : Value} {u0_5 : Value} {u0_6 : Value} {u0_7 : Value} {u0_8 : Value} {u0_9 : Value} {u0_10 : Value} {u0_11 : Value} {u0_12 : Value} {u0_13 : Value} {u0_14 : Value} {u0_15 : Value} {u0_16 : Value} {u0_17 : Value} {u0_18 : Value} {u0_19 : Value} {u0_20 : Value} {u0_21 : Value} {u0_22 : Value} {u0_23 : Value} {u0_24 : Value} {u0_25 : Value} {u0_26 : Value} {u0_27 : Value} {u0_28 : Value} {u0_29 : Value} {u0_30 : Value} {u0_33 : Value} {u0_34 : Value} {u0_35 : Value} {u0_36 : Value} {u0_37 : Value} {x0_38 : Int32} {u0_39 : Value} {u0_40 : Value} {u0_41 : Value} {u0_42 : Value} {u0_43 : Value} {u0_44 : Value} {u0_45 : Value} {u0_46 : Value} {u0_47 : Value} {u0_48 : Value} {u0_49 : Value} {u0_50 : Value} {u0_51 : Value} {u0_52 : Value} {u0_53 : Value} {u0_54 : Value} {u0_55 : Value} {u0_56 : Value} {u0_57 : Value} {u0_58 : Value} {u0_59 : Value} {u0_60 : Value} {u0_61 : Value} {u0_62 : Value} {u0_63 : Value} {u0_64 : Value} {u0_65 : Value} {u0_66 : Value} {u0_67 : Value} {u0_68 : Value} {u0_69 : Value} {u0_70 : Value} {u0_71 : Value} {u0_72 : Value} {u0_73 : Value} {c1 : Nat → Int32} {c2 : Nat → Int32} {cx : Int32} {nx : Int32} (o0 : g 0 = .inr (12, [u0_0, u0_1, u0_2, u0_3, u0_4, u0_5, u0_6, u0_7, u0_8, u0_9, u0_10, u0_11, u0_12, u0_13, u0_14, u0_15, u0_16, u0_17, u0_18, u0_19, u0_20, u0_21, u0_22, u0_23, u0_24, u0_25, u0_26, u0_27, u0_28, u0_29, u0_30, .ref (ad 1), .ref (ad 2), u0_33, u0_34, u0_35, u0_36, u0_37, .int x0_38, u0_39, u0_40, u0_41, u0_42, u0_43, u0_44, u0_45, u0_46, u0_47, u0_48, u0_49, u0_50, u0_51, u0_52, u0_53, u0_54, u0_55, u0_56, u0_57, u0_58, u0_59, u0_60, u0_61, u0_62, u0_63, u0_64, u0_65, u0_66, u0_67, u0_68, u0_69, u0_70, u0_71, u0_72, u0_73])) (a1 : g 1 = .inl (cy 0, 980, .inl c1)) (a2 : g 2 = .inl (cy 0, 980, .inl c2)) (b0_38 : zi 0 979 x0_38) : cMv l yX12_emit wq_k_X12_emit { frames := 0, cells := 0, slots := 0, locals := 0 } 3 0 0 0 D cy ad g [.ref (ad 0), .int cx, .int nx] (fun nw lu => ∃ (y0_38 : Int32) (d1 : Nat → Int32) (d2 : Nat → Int32), (zi 1 980 y0_38) ∧ ((y0_38 : Int32).toInt = (x0_38 : Int32).toInt + 1) ∧ (d1 = upd c1 (x0_38 : Int32).toNatClampNeg (cx : Int32)) ∧ (lu = [(0, .inr (12, [u0_0, u0_1, u0_2, u0_3, u0_4, u0_5, u0_6, u0_7, u0_8, u0_9, u0_10, u0_11, u0_12, u0_13, u0_14, u0_15, u0_16, u0_17, u0_18, u0_19, u0_20, u0_21, u0_22, u0_23, u0_24, u0_25, u0_26, u0_27, u0_28, u0_29, u0_30, .ref (ad 1), .ref (ad 2), u0_33, u0_34, u0_35, u0_36, u0_37, .int y0_38, u0_39, u0_40, u0_41, u0_42, u0_43, u0_44, u0_45, u0_46, u0_47, u0_48, u0_49, u0_50, u0_51, u0_52, u0_53, u0_54, u0_55, u0_56, u0_57, u0_58, u0_59, u0_60, u0_61, u0_62, u0_63, u0_64, u0_65, u0_66, u0_67, u0_68, u0_69, u0_70, u0_71, u0_72, u0_73])), (1, .inl (cy 0, 980, .inl d1)), (2, .inl (cy 0, 980, .inl d2))])) := by
  refine cM_of (Qc := fun A => cQv (fun nw lu => ∃ (y0_38 : Int32) (d1 : Nat → Int32) (d2 : Nat → Int32), (zi 1 980 y0_38) ∧ ((y0_38 : Int32).toInt = (x0_38 : Int32).toInt + 1) ∧ (d1 = upd c1 (x0_38 : Int32).toNatClampNeg (cx : Int32)) ∧ (lu = [(0, .inr (12, [u0_0, u0_1, u0_2, u0_3, u0_4, u0_5, u0_6, u0_7, u0_8, u0_9, u0_10, u0_11, u0_12, u0_13, u0_14, u0_15, u0_16, u0_17, u0_18, u0_19, u0_20, u0_21, u0_22, u0_23, u0_24, u0_25, u0_26, u0_27, u0_28, u0_29, u0_30, .ref (ad 1), .ref (ad 2), u0_33, u0_34, u0_35, u0_36, u0_37, .int y0_38, u0_39, u0_40, u0_41, u0_42, u0_43, u0_44, u0_45, u0_46, u0_47, u0_48, u0_49, u0_50, u0_51, u0_52, u0_53, u0_54, u0_55, u0_56, u0_57, u0_58, u0_59, u0_60, u0_61, u0_62, u0_63, u0_64, u0_65, u0_66, u0_67, u0_68, u0_69, u0_70, u0_71, u0_72, u0_73])), (1, .inl (cy 0, 980, .inl d1)), (2, .inl (cy 0, 980, .inl d2))])) D 3 0 ad g A) (cc := cX12_emit) (maxL := 3) (ret := none) (by decide) rfl (Nat.le_of_ble_eq_true rfl) ?_
  intro p e s m below meth c A hC hr hlk hnm hO ls hl
  have hC : CallFix p m c cX12_emit 3 s [.ref (ad 0), .int cx, .int nx].toArray wq_k_X12_emit RX12 := hC
  obtain ⟨hx, hb, hml, hown, hts⟩ := id hC
  have hl : lv_has ls 3 [(0, .ref (ad 0)), (1, .int cx), (2, .int nx)] := hl
  have zc0 : (0 : Int32).toInt = 0 := by decide
  have zc1 : (1 : Int32).toInt = 1 := by decide
  have zc2 : (2 : Int32).toInt = 2 := by decide
  have zc3 : (3 : Int32).toInt = 3 := by decide
  have zc4 : (4 : Int32).toInt = 4 := by decide
  have zc5 : (5 : Int32).toInt = 5 := by decide
  have zc6 : (6 : Int32).toInt = 6 := by decide
  have zc7 : (7 : Int32).toInt = 7 := by decide
  have zc8 : (8 : Int32).toInt = 8 := by decide
  have i_X12 : ∀ w ∈ wsX120, w ∈ wq_k_X12_emit := fun w h => List.mem_cons_of_mem _ (List.mem_append_right _ h)
  have hO := hO.notes [(0, .inr (12, [u0_0, u0_1, u0_2, u0_3, u0_4, u0_5, u0_6, u0_7, u0_8, u0_9, u0_10, u0_11, u0_12, u0_13, u0_14, u0_15, u0_16, u0_17, u0_18, u0_19, u0_20, u0_21, u0_22, u0_23, u0_24, u0_25, u0_26, u0_27, u0_28, u0_29, u0_30, .ref (ad 1), .ref (ad 2), u0_33, u0_34, u0_35, u0_36, u0_37, .int x0_38, u0_39, u0_40, u0_41, u0_42, u0_43, u0_44, u0_45, u0_46, u0_47, u0_48, u0_49, u0_50, u0_51, u0_52, u0_53, u0_54, u0_55, u0_56, u0_57, u0_58, u0_59, u0_60, u0_61, u0_62, u0_63, u0_64, u0_65, u0_66, u0_67, u0_68, u0_69, u0_70, u0_71, u0_72, u0_73])), (1, .inl (cy 0, 980, .inl c1)), (2, .inl (cy 0, 980, .inl c2))] (List.forall_mem_cons.mpr ⟨o0, List.forall_mem_cons.mpr ⟨a1, List.forall_mem_cons.mpr ⟨a2, (fun _ h => absurd h List.not_mem_nil)⟩⟩⟩)
  refine lv_aload_n hx hb ddX12_emit_0 rfl (lv_at hl 0 rfl) ?_
  refine cg_get hC hO 0 (by decide) rfl rfl i_X12 31 (by decide) (List.mem_of_getElem? (i := 1) rfl) rfl ddX12_emit_1 ?_
  refine lv_aload_n hx hb ddX12_emit_4 rfl (lv_at hl 0 rfl) ?_
  refine cg_get hC hO 0 (by decide) rfl rfl i_X12 38 (by decide) (List.mem_of_getElem? (i := 2) rfl) rfl ddX12_emit_5 ?_
  refine lv_iload_n hx hb ddX12_emit_8 rfl (lv_at hl 1 rfl) ?_
  refine zg_iastX hC hO 1 (by decide) rfl (za_all _) (zi_all cx) (zi_in b0_38 (by decide)) ddX12_emit_9 (fun H locs c_9_17 zc_9_18 eq_9_19 hO => ?_)
  have hO : cO D cy A s.heap s 3 ad (cup [(0, .inr (12, [u0_0, u0_1, u0_2, u0_3, u0_4, u0_5, u0_6, u0_7, u0_8, u0_9, u0_10, u0_11, u0_12, u0_13, u0_14, u0_15, u0_16, u0_17, u0_18, u0_19, u0_20, u0_21, u0_22, u0_23, u0_24, u0_25, u0_26, u0_27, u0_28, u0_29, u0_30, .ref (ad 1), .ref (ad 2), u0_33, u0_34, u0_35, u0_36, u0_37, .int x0_38, u0_39, u0_40, u0_41, u0_42, u0_43, u0_44, u0_45, u0_46, u0_47, u0_48, u0_49, u0_50, u0_51, u0_52, u0_53, u0_54, u0_55, u0_56, u0_57, u0_58, u0_59, u0_60, u0_61, u0_62, u0_63, u0_64, u0_65, u0_66, u0_67, u0_68, u0_69, u0_70, u0_71, u0_72, u0_73])), (1, .inl (cy 0, 980, .inl c_9_17)), (2, .inl (cy 0, 980, .inl c2))] g) _ _ := hO
  refine lv_aload_n hx hb ddX12_emit_10 rfl (lv_at hl 0 rfl) ?_
  refine cg_get hC hO 0 (by decide) rfl rfl i_X12 32 (by decide) (List.mem_of_getElem? (i := 3) rfl) rfl ddX12_emit_11 ?_
  refine lv_aload_n hx hb ddX12_emit_14 rfl (lv_at hl 0 rfl) ?_
  refine cg_get hC hO 0 (by decide) rfl rfl i_X12 38 (by decide) (List.mem_of_getElem? (i := 2) rfl) rfl ddX12_emit_15 ?_
  refine lv_iload_n hx hb ddX12_emit_18 rfl (lv_at hl 2 rfl) ?_
  refine zg_iast hC hO 2 (by decide) rfl (za_all _) (zi_all nx) (zi_in b0_38 (by decide)) ddX12_emit_19 (fun H locs c_19_20 zc_19_21 hO => ?_)
  have hO : cO D cy A s.heap s 3 ad (cup [(0, .inr (12, [u0_0, u0_1, u0_2, u0_3, u0_4, u0_5, u0_6, u0_7, u0_8, u0_9, u0_10, u0_11, u0_12, u0_13, u0_14, u0_15, u0_16, u0_17, u0_18, u0_19, u0_20, u0_21, u0_22, u0_23, u0_24, u0_25, u0_26, u0_27, u0_28, u0_29, u0_30, .ref (ad 1), .ref (ad 2), u0_33, u0_34, u0_35, u0_36, u0_37, .int x0_38, u0_39, u0_40, u0_41, u0_42, u0_43, u0_44, u0_45, u0_46, u0_47, u0_48, u0_49, u0_50, u0_51, u0_52, u0_53, u0_54, u0_55, u0_56, u0_57, u0_58, u0_59, u0_60, u0_61, u0_62, u0_63, u0_64, u0_65, u0_66, u0_67, u0_68, u0_69, u0_70, u0_71, u0_72, u0_73])), (1, .inl (cy 0, 980, .inl c_9_17)), (2, .inl (cy 0, 980, .inl c_19_20))] g) _ _ := hO
  refine lv_aload_n hx hb ddX12_emit_20 rfl (lv_at hl 0 rfl) ?_
  refine lv_dup hx hb ddX12_emit_21 rfl ?_
  refine cg_get hC hO 0 (by decide) rfl rfl i_X12 38 (by decide) (List.mem_of_getElem? (i := 2) rfl) rfl ddX12_emit_22 ?_
  refine lv_iconst (v := 1) hx hb ddX12_emit_25 (by decide) ?_
  refine lv_iadd hx hb ddX12_emit_26 ?_
  refine zg_top2 (P := fun v => zi 1 980 v) (E := fun v => v.toInt = x0_38.toInt + 1) (zi_addk b0_38 (n := 1) (by decide) (by decide)) (fun v_26_22 z_26_23 q_26_24 => ?_)
  refine cg_put hC hO 0 (by decide) rfl rfl i_X12 tyX12_ok nmX12 38 (by decide) (List.mem_of_getElem? (i := 2) rfl) rfl rfl rfl (Nat.le_of_ble_eq_true rfl) ddX12_emit_27 (fun H locs hO => ?_)
  have hO : cO D cy A s.heap s 3 ad (cup [(0, .inr (12, [u0_0, u0_1, u0_2, u0_3, u0_4, u0_5, u0_6, u0_7, u0_8, u0_9, u0_10, u0_11, u0_12, u0_13, u0_14, u0_15, u0_16, u0_17, u0_18, u0_19, u0_20, u0_21, u0_22, u0_23, u0_24, u0_25, u0_26, u0_27, u0_28, u0_29, u0_30, .ref (ad 1), .ref (ad 2), u0_33, u0_34, u0_35, u0_36, u0_37, .int v_26_22, u0_39, u0_40, u0_41, u0_42, u0_43, u0_44, u0_45, u0_46, u0_47, u0_48, u0_49, u0_50, u0_51, u0_52, u0_53, u0_54, u0_55, u0_56, u0_57, u0_58, u0_59, u0_60, u0_61, u0_62, u0_63, u0_64, u0_65, u0_66, u0_67, u0_68, u0_69, u0_70, u0_71, u0_72, u0_73])), (1, .inl (cy 0, 980, .inl c_9_17)), (2, .inl (cy 0, 980, .inl c_19_20))] g) _ _ := hO
  exact cg_vret (nw := fun _ => 0) hC hr hlk hO.same (Nat.le_of_ble_eq_true rfl) (Nat.le_of_ble_eq_true rfl) (⟨v_26_22, c_9_17, c_19_20, z_26_23, q_26_24, eq_9_19, rfl⟩) ddX12_emit_30

theorem ddX12_pushE_0 : decode cX12_pushE 0 = .ok (.aload_n 0, 1) := by decide +kernel
theorem ddX12_pushE_1 : decode cX12_pushE 1 = .ok (.getfield 89, 3) := by decide +kernel
theorem ddX12_pushE_4 : decode cX12_pushE 4 = .ok (.aload_n 0, 1) := by decide +kernel
theorem ddX12_pushE_5 : decode cX12_pushE 5 = .ok (.getfield 331, 3) := by decide +kernel
theorem ddX12_pushE_8 : decode cX12_pushE 8 = .ok (.iload_n 1, 1) := by decide +kernel
theorem ddX12_pushE_9 : decode cX12_pushE 9 = .ok (.iastore, 1) := by decide +kernel
theorem ddX12_pushE_10 : decode cX12_pushE 10 = .ok (.aload_n 0, 1) := by decide +kernel
theorem ddX12_pushE_11 : decode cX12_pushE 11 = .ok (.getfield 92, 3) := by decide +kernel
theorem ddX12_pushE_14 : decode cX12_pushE 14 = .ok (.aload_n 0, 1) := by decide +kernel
theorem ddX12_pushE_15 : decode cX12_pushE 15 = .ok (.getfield 331, 3) := by decide +kernel
theorem ddX12_pushE_18 : decode cX12_pushE 18 = .ok (.iload_n 2, 1) := by decide +kernel
theorem ddX12_pushE_19 : decode cX12_pushE 19 = .ok (.iastore, 1) := by decide +kernel
theorem ddX12_pushE_20 : decode cX12_pushE 20 = .ok (.aload_n 0, 1) := by decide +kernel
theorem ddX12_pushE_21 : decode cX12_pushE 21 = .ok (.dup, 1) := by decide +kernel
theorem ddX12_pushE_22 : decode cX12_pushE 22 = .ok (.getfield 331, 3) := by decide +kernel
theorem ddX12_pushE_25 : decode cX12_pushE 25 = .ok (.iconst 1, 1) := by decide +kernel
theorem ddX12_pushE_26 : decode cX12_pushE 26 = .ok (.iadd, 1) := by decide +kernel
theorem ddX12_pushE_27 : decode cX12_pushE 27 = .ok (.putfield 331, 3) := by decide +kernel
theorem ddX12_pushE_30 : decode cX12_pushE 30 = .ok (.return_, 1) := by decide +kernel
def wq_k_X12_pushE : List Cond := Cond.code yX12_pushE cX12_pushE 3 none :: (([Cond.fieldLink RX12 89 "CrowTollModel" "eWhat" "[I", Cond.fieldLink RX12 331 "CrowTollModel" "piled" "I", Cond.fieldLink RX12 92 "CrowTollModel" "eSign" "[I"] : List Cond) ++ wsX120)
set_option maxHeartbeats 8000000 in
set_option maxRecDepth 100000 in
theorem k_X12_pushE (l : Launch) (D : va_G) (cy : Nat → ClassId) (ad : Nat → Nat) (g : Nat → va_E) {u0_0 : Value} {u0_1 : Value} {u0_2 : Value} {u0_3 : Value} {u0_4 : Value} {u0_5 : Value} {u0_6 : Value} {u0_7 : Value} {u0_8 : Value} {u0_9 : Value} {u0_10 : Value} {u0_11 : Value} {u0_12 : Value} {u0_13 : Value} {u0_14 : Value} {u0_15 : Value} {u0_16 : Value} {u0_17 : Value} {u0_18 : Value} {u0_19 : Value} {u0_20 : Value} {u0_21 : Value} {u0_22 : Value} {u0_23 : Value} {u0_24 : Value} {u0_25 : Value} {u0_26 : Value} {u0_27 : Value} {u0_28 : Value} {u0_29 : Value} {u0_30 : Value} {u0_31 : Value} {u0_32 : Value} {u0_35 : Value} {u0_36 : Value} {u0_37 : Value} {u0_38 : Value} {u0_39 : Value} {x0_40 : Int32} {u0_41 : Value} {u0_42 : Value} {u0_43 : Value} {u0_44 : Value} {u0_45 : Value} {u0_46 : Value} {u0_47 : Value} {u0_48 : Value} {u0_49 : Value} {u0_50 : Value} {u0_51 : Value} {u0_52 : Value} {u0_53 : Value} {u0_54 : Value} {u0_55 : Value} {u0_56 : Value} {u0_57 : Value} {u0_58 : Value} {u0_59 : Value} {u0_60 : Value} {u0_61 : Value} {u0_62 : Value} {u0_63 : Value} {u0_64 : Value} {u0_65 : Value} {u0_66 : Value} {u0_67 : Value} {u0_68 : Value} {u0_69 : Value} {u0_70 : Value} {u0_71 : Value} {u0_72 : Value} {u0_73 : Value} {c1 : Nat → Int32} {c2 : Nat → Int32} {what : Int32} {sx : Int32} (o0 : g 0 = .inr (12, [u0_0, u0_1, u0_2, u0_3, u0_4, u0_5, u0_6, u0_7, u0_8, u0_9, u0_10, u0_11, u0_12, u0_13, u0_14, u0_15, u0_16, u0_17, u0_18, u0_19, u0_20, u0_21, u0_22, u0_23, u0_24, u0_25, u0_26, u0_27, u0_28, u0_29, u0_30, u0_31, u0_32, .ref (ad 1), .ref (ad 2), u0_35, u0_36, u0_37, u0_38, u0_39, .int x0_40, u0_41, u0_42, u0_43, u0_44, u0_45, u0_46, u0_47, u0_48, u0_49, u0_50, u0_51, u0_52, u0_53, u0_54, u0_55, u0_56, u0_57, u0_58, u0_59, u0_60, u0_61, u0_62, u0_63, u0_64, u0_65, u0_66, u0_67, u0_68, u0_69, u0_70, u0_71, u0_72, u0_73])) (a1 : g 1 = .inl (cy 0, 90, .inl c1)) (a2 : g 2 = .inl (cy 0, 90, .inl c2)) (b0_40 : zi 0 89 x0_40) : cMv l yX12_pushE wq_k_X12_pushE { frames := 0, cells := 0, slots := 0, locals := 0 } 3 0 0 0 D cy ad g [.ref (ad 0), .int what, .int sx] (fun nw lu => ∃ (y0_40 : Int32) (d1 : Nat → Int32) (d2 : Nat → Int32), (zi 1 90 y0_40) ∧ ((y0_40 : Int32).toInt = (x0_40 : Int32).toInt + 1) ∧ (d1 = upd c1 (x0_40 : Int32).toNatClampNeg (what : Int32)) ∧ (d2 = upd c2 (x0_40 : Int32).toNatClampNeg (sx : Int32)) ∧ (lu = [(0, .inr (12, [u0_0, u0_1, u0_2, u0_3, u0_4, u0_5, u0_6, u0_7, u0_8, u0_9, u0_10, u0_11, u0_12, u0_13, u0_14, u0_15, u0_16, u0_17, u0_18, u0_19, u0_20, u0_21, u0_22, u0_23, u0_24, u0_25, u0_26, u0_27, u0_28, u0_29, u0_30, u0_31, u0_32, .ref (ad 1), .ref (ad 2), u0_35, u0_36, u0_37, u0_38, u0_39, .int y0_40, u0_41, u0_42, u0_43, u0_44, u0_45, u0_46, u0_47, u0_48, u0_49, u0_50, u0_51, u0_52, u0_53, u0_54, u0_55, u0_56, u0_57, u0_58, u0_59, u0_60, u0_61, u0_62, u0_63, u0_64, u0_65, u0_66, u0_67, u0_68, u0_69, u0_70, u0_71, u0_72, u0_73])), (1, .inl (cy 0, 90, .inl d1)), (2, .inl (cy 0, 90, .inl d2))])) := by
  refine cM_of (Qc := fun A => cQv (fun nw lu => ∃ (y0_40 : Int32) (d1 : Nat → Int32) (d2 : Nat → Int32), (zi 1 90 y0_40) ∧ ((y0_40 : Int32).toInt = (x0_40 : Int32).toInt + 1) ∧ (d1 = upd c1 (x0_40 : Int32).toNatClampNeg (what : Int32)) ∧ (d2 = upd c2 (x0_40 : Int32).toNatClampNeg (sx : Int32)) ∧ (lu = [(0, .inr (12, [u0_0, u0_1, u0_2, u0_3, u0_4, u0_5, u0_6, u0_7, u0_8, u0_9, u0_10, u0_11, u0_12, u0_13, u0_14, u0_15, u0_16, u0_17, u0_18, u0_19, u0_20, u0_21, u0_22, u0_23, u0_24, u0_25, u0_26, u0_27, u0_28, u0_29, u0_30, u0_31, u0_32, .ref (ad 1), .ref (ad 2), u0_35, u0_36, u0_37, u0_38, u0_39, .int y0_40, u0_41, u0_42, u0_43, u0_44, u0_45, u0_46, u0_47, u0_48, u0_49, u0_50, u0_51, u0_52, u0_53, u0_54, u0_55, u0_56, u0_57, u0_58, u0_59, u0_60, u0_61, u0_62, u0_63, u0_64, u0_65, u0_66, u0_67, u0_68, u0_69, u0_70, u0_71, u0_72, u0_73])), (1, .inl (cy 0, 90, .inl d1)), (2, .inl (cy 0, 90, .inl d2))])) D 3 0 ad g A) (cc := cX12_pushE) (maxL := 3) (ret := none) (by decide) rfl (Nat.le_of_ble_eq_true rfl) ?_
  intro p e s m below meth c A hC hr hlk hnm hO ls hl
  have hC : CallFix p m c cX12_pushE 3 s [.ref (ad 0), .int what, .int sx].toArray wq_k_X12_pushE RX12 := hC
  obtain ⟨hx, hb, hml, hown, hts⟩ := id hC
  have hl : lv_has ls 3 [(0, .ref (ad 0)), (1, .int what), (2, .int sx)] := hl
  have zc0 : (0 : Int32).toInt = 0 := by decide
  have zc1 : (1 : Int32).toInt = 1 := by decide
  have zc2 : (2 : Int32).toInt = 2 := by decide
  have zc3 : (3 : Int32).toInt = 3 := by decide
  have zc4 : (4 : Int32).toInt = 4 := by decide
  have zc5 : (5 : Int32).toInt = 5 := by decide
  have zc6 : (6 : Int32).toInt = 6 := by decide
  have zc7 : (7 : Int32).toInt = 7 := by decide
  have zc8 : (8 : Int32).toInt = 8 := by decide
  have i_X12 : ∀ w ∈ wsX120, w ∈ wq_k_X12_pushE := fun w h => List.mem_cons_of_mem _ (List.mem_append_right _ h)
  have hO := hO.notes [(0, .inr (12, [u0_0, u0_1, u0_2, u0_3, u0_4, u0_5, u0_6, u0_7, u0_8, u0_9, u0_10, u0_11, u0_12, u0_13, u0_14, u0_15, u0_16, u0_17, u0_18, u0_19, u0_20, u0_21, u0_22, u0_23, u0_24, u0_25, u0_26, u0_27, u0_28, u0_29, u0_30, u0_31, u0_32, .ref (ad 1), .ref (ad 2), u0_35, u0_36, u0_37, u0_38, u0_39, .int x0_40, u0_41, u0_42, u0_43, u0_44, u0_45, u0_46, u0_47, u0_48, u0_49, u0_50, u0_51, u0_52, u0_53, u0_54, u0_55, u0_56, u0_57, u0_58, u0_59, u0_60, u0_61, u0_62, u0_63, u0_64, u0_65, u0_66, u0_67, u0_68, u0_69, u0_70, u0_71, u0_72, u0_73])), (1, .inl (cy 0, 90, .inl c1)), (2, .inl (cy 0, 90, .inl c2))] (List.forall_mem_cons.mpr ⟨o0, List.forall_mem_cons.mpr ⟨a1, List.forall_mem_cons.mpr ⟨a2, (fun _ h => absurd h List.not_mem_nil)⟩⟩⟩)
  refine lv_aload_n hx hb ddX12_pushE_0 rfl (lv_at hl 0 rfl) ?_
  refine cg_get hC hO 0 (by decide) rfl rfl i_X12 33 (by decide) (List.mem_of_getElem? (i := 1) rfl) rfl ddX12_pushE_1 ?_
  refine lv_aload_n hx hb ddX12_pushE_4 rfl (lv_at hl 0 rfl) ?_
  refine cg_get hC hO 0 (by decide) rfl rfl i_X12 40 (by decide) (List.mem_of_getElem? (i := 2) rfl) rfl ddX12_pushE_5 ?_
  refine lv_iload_n hx hb ddX12_pushE_8 rfl (lv_at hl 1 rfl) ?_
  refine zg_iastX hC hO 1 (by decide) rfl (za_all _) (zi_all what) (zi_in b0_40 (by decide)) ddX12_pushE_9 (fun H locs c_9_19 zc_9_20 eq_9_21 hO => ?_)
  have hO : cO D cy A s.heap s 3 ad (cup [(0, .inr (12, [u0_0, u0_1, u0_2, u0_3, u0_4, u0_5, u0_6, u0_7, u0_8, u0_9, u0_10, u0_11, u0_12, u0_13, u0_14, u0_15, u0_16, u0_17, u0_18, u0_19, u0_20, u0_21, u0_22, u0_23, u0_24, u0_25, u0_26, u0_27, u0_28, u0_29, u0_30, u0_31, u0_32, .ref (ad 1), .ref (ad 2), u0_35, u0_36, u0_37, u0_38, u0_39, .int x0_40, u0_41, u0_42, u0_43, u0_44, u0_45, u0_46, u0_47, u0_48, u0_49, u0_50, u0_51, u0_52, u0_53, u0_54, u0_55, u0_56, u0_57, u0_58, u0_59, u0_60, u0_61, u0_62, u0_63, u0_64, u0_65, u0_66, u0_67, u0_68, u0_69, u0_70, u0_71, u0_72, u0_73])), (1, .inl (cy 0, 90, .inl c_9_19)), (2, .inl (cy 0, 90, .inl c2))] g) _ _ := hO
  refine lv_aload_n hx hb ddX12_pushE_10 rfl (lv_at hl 0 rfl) ?_
  refine cg_get hC hO 0 (by decide) rfl rfl i_X12 34 (by decide) (List.mem_of_getElem? (i := 3) rfl) rfl ddX12_pushE_11 ?_
  refine lv_aload_n hx hb ddX12_pushE_14 rfl (lv_at hl 0 rfl) ?_
  refine cg_get hC hO 0 (by decide) rfl rfl i_X12 40 (by decide) (List.mem_of_getElem? (i := 2) rfl) rfl ddX12_pushE_15 ?_
  refine lv_iload_n hx hb ddX12_pushE_18 rfl (lv_at hl 2 rfl) ?_
  refine zg_iastX hC hO 2 (by decide) rfl (za_all _) (zi_all sx) (zi_in b0_40 (by decide)) ddX12_pushE_19 (fun H locs c_19_22 zc_19_23 eq_19_24 hO => ?_)
  have hO : cO D cy A s.heap s 3 ad (cup [(0, .inr (12, [u0_0, u0_1, u0_2, u0_3, u0_4, u0_5, u0_6, u0_7, u0_8, u0_9, u0_10, u0_11, u0_12, u0_13, u0_14, u0_15, u0_16, u0_17, u0_18, u0_19, u0_20, u0_21, u0_22, u0_23, u0_24, u0_25, u0_26, u0_27, u0_28, u0_29, u0_30, u0_31, u0_32, .ref (ad 1), .ref (ad 2), u0_35, u0_36, u0_37, u0_38, u0_39, .int x0_40, u0_41, u0_42, u0_43, u0_44, u0_45, u0_46, u0_47, u0_48, u0_49, u0_50, u0_51, u0_52, u0_53, u0_54, u0_55, u0_56, u0_57, u0_58, u0_59, u0_60, u0_61, u0_62, u0_63, u0_64, u0_65, u0_66, u0_67, u0_68, u0_69, u0_70, u0_71, u0_72, u0_73])), (1, .inl (cy 0, 90, .inl c_9_19)), (2, .inl (cy 0, 90, .inl c_19_22))] g) _ _ := hO
  refine lv_aload_n hx hb ddX12_pushE_20 rfl (lv_at hl 0 rfl) ?_
  refine lv_dup hx hb ddX12_pushE_21 rfl ?_
  refine cg_get hC hO 0 (by decide) rfl rfl i_X12 40 (by decide) (List.mem_of_getElem? (i := 2) rfl) rfl ddX12_pushE_22 ?_
  refine lv_iconst (v := 1) hx hb ddX12_pushE_25 (by decide) ?_
  refine lv_iadd hx hb ddX12_pushE_26 ?_
  refine zg_top2 (P := fun v => zi 1 90 v) (E := fun v => v.toInt = x0_40.toInt + 1) (zi_addk b0_40 (n := 1) (by decide) (by decide)) (fun v_26_25 z_26_26 q_26_27 => ?_)
  refine cg_put hC hO 0 (by decide) rfl rfl i_X12 tyX12_ok nmX12 40 (by decide) (List.mem_of_getElem? (i := 2) rfl) rfl rfl rfl (Nat.le_of_ble_eq_true rfl) ddX12_pushE_27 (fun H locs hO => ?_)
  have hO : cO D cy A s.heap s 3 ad (cup [(0, .inr (12, [u0_0, u0_1, u0_2, u0_3, u0_4, u0_5, u0_6, u0_7, u0_8, u0_9, u0_10, u0_11, u0_12, u0_13, u0_14, u0_15, u0_16, u0_17, u0_18, u0_19, u0_20, u0_21, u0_22, u0_23, u0_24, u0_25, u0_26, u0_27, u0_28, u0_29, u0_30, u0_31, u0_32, .ref (ad 1), .ref (ad 2), u0_35, u0_36, u0_37, u0_38, u0_39, .int v_26_25, u0_41, u0_42, u0_43, u0_44, u0_45, u0_46, u0_47, u0_48, u0_49, u0_50, u0_51, u0_52, u0_53, u0_54, u0_55, u0_56, u0_57, u0_58, u0_59, u0_60, u0_61, u0_62, u0_63, u0_64, u0_65, u0_66, u0_67, u0_68, u0_69, u0_70, u0_71, u0_72, u0_73])), (1, .inl (cy 0, 90, .inl c_9_19)), (2, .inl (cy 0, 90, .inl c_19_22))] g) _ _ := hO
  exact cg_vret (nw := fun _ => 0) hC hr hlk hO.same (Nat.le_of_ble_eq_true rfl) (Nat.le_of_ble_eq_true rfl) (⟨v_26_25, c_9_19, c_19_22, z_26_26, q_26_27, eq_9_21, eq_19_24, rfl⟩) ddX12_pushE_30

theorem ddX12_isCompared_0 : decode cX12_isCompared 0 = .ok (.aload_n 0, 1) := by decide +kernel
theorem ddX12_isCompared_1 : decode cX12_isCompared 1 = .ok (.getfield 331, 3) := by decide +kernel
theorem ddX12_isCompared_4 : decode cX12_isCompared 4 = .ok (.iconst 1, 1) := by decide +kernel
theorem ddX12_isCompared_5 : decode cX12_isCompared 5 = .ok (.isub, 1) := by decide +kernel
theorem ddX12_isCompared_6 : decode cX12_isCompared 6 = .ok (.istore_n 1, 1) := by decide +kernel
theorem ddX12_isCompared_7 : decode cX12_isCompared 7 = .ok (.aload_n 0, 1) := by decide +kernel
theorem ddX12_isCompared_8 : decode cX12_isCompared 8 = .ok (.getfield 89, 3) := by decide +kernel
theorem ddX12_isCompared_11 : decode cX12_isCompared 11 = .ok (.iload_n 1, 1) := by decide +kernel
theorem ddX12_isCompared_12 : decode cX12_isCompared 12 = .ok (.iaload, 1) := by decide +kernel
theorem ddX12_isCompared_13 : decode cX12_isCompared 13 = .ok (.iconst 5, 1) := by decide +kernel
theorem ddX12_isCompared_14 : decode cX12_isCompared 14 = .ok (.if_icmp .eq 14, 3) := by decide +kernel
theorem ddX12_isCompared_17 : decode cX12_isCompared 17 = .ok (.aload_n 0, 1) := by decide +kernel
theorem ddX12_isCompared_18 : decode cX12_isCompared 18 = .ok (.getfield 89, 3) := by decide +kernel
theorem ddX12_isCompared_21 : decode cX12_isCompared 21 = .ok (.iload_n 1, 1) := by decide +kernel
theorem ddX12_isCompared_22 : decode cX12_isCompared 22 = .ok (.iaload, 1) := by decide +kernel
theorem ddX12_isCompared_23 : decode cX12_isCompared 23 = .ok (.bipush 6, 2) := by decide +kernel
theorem ddX12_isCompared_25 : decode cX12_isCompared 25 = .ok (.if_icmp .ne 9, 3) := by decide +kernel
theorem ddX12_isCompared_28 : decode cX12_isCompared 28 = .ok (.iinc 1 (-1), 3) := by decide +kernel
theorem ddX12_isCompared_31 : decode cX12_isCompared 31 = .ok (.goto (-24), 3) := by decide +kernel
theorem ddX12_isCompared_34 : decode cX12_isCompared 34 = .ok (.aload_n 0, 1) := by decide +kernel
theorem ddX12_isCompared_35 : decode cX12_isCompared 35 = .ok (.getfield 89, 3) := by decide +kernel
theorem ddX12_isCompared_38 : decode cX12_isCompared 38 = .ok (.iload_n 1, 1) := by decide +kernel
theorem ddX12_isCompared_39 : decode cX12_isCompared 39 = .ok (.iaload, 1) := by decide +kernel
theorem ddX12_isCompared_40 : decode cX12_isCompared 40 = .ok (.iconst 4, 1) := by decide +kernel
theorem ddX12_isCompared_41 : decode cX12_isCompared 41 = .ok (.if_icmp .ne 7, 3) := by decide +kernel
theorem ddX12_isCompared_44 : decode cX12_isCompared 44 = .ok (.iconst 1, 1) := by decide +kernel
theorem ddX12_isCompared_45 : decode cX12_isCompared 45 = .ok (.goto 4, 3) := by decide +kernel
theorem ddX12_isCompared_48 : decode cX12_isCompared 48 = .ok (.iconst 0, 1) := by decide +kernel
theorem ddX12_isCompared_49 : decode cX12_isCompared 49 = .ok (.ireturn, 1) := by decide +kernel
def wq_k_X12_isCompared : List Cond := Cond.code yX12_isCompared cX12_isCompared 2 (some .boolean) :: (([Cond.fieldLink RX12 331 "CrowTollModel" "piled" "I", Cond.fieldLink RX12 89 "CrowTollModel" "eWhat" "[I"] : List Cond) ++ wsX120)
set_option maxHeartbeats 8000000 in
set_option maxRecDepth 100000 in
theorem k_X12_isCompared (l : Launch) (D : va_G) (cy : Nat → ClassId) (ad : Nat → Nat) (g : Nat → va_E) {u0_0 : Value} {u0_1 : Value} {u0_2 : Value} {u0_3 : Value} {u0_4 : Value} {u0_5 : Value} {u0_6 : Value} {u0_7 : Value} {u0_8 : Value} {u0_9 : Value} {u0_10 : Value} {u0_11 : Value} {u0_12 : Value} {u0_13 : Value} {u0_15 : Value} {u0_16 : Value} {u0_17 : Value} {u0_18 : Value} {u0_19 : Value} {u0_20 : Value} {u0_21 : Value} {u0_22 : Value} {u0_23 : Value} {u0_24 : Value} {u0_25 : Value} {u0_26 : Value} {u0_27 : Value} {u0_28 : Value} {u0_29 : Value} {u0_30 : Value} {u0_32 : Value} {u0_35 : Value} {u0_36 : Value} {x0_37 : Int32} {x0_38 : Int32} {x0_39 : Int32} {x0_40 : Int32} {u0_41 : Value} {u0_42 : Value} {u0_43 : Value} {u0_44 : Value} {u0_45 : Value} {u0_46 : Value} {u0_47 : Value} {u0_48 : Value} {u0_49 : Value} {u0_50 : Value} {u0_51 : Value} {u0_52 : Value} {u0_53 : Value} {u0_54 : Value} {u0_55 : Value} {u0_56 : Value} {u0_57 : Value} {u0_58 : Value} {u0_59 : Value} {u0_60 : Value} {u0_61 : Value} {u0_62 : Value} {u0_63 : Value} {u0_64 : Value} {u0_65 : Value} {u0_66 : Value} {u0_67 : Value} {u0_68 : Value} {u0_69 : Value} {u0_70 : Value} {u0_71 : Value} {u0_72 : Value} {u0_73 : Value} {c1 : Nat → Int32} {c2 : Nat → Int32} {c3 : Nat → Int32} {c4 : Nat → Int32} (o0 : g 0 = .inr (12, [u0_0, u0_1, u0_2, u0_3, u0_4, u0_5, u0_6, u0_7, u0_8, u0_9, u0_10, u0_11, u0_12, u0_13, .ref (ad 4), u0_15, u0_16, u0_17, u0_18, u0_19, u0_20, u0_21, u0_22, u0_23, u0_24, u0_25, u0_26, u0_27, u0_28, u0_29, u0_30, .ref (ad 3), u0_32, .ref (ad 1), .ref (ad 2), u0_35, u0_36, .int x0_37, .int x0_38, .int x0_39, .int x0_40, u0_41, u0_42, u0_43, u0_44, u0_45, u0_46, u0_47, u0_48, u0_49, u0_50, u0_51, u0_52, u0_53, u0_54, u0_55, u0_56, u0_57, u0_58, u0_59, u0_60, u0_61, u0_62, u0_63, u0_64, u0_65, u0_66, u0_67, u0_68, u0_69, u0_70, u0_71, u0_72, u0_73])) (a1 : g 1 = .inl (cy 0, 90, .inl c1)) (a2 : g 2 = .inl (cy 0, 90, .inl c2)) (a3 : g 3 = .inl (cy 0, 980, .inl c3)) (a4 : g 4 = .inl (cy 0, 2, .inl c4)) (b0_37 : zi 0 1 x0_37) (b0_38 : zi 0 980 x0_38) (b0_39 : zi 0 7 x0_39) (b0_40 : zi 0 90 x0_40) (ha4 : za 0 30 c4) (hg_li0 : LI0 c1 c2 c3 (x0_40 : Int32) (x0_39 : Int32) (c4 (x0_37 : Int32).toNatClampNeg) (x0_38 : Int32) (x0_37 : Int32)) : cMi l yX12_isCompared wq_k_X12_isCompared { frames := 0, cells := 0, slots := 0, locals := 0 } 5 0 0 0 D cy ad g [.ref (ad 0)] (fun r nw lu => (zi 0 1 r) ∧ (lu = [])) := by
  refine cM_of (Qc := fun A => cQi (fun r nw lu => (zi 0 1 r) ∧ (lu = [])) D 5 0 ad g A) (cc := cX12_isCompared) (maxL := 2) (ret := (some .boolean)) (by decide) rfl (Nat.le_of_ble_eq_true rfl) ?_
  intro p e s m below meth c A hC hr hlk hnm hO ls hl
  have hC : CallFix p m c cX12_isCompared 2 s [.ref (ad 0)].toArray wq_k_X12_isCompared RX12 := hC
  obtain ⟨hx, hb, hml, hown, hts⟩ := id hC
  have hl : lv_has ls 2 [(0, .ref (ad 0))] := hl
  have zc0 : (0 : Int32).toInt = 0 := by decide
  have zc1 : (1 : Int32).toInt = 1 := by decide
  have zc2 : (2 : Int32).toInt = 2 := by decide
  have zc3 : (3 : Int32).toInt = 3 := by decide
  have zc4 : (4 : Int32).toInt = 4 := by decide
  have zc5 : (5 : Int32).toInt = 5 := by decide
  have zc6 : (6 : Int32).toInt = 6 := by decide
  have zc7 : (7 : Int32).toInt = 7 := by decide
  have zc8 : (8 : Int32).toInt = 8 := by decide
  have i_X12 : ∀ w ∈ wsX120, w ∈ wq_k_X12_isCompared := fun w h => List.mem_cons_of_mem _ (List.mem_append_right _ h)
  have lb_0_137 := LI_b hg_li0 (by decide)
  have z_0_138 : zi 1 39 x0_40 := ⟨by have q1 := lb_0_137; have q2 := b0_40; omega, by have q1 := lb_0_137; have q2 := b0_40; omega⟩
  have z_0_139 : zi 0 767 x0_38 := ⟨by have q1 := lb_0_137; have q2 := b0_38; omega, by have q1 := lb_0_137; have q2 := b0_38; omega⟩
  refine lv_aload_n hx hb ddX12_isCompared_0 rfl (lv_at hl 0 rfl) ?_
  refine cg_get hC hO 0 (by decide) o0 rfl i_X12 40 (by decide) (List.mem_of_getElem? (i := 1) rfl) rfl ddX12_isCompared_1 ?_
  refine lv_iconst (v := 1) hx hb ddX12_isCompared_4 (by decide) ?_
  refine lv_isub hx hb ddX12_isCompared_5 ?_
  refine zg_top2 (P := fun v => zi 0 38 v) (E := fun v => v.toInt = x0_40.toInt + -1) (zi_subk z_0_138 (n := 1) (by decide) (by decide)) (fun v_5_140 z_5_141 q_5_142 => ?_)
  refine lv_istore_n (lv' := [(1, .int v_5_140), (0, .ref (ad 0))]) hx hb ddX12_isCompared_6 rfl hl (by decide) rfl (fun ls hl => ?_)
  have loop_7_273 : ∀ (d_7_274 : Nat) (v_7_229 : Int32), zi (-1) 38 v_7_229 → LK c1 c2 (v_7_229 : Int32) → (v_7_229 : Int32).toInt ≤ 38 → (v_7_229.toInt - (-1) + 1).toNat < d_7_274 → ∀ (H : Heap) (locs : List Loc), cO D cy A s.heap s 5 ad (cup [] g) H locs → ∀ ls : Array Slot, lv_has ls 2 [(1, .int v_7_229), (0, .ref (ad 0))] → W p l e { frames := 0, cells := 0, slots := 0, locals := 0 } s m [.ref (ad 0)].toArray below meth c H locs 0 0 (MQ below (cQi (fun r nw lu => (zi 0 1 r) ∧ (lu = [])) D 5 0 ad g A) [.ref (ad 0)].toArray s 0 0 A) (F0 m 7 ls [])  := by
    intro d_7_274
    induction d_7_274 with
    | zero => intro v_7_229 z_7_230 lk_7_231 lu_7_232 mu_7_275; exact absurd mu_7_275 (Nat.not_lt_zero _)
    | succ d_7_274 ih_7_276 =>
      intro v_7_229 z_7_230 lk_7_231 lu_7_232 mu_7_275 H locs hO ls hl
      have z_7_277 : zi 0 38 v_7_229 := ⟨lk_7_231.1, by omega⟩
      refine lv_aload_n hx hb ddX12_isCompared_7 rfl (lv_at hl 1 rfl) ?_
      refine cg_get hC hO 0 (by decide) o0 rfl i_X12 33 (by decide) (List.mem_of_getElem? (i := 2) rfl) rfl ddX12_isCompared_8 ?_
      refine lv_iload_n hx hb ddX12_isCompared_11 rfl (lv_at hl 0 rfl) ?_
      refine zg_ialdE hC hO 1 (by decide) a1 (za_all _) (zi_in z_7_277 (by decide)) ddX12_isCompared_12 (fun v_12_278 z_12_279 el_12_280 => ?_)
      have qe_12_281 : (c1 (v_7_229 : Int32).toNatClampNeg).toInt = v_12_278.toInt := by rw [el_12_280]
      refine lv_iconst (v := 5) hx hb ddX12_isCompared_13 (by decide) ?_
      refine lv_icmp_eq (tgt := 28) hx hb ddX12_isCompared_14 (by decide) (fun h_14_282 => ?_) (fun h_14_282 => ?_)
      · have qk_14_289 : v_12_278.toInt = 5 := (zr_eq h_14_282).trans (by decide)
        have q_14_290 := zr_eq h_14_282
        have z_14_291 : zi 5 5 v_12_278 := ze_eq q_14_290 z_12_279 (zi_k (a := 5) (b := 5) (x := 5) rfl)
        obtain ⟨v_28_292, e_28_293, z_28_294, q_28_295⟩ := zi_inc (e := (-1)) (f := 37) (-1) z_7_277 (by decide)
        refine lv_iinc (v := v_28_292) (lv' := [(1, .int v_28_292), (0, .ref (ad 0))]) hx hb ddX12_isCompared_28 hl (k := 0) rfl e_28_293 (by decide) rfl (fun ls hl => ?_)
        refine lv_goto (tgt := 7) hx hb ddX12_isCompared_31 (by decide) ?_
        exact ih_7_276 v_28_292 (zi_w (c := (-1)) (d := 38) z_28_294 (by decide)) (LK_dn lk_7_231 (by omega) (by omega)) (by omega) (zm_dn q_28_295 ((zi_w (c := (-1)) (d := 38) z_28_294 (by decide))).1 (by decide) mu_7_275) _ _ hO ls (lv_sub hl [0, 1] rfl)
      · have qk_14_296 : ¬ (v_12_278.toInt = 5) := (fun z => (zr_ne h_14_282) (z.trans (by decide)))
        refine lv_aload_n hx hb ddX12_isCompared_17 rfl (lv_at hl 1 rfl) ?_
        refine cg_get hC hO 0 (by decide) o0 rfl i_X12 33 (by decide) (List.mem_of_getElem? (i := 2) rfl) rfl ddX12_isCompared_18 ?_
        refine lv_iload_n hx hb ddX12_isCompared_21 rfl (lv_at hl 0 rfl) ?_
        have qe_22_299 : (c1 (v_7_229 : Int32).toNatClampNeg).toInt = (v_12_278 : Int32).toInt := by rw [el_12_280]
        refine cg_iald hC hO 1 (by decide) a1 (zi_in z_7_277 (by decide)) ddX12_isCompared_22 ?_
        refine cg_ev (v := v_12_278) el_12_280 ?_
        refine lv_bipush (v := 6) hx hb ddX12_isCompared_23 (by decide) ?_
        refine lv_icmp_ne (tgt := 34) hx hb ddX12_isCompared_25 (by decide) (fun h_25_300 => ?_) (fun h_25_300 => ?_)
        · have qk_25_307 : ¬ (v_12_278.toInt = 6) := (fun z => (zr_ne h_25_300) (z.trans (by decide)))
          refine lv_aload_n hx hb ddX12_isCompared_34 rfl (lv_at hl 1 rfl) ?_
          refine cg_get hC hO 0 (by decide) o0 rfl i_X12 33 (by decide) (List.mem_of_getElem? (i := 2) rfl) rfl ddX12_isCompared_35 ?_
          refine lv_iload_n hx hb ddX12_isCompared_38 rfl (lv_at hl 0 rfl) ?_
          have qe_39_310 : (c1 (v_7_229 : Int32).toNatClampNeg).toInt = (v_12_278 : Int32).toInt := by rw [el_12_280]
          refine cg_iald hC hO 1 (by decide) a1 (zi_in z_7_277 (by decide)) ddX12_isCompared_39 ?_
          refine cg_ev (v := v_12_278) el_12_280 ?_
          refine lv_iconst (v := 4) hx hb ddX12_isCompared_40 (by decide) ?_
          refine lv_icmp_ne (tgt := 48) hx hb ddX12_isCompared_41 (by decide) (fun h_41_311 => ?_) (fun h_41_311 => ?_)
          · have qk_41_312 : ¬ (v_12_278.toInt = 4) := (fun z => (zr_ne h_41_311) (z.trans (by decide)))
            refine lv_iconst (v := 0) hx hb ddX12_isCompared_48 (by decide) ?_
            exact cg_iret (nw := fun _ => 0) hC hr hlk hO.same rfl (Nat.le_of_ble_eq_true rfl) (Nat.le_of_ble_eq_true rfl) (⟨(zi_k (a := 0) (b := 1) (x := 0) rfl), rfl⟩) ddX12_isCompared_49
          · have qk_41_313 : v_12_278.toInt = 4 := (zr_eq h_41_311).trans (by decide)
            have q_41_314 := zr_eq h_41_311
            have z_41_315 : zi 4 4 v_12_278 := ze_eq q_41_314 z_12_279 (zi_k (a := 4) (b := 4) (x := 4) rfl)
            refine lv_iconst (v := 1) hx hb ddX12_isCompared_44 (by decide) ?_
            refine lv_goto (tgt := 49) hx hb ddX12_isCompared_45 (by decide) ?_
            exact cg_iret (nw := fun _ => 0) hC hr hlk hO.same rfl (Nat.le_of_ble_eq_true rfl) (Nat.le_of_ble_eq_true rfl) (⟨(zi_k (a := 0) (b := 1) (x := 1) rfl), rfl⟩) ddX12_isCompared_49
        · have qk_25_316 : v_12_278.toInt = 6 := (zr_eq h_25_300).trans (by decide)
          have q_25_317 := zr_eq h_25_300
          have z_25_318 : zi 6 6 v_12_278 := ze_eq q_25_317 z_12_279 (zi_k (a := 6) (b := 6) (x := 6) rfl)
          obtain ⟨v_28_319, e_28_320, z_28_321, q_28_322⟩ := zi_inc (e := (-1)) (f := 37) (-1) z_7_277 (by decide)
          refine lv_iinc (v := v_28_319) (lv' := [(1, .int v_28_319), (0, .ref (ad 0))]) hx hb ddX12_isCompared_28 hl (k := 0) rfl e_28_320 (by decide) rfl (fun ls hl => ?_)
          refine lv_goto (tgt := 7) hx hb ddX12_isCompared_31 (by decide) ?_
          exact ih_7_276 v_28_319 (zi_w (c := (-1)) (d := 38) z_28_321 (by decide)) (LK_dn lk_7_231 (by omega) (by omega)) (by omega) (zm_dn q_28_322 ((zi_w (c := (-1)) (d := 38) z_28_321 (by decide))).1 (by decide) mu_7_275) _ _ hO ls (lv_sub hl [0, 1] rfl)
  exact loop_7_273 (((v_5_140 : Int32).toInt - (-1) + 1).toNat + 1) v_5_140 (zi_w (c := (-1)) (d := 38) z_5_141 (by decide)) (LK_of hg_li0 (by omega)) (by omega) (Nat.lt_succ_self _) _ _ hO ls (lv_sub hl [0, 1] rfl)

