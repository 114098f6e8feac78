theorem ddX12_sight_0 : decode cX12_sight 0 = .ok (.iload_n 1, 1) := by decide +kernel
theorem ddX12_sight_1 : decode cX12_sight 1 = .ok (.iconst 0, 1) := by decide +kernel
theorem ddX12_sight_2 : decode cX12_sight 2 = .ok (.sipush 720, 3) := by decide +kernel
theorem ddX12_sight_5 : decode cX12_sight 5 = .ok (.invokestatic 366, 3) := by decide +kernel
theorem ddX12_sight_8 : decode cX12_sight 8 = .ok (.ifCond .eq 30, 3) := by decide +kernel
theorem ddX12_sight_11 : decode cX12_sight 11 = .ok (.aload_n 0, 1) := by decide +kernel
theorem ddX12_sight_12 : decode cX12_sight 12 = .ok (.iload_n 2, 1) := by decide +kernel
theorem ddX12_sight_13 : decode cX12_sight 13 = .ok (.invokevirtual 418, 3) := by decide +kernel
theorem ddX12_sight_16 : decode cX12_sight 16 = .ok (.ifCond .eq 22, 3) := by decide +kernel
theorem ddX12_sight_19 : decode cX12_sight 19 = .ok (.iload_n 3, 1) := by decide +kernel
theorem ddX12_sight_20 : decode cX12_sight 20 = .ok (.iconst 0, 1) := by decide +kernel
theorem ddX12_sight_21 : decode cX12_sight 21 = .ok (.bipush 20, 2) := by decide +kernel
theorem ddX12_sight_23 : decode cX12_sight 23 = .ok (.invokestatic 366, 3) := by decide +kernel
theorem ddX12_sight_26 : decode cX12_sight 26 = .ok (.ifCond .eq 12, 3) := by decide +kernel
theorem ddX12_sight_29 : decode cX12_sight 29 = .ok (.aload_n 0, 1) := by decide +kernel
theorem ddX12_sight_30 : decode cX12_sight 30 = .ok (.getfield 292, 3) := by decide +kernel
theorem ddX12_sight_33 : decode cX12_sight 33 = .ok (.bipush 30, 2) := by decide +kernel
theorem ddX12_sight_35 : decode cX12_sight 35 = .ok (.if_icmp .ne 5, 3) := by decide +kernel
theorem ddX12_sight_38 : decode cX12_sight 38 = .ok (.iconst (-1), 1) := by decide +kernel
theorem ddX12_sight_39 : decode cX12_sight 39 = .ok (.ireturn, 1) := by decide +kernel
theorem ddX12_sight_40 : decode cX12_sight 40 = .ok (.aload_n 0, 1) := by decide +kernel
theorem ddX12_sight_41 : decode cX12_sight 41 = .ok (.getfield 155, 3) := by decide +kernel
theorem ddX12_sight_44 : decode cX12_sight 44 = .ok (.aload_n 0, 1) := by decide +kernel
theorem ddX12_sight_45 : decode cX12_sight 45 = .ok (.getfield 292, 3) := by decide +kernel
theorem ddX12_sight_48 : decode cX12_sight 48 = .ok (.iload_n 1, 1) := by decide +kernel
theorem ddX12_sight_49 : decode cX12_sight 49 = .ok (.iastore, 1) := by decide +kernel
theorem ddX12_sight_50 : decode cX12_sight 50 = .ok (.aload_n 0, 1) := by decide +kernel
theorem ddX12_sight_51 : decode cX12_sight 51 = .ok (.getfield 158, 3) := by decide +kernel
theorem ddX12_sight_54 : decode cX12_sight 54 = .ok (.aload_n 0, 1) := by decide +kernel
theorem ddX12_sight_55 : decode cX12_sight 55 = .ok (.getfield 292, 3) := by decide +kernel
theorem ddX12_sight_58 : decode cX12_sight 58 = .ok (.iload_n 2, 1) := by decide +kernel
theorem ddX12_sight_59 : decode cX12_sight 59 = .ok (.iastore, 1) := by decide +kernel
theorem ddX12_sight_60 : decode cX12_sight 60 = .ok (.aload_n 0, 1) := by decide +kernel
theorem ddX12_sight_61 : decode cX12_sight 61 = .ok (.getfield 161, 3) := by decide +kernel
theorem ddX12_sight_64 : decode cX12_sight 64 = .ok (.aload_n 0, 1) := by decide +kernel
theorem ddX12_sight_65 : decode cX12_sight 65 = .ok (.getfield 292, 3) := by decide +kernel
theorem ddX12_sight_68 : decode cX12_sight 68 = .ok (.iload_n 3, 1) := by decide +kernel
theorem ddX12_sight_69 : decode cX12_sight 69 = .ok (.iastore, 1) := by decide +kernel
theorem ddX12_sight_70 : decode cX12_sight 70 = .ok (.aload_n 0, 1) := by decide +kernel
theorem ddX12_sight_71 : decode cX12_sight 71 = .ok (.getfield 164, 3) := by decide +kernel
theorem ddX12_sight_74 : decode cX12_sight 74 = .ok (.aload_n 0, 1) := by decide +kernel
theorem ddX12_sight_75 : decode cX12_sight 75 = .ok (.getfield 292, 3) := by decide +kernel
theorem ddX12_sight_78 : decode cX12_sight 78 = .ok (.aload_n 0, 1) := by decide +kernel
theorem ddX12_sight_79 : decode cX12_sight 79 = .ok (.getfield 455, 3) := by decide +kernel
theorem ddX12_sight_82 : decode cX12_sight 82 = .ok (.iastore, 1) := by decide +kernel
theorem ddX12_sight_83 : decode cX12_sight 83 = .ok (.aload_n 0, 1) := by decide +kernel
theorem ddX12_sight_84 : decode cX12_sight 84 = .ok (.getfield 167, 3) := by decide +kernel
theorem ddX12_sight_87 : decode cX12_sight 87 = .ok (.aload_n 0, 1) := by decide +kernel
theorem ddX12_sight_88 : decode cX12_sight 88 = .ok (.getfield 292, 3) := by decide +kernel
theorem ddX12_sight_91 : decode cX12_sight 91 = .ok (.iconst (-1), 1) := by decide +kernel
theorem ddX12_sight_92 : decode cX12_sight 92 = .ok (.iastore, 1) := by decide +kernel
theorem ddX12_sight_93 : decode cX12_sight 93 = .ok (.aload_n 0, 1) := by decide +kernel
theorem ddX12_sight_94 : decode cX12_sight 94 = .ok (.dup, 1) := by decide +kernel
theorem ddX12_sight_95 : decode cX12_sight 95 = .ok (.getfield 292, 3) := by decide +kernel
theorem ddX12_sight_98 : decode cX12_sight 98 = .ok (.iconst 1, 1) := by decide +kernel
theorem ddX12_sight_99 : decode cX12_sight 99 = .ok (.iadd, 1) := by decide +kernel
theorem ddX12_sight_100 : decode cX12_sight 100 = .ok (.putfield 292, 3) := by decide +kernel
theorem ddX12_sight_103 : decode cX12_sight 103 = .ok (.aload_n 0, 1) := by decide +kernel
theorem ddX12_sight_104 : decode cX12_sight 104 = .ok (.getfield 292, 3) := by decide +kernel
theorem ddX12_sight_107 : decode cX12_sight 107 = .ok (.iconst 1, 1) := by decide +kernel
theorem ddX12_sight_108 : decode cX12_sight 108 = .ok (.isub, 1) := by decide +kernel
theorem ddX12_sight_109 : decode cX12_sight 109 = .ok (.ireturn, 1) := by decide +kernel
def wq_k_X12_sight : List Cond := Cond.code yX12_sight cX12_sight 4 (some .int) :: (([Cond.methodLink RX12 366 yX12_isIn, Cond.static yX12_isIn, Cond.initialized RX12, Cond.code yX12_isIn cX12_isIn 3 (some .boolean), Cond.methodLink RX12 418 yX12_isBird, Cond.instanceMethod yX12_isBird, Cond.selects RX12 yX12_isBird yX12_isBird, Cond.code yX12_isBird cX12_isBird 2 (some .boolean), Cond.methodLink RX12 363 yX12_birdMany, Cond.instanceMethod yX12_birdMany, Cond.selects RX12 yX12_birdMany yX12_birdMany, Cond.code yX12_birdMany cX12_birdMany 1 (some .int), Cond.fieldLink RX12 20 "CrowTollModel" "birds" "[I", Cond.fieldLink RX12 286 "CrowTollModel" "bank" "I", Cond.fieldLink RX12 292 "CrowTollModel" "sights" "I", Cond.fieldLink RX12 155 "CrowTollModel" "gMinute" "[I", Cond.fieldLink RX12 158 "CrowTollModel" "gBird" "[I", Cond.fieldLink RX12 161 "CrowTollModel" "gCount" "[I", Cond.fieldLink RX12 164 "CrowTollModel" "gTold" "[I", Cond.fieldLink RX12 455 "CrowTollModel" "time" "I", Cond.fieldLink RX12 167 "CrowTollModel" "gUntold" "[I"] : List Cond) ++ wsX120)
set_option maxRecDepth 20000 in
theorem gr_k_X12_sight_k_X12_isIn : GoodIn wq_k_X12_sight wq_k_X12_isIn := List.forall_mem_cons.mpr ⟨⟨(List.mem_of_getElem? (i := 4) rfl), good_of_word rfl⟩, (fun _ h => absurd h List.not_mem_nil)⟩
set_option maxRecDepth 20000 in
theorem gq_k_X12_sight_k_X12_isIn_366 : GoodIn wq_k_X12_sight (va_wsS RX12 366 yX12_isIn wq_k_X12_isIn) := goodIn_app (List.forall_mem_cons.mpr ⟨⟨(List.mem_of_getElem? (i := 1) rfl), good_of_word rfl⟩, List.forall_mem_cons.mpr ⟨⟨(List.mem_of_getElem? (i := 2) rfl), good_of_word rfl⟩, List.forall_mem_cons.mpr ⟨⟨(List.mem_of_getElem? (i := 3) rfl), good_of_word rfl⟩, (fun _ h => absurd h List.not_mem_nil)⟩⟩⟩) gr_k_X12_sight_k_X12_isIn
set_option maxRecDepth 20000 in
theorem gr_k_X12_sight_k_X12_isBird : GoodIn wq_k_X12_sight wq_k_X12_isBird := List.forall_mem_cons.mpr ⟨⟨(List.mem_of_getElem? (i := 8) rfl), good_of_word rfl⟩, List.forall_mem_append.mpr ⟨List.forall_mem_cons.mpr ⟨⟨(List.mem_of_getElem? (i := 9) rfl), good_of_word rfl⟩, List.forall_mem_cons.mpr ⟨⟨(List.mem_of_getElem? (i := 10) rfl), good_of_word rfl⟩, List.forall_mem_cons.mpr ⟨⟨(List.mem_of_getElem? (i := 11) rfl), good_of_word rfl⟩, List.forall_mem_cons.mpr ⟨⟨(List.mem_of_getElem? (i := 3) rfl), good_of_word rfl⟩, List.forall_mem_cons.mpr ⟨⟨(List.mem_of_getElem? (i := 12) rfl), good_of_word rfl⟩, List.forall_mem_cons.mpr ⟨⟨(List.mem_of_getElem? (i := 13) rfl), good_of_word rfl⟩, List.forall_mem_cons.mpr ⟨⟨(List.mem_of_getElem? (i := 14) rfl), good_of_word rfl⟩, List.forall_mem_cons.mpr ⟨⟨(List.mem_of_getElem? (i := 1) rfl), good_of_word rfl⟩, List.forall_mem_cons.mpr ⟨⟨(List.mem_of_getElem? (i := 2) rfl), good_of_word rfl⟩, List.forall_mem_cons.mpr ⟨⟨(List.mem_of_getElem? (i := 4) rfl), good_of_word rfl⟩, (fun _ h => absurd h List.not_mem_nil)⟩⟩⟩⟩⟩⟩⟩⟩⟩⟩, fun w h => ⟨(fun w h => List.mem_cons_of_mem _ (List.mem_append_right _ h)) w h, good_of_word (List.all_eq_true.mp gw_X12 w h)⟩⟩⟩
set_option maxRecDepth 20000 in
theorem gq_k_X12_sight_k_X12_isBird_418 : GoodIn wq_k_X12_sight (wsV RX12 418 RX12 yX12_isBird wq_k_X12_isBird) := goodIn_app (List.forall_mem_cons.mpr ⟨⟨(List.mem_of_getElem? (i := 5) rfl), good_of_word rfl⟩, List.forall_mem_cons.mpr ⟨⟨(List.mem_of_getElem? (i := 6) rfl), good_of_word rfl⟩, List.forall_mem_cons.mpr ⟨⟨(List.mem_of_getElem? (i := 7) rfl), good_of_word rfl⟩, List.forall_mem_cons.mpr ⟨⟨(List.mem_of_getElem? (i := 3) rfl), good_of_word rfl⟩, (fun _ h => absurd h List.not_mem_nil)⟩⟩⟩⟩) gr_k_X12_sight_k_X12_isBird
set_option maxHeartbeats 8000000 in
set_option maxRecDepth 100000 in
theorem k_X12_sight (l : Launch) (D : va_G) (cy : Nat → ClassId) (ad : Nat → Nat) (g : Nat → va_E) {u0_0 : Value} {u0_1 : Value} {u0_2 : Value} {u0_3 : Value} {u0_4 : Value} {u0_5 : Value} {u0_6 : Value} {u0_7 : Value} {u0_8 : Value} {u0_9 : Value} {u0_10 : Value} {u0_12 : Value} {u0_13 : Value} {u0_14 : Value} {u0_15 : Value} {u0_16 : Value} {u0_17 : Value} {u0_18 : Value} {u0_19 : Value} {u0_20 : Value} {u0_21 : Value} {u0_22 : Value} {u0_23 : Value} {u0_24 : Value} {u0_25 : Value} {u0_26 : Value} {u0_27 : Value} {u0_28 : Value} {u0_29 : Value} {u0_30 : Value} {u0_31 : Value} {u0_32 : Value} {u0_33 : Value} {u0_34 : Value} {u0_35 : Value} {x0_36 : Int32} {u0_37 : Value} {u0_38 : Value} {u0_39 : Value} {u0_40 : Value} {u0_41 : Value} {u0_42 : Value} {u0_43 : Value} {u0_44 : Value} {u0_45 : Value} {u0_46 : Value} {u0_47 : Value} {u0_48 : Value} {u0_49 : Value} {u0_50 : Value} {u0_51 : Value} {u0_52 : Value} {u0_53 : Value} {u0_54 : Value} {u0_55 : Value} {u0_56 : Value} {u0_57 : Value} {u0_58 : Value} {u0_59 : Value} {u0_60 : Value} {u0_61 : Value} {u0_62 : Value} {u0_63 : Value} {u0_64 : Value} {x0_70 : Int32} {x0_71 : Int32} {u0_72 : Value} {u0_73 : Value} {c1 : Nat → Int32} {c2 : Nat → Int32} {c3 : Nat → Int32} {c4 : Nat → Int32} {c5 : Nat → Int32} {c6 : Nat → Int32} {minute : Int32} {bx : Int32} {its : Int32} (o0 : g 0 = .inr (12, [u0_0, u0_1, u0_2, u0_3, u0_4, u0_5, u0_6, u0_7, u0_8, u0_9, u0_10, .ref (ad 1), u0_12, u0_13, u0_14, u0_15, u0_16, u0_17, u0_18, u0_19, u0_20, u0_21, u0_22, u0_23, u0_24, u0_25, u0_26, u0_27, u0_28, u0_29, u0_30, u0_31, u0_32, u0_33, u0_34, u0_35, .int x0_36, u0_37, u0_38, u0_39, u0_40, u0_41, u0_42, u0_43, u0_44, u0_45, u0_46, u0_47, u0_48, u0_49, u0_50, u0_51, u0_52, u0_53, u0_54, u0_55, u0_56, u0_57, u0_58, u0_59, u0_60, u0_61, u0_62, u0_63, u0_64, .ref (ad 2), .ref (ad 3), .ref (ad 4), .ref (ad 5), .ref (ad 6), .int x0_70, .int x0_71, u0_72, u0_73])) (a1 : g 1 = .inl (cy 0, 2, .inl c1)) (a2 : g 2 = .inl (cy 0, 30, .inl c2)) (a3 : g 3 = .inl (cy 0, 30, .inl c3)) (a4 : g 4 = .inl (cy 0, 30, .inl c4)) (a5 : g 5 = .inl (cy 0, 30, .inl c5)) (a6 : g 6 = .inl (cy 0, 30, .inl c6)) (b0_36 : zi 0 1 x0_36) (b0_70 : zi 0 30 x0_70) (b0_71 : zi 0 100000 x0_71) (ha1 : za 0 5 c1) (ha3 : za 0 4 c3) : cMi l yX12_sight wq_k_X12_sight { frames := 2, cells := 0, slots := 0, locals := 43 } 7 0 0 0 D cy ad g [.ref (ad 0), .int minute, .int bx, .int its] (fun r nw lu => ∃ (y0_70 : Int32) (d2 : Nat → Int32) (d3 : Nat → Int32) (d4 : Nat → Int32) (d5 : Nat → Int32) (d6 : Nat → Int32), (zi 0 30 y0_70) ∧ (za 0 4 d3) ∧ (zi (-1) 29 r) ∧ (lu = [(0, .inr (12, [u0_0, u0_1, u0_2, u0_3, u0_4, u0_5, u0_6, u0_7, u0_8, u0_9, u0_10, .ref (ad 1), u0_12, u0_13, u0_14, u0_15, u0_16, u0_17, u0_18, u0_19, u0_20, u0_21, u0_22, u0_23, u0_24, u0_25, u0_26, u0_27, u0_28, u0_29, u0_30, u0_31, u0_32, u0_33, u0_34, u0_35, .int x0_36, u0_37, u0_38, u0_39, u0_40, u0_41, u0_42, u0_43, u0_44, u0_45, u0_46, u0_47, u0_48, u0_49, u0_50, u0_51, u0_52, u0_53, u0_54, u0_55, u0_56, u0_57, u0_58, u0_59, u0_60, u0_61, u0_62, u0_63, u0_64, .ref (ad 2), .ref (ad 3), .ref (ad 4), .ref (ad 5), .ref (ad 6), .int y0_70, .int x0_71, u0_72, u0_73])), (2, .inl (cy 0, 30, .inl d2)), (3, .inl (cy 0, 30, .inl d3)), (4, .inl (cy 0, 30, .inl d4)), (5, .inl (cy 0, 30, .inl d5)), (6, .inl (cy 0, 30, .inl d6))])) := by
  refine cM_of (Qc := fun A => cQi (fun r nw lu => ∃ (y0_70 : Int32) (d2 : Nat → Int32) (d3 : Nat → Int32) (d4 : Nat → Int32) (d5 : Nat → Int32) (d6 : Nat → Int32), (zi 0 30 y0_70) ∧ (za 0 4 d3) ∧ (zi (-1) 29 r) ∧ (lu = [(0, .inr (12, [u0_0, u0_1, u0_2, u0_3, u0_4, u0_5, u0_6, u0_7, u0_8, u0_9, u0_10, .ref (ad 1), u0_12, u0_13, u0_14, u0_15, u0_16, u0_17, u0_18, u0_19, u0_20, u0_21, u0_22, u0_23, u0_24, u0_25, u0_26, u0_27, u0_28, u0_29, u0_30, u0_31, u0_32, u0_33, u0_34, u0_35, .int x0_36, u0_37, u0_38, u0_39, u0_40, u0_41, u0_42, u0_43, u0_44, u0_45, u0_46, u0_47, u0_48, u0_49, u0_50, u0_51, u0_52, u0_53, u0_54, u0_55, u0_56, u0_57, u0_58, u0_59, u0_60, u0_61, u0_62, u0_63, u0_64, .ref (ad 2), .ref (ad 3), .ref (ad 4), .ref (ad 5), .ref (ad 6), .int y0_70, .int x0_71, u0_72, u0_73])), (2, .inl (cy 0, 30, .inl d2)), (3, .inl (cy 0, 30, .inl d3)), (4, .inl (cy 0, 30, .inl d4)), (5, .inl (cy 0, 30, .inl d5)), (6, .inl (cy 0, 30, .inl d6))])) D 7 0 ad g A) (cc := cX12_sight) (maxL := 4) (ret := (some .int)) (by decide) rfl (Nat.le_of_ble_eq_true rfl) ?_
  intro p e s m below meth c A hC hr hlk hnm hO ls hl
  have hC : CallFix p m c cX12_sight 4 s [.ref (ad 0), .int minute, .int bx, .int its].toArray wq_k_X12_sight RX12 := hC
  obtain ⟨hx, hb, hml, hown, hts⟩ := id hC
  have hl : lv_has ls 4 [(0, .ref (ad 0)), (1, .int minute), (2, .int bx), (3, .int its)] := hl
  have i_X12 : ∀ w ∈ wsX120, w ∈ wq_k_X12_sight := fun w h => List.mem_cons_of_mem _ (List.mem_append_right _ h)
  have hO := hO.notes [(0, .inr (12, [u0_0, u0_1, u0_2, u0_3, u0_4, u0_5, u0_6, u0_7, u0_8, u0_9, u0_10, .ref (ad 1), u0_12, u0_13, u0_14, u0_15, u0_16, u0_17, u0_18, u0_19, u0_20, u0_21, u0_22, u0_23, u0_24, u0_25, u0_26, u0_27, u0_28, u0_29, u0_30, u0_31, u0_32, u0_33, u0_34, u0_35, .int x0_36, u0_37, u0_38, u0_39, u0_40, u0_41, u0_42, u0_43, u0_44, u0_45, u0_46, u0_47, u0_48, u0_49, u0_50, u0_51, u0_52, u0_53, u0_54, u0_55, u0_56, u0_57, u0_58, u0_59, u0_60, u0_61, u0_62, u0_63, u0_64, .ref (ad 2), .ref (ad 3), .ref (ad 4), .ref (ad 5), .ref (ad 6), .int x0_70, .int x0_71, u0_72, u0_73])), (2, .inl (cy 0, 30, .inl c2)), (3, .inl (cy 0, 30, .inl c3)), (4, .inl (cy 0, 30, .inl c4)), (5, .inl (cy 0, 30, .inl c5)), (6, .inl (cy 0, 30, .inl c6))] (List.forall_mem_cons.mpr ⟨o0, List.forall_mem_cons.mpr ⟨a2, List.forall_mem_cons.mpr ⟨a3, List.forall_mem_cons.mpr ⟨a4, List.forall_mem_cons.mpr ⟨a5, List.forall_mem_cons.mpr ⟨a6, (fun _ h => absurd h List.not_mem_nil)⟩⟩⟩⟩⟩⟩)
  refine lv_iload_n hx hb ddX12_sight_0 rfl (lv_at hl 1 rfl) ?_
  refine lv_iconst (v := 0) hx hb ddX12_sight_1 (by decide) ?_
  refine lv_sipush (v := 720) hx hb ddX12_sight_2 (by decide) ?_
  refine cg_Si (As := [.int minute, .int 0, .int 720]) (rest := []) (mc := 0) (ms := 0) (rm := { frames := 0, cells := 0, slots := 0, locals := 0 }) hC hl.1 hO [] (by decide +kernel) (k_X12_isIn l D cy _ _ (v := minute) (least := 0) (most := 720) ) gq_k_X12_sight_k_X12_isIn_366 rfl rfl rfl 3 (by decide +kernel) ⟨Nat.le_of_ble_eq_true rfl, Nat.le_of_ble_eq_true rfl⟩ rfl rfl (Nat.le_of_ble_eq_true rfl) ddX12_sight_5 ⟨Nat.le_of_ble_eq_true rfl, Nat.le_of_ble_eq_true rfl⟩ (fun r_5_93 nw_5_91 l_5_92 H locs hw hO => ?_)
  rcases hw with hw | hw
  · obtain ⟨q_5_94, q_5_95, rfl, rfl⟩ := hw
    have hO : cO D cy A s.heap s 7 ad (cup [(0, .inr (12, [u0_0, u0_1, u0_2, u0_3, u0_4, u0_5, u0_6, u0_7, u0_8, u0_9, u0_10, .ref (ad 1), u0_12, u0_13, u0_14, u0_15, u0_16, u0_17, u0_18, u0_19, u0_20, u0_21, u0_22, u0_23, u0_24, u0_25, u0_26, u0_27, u0_28, u0_29, u0_30, u0_31, u0_32, u0_33, u0_34, u0_35, .int x0_36, u0_37, u0_38, u0_39, u0_40, u0_41, u0_42, u0_43, u0_44, u0_45, u0_46, u0_47, u0_48, u0_49, u0_50, u0_51, u0_52, u0_53, u0_54, u0_55, u0_56, u0_57, u0_58, u0_59, u0_60, u0_61, u0_62, u0_63, u0_64, .ref (ad 2), .ref (ad 3), .ref (ad 4), .ref (ad 5), .ref (ad 6), .int x0_70, .int x0_71, u0_72, u0_73])), (2, .inl (cy 0, 30, .inl c2)), (3, .inl (cy 0, 30, .inl c3)), (4, .inl (cy 0, 30, .inl c4)), (5, .inl (cy 0, 30, .inl c5)), (6, .inl (cy 0, 30, .inl c6))] g) _ _ := hO
    have q_5_96 := q_5_94
    have z_5_97 : zi 0 2147483647 minute := zd_le q_5_96 (zi_k (a := 0) (b := 0) (x := 0) rfl) (zi_all minute) (by decide)
    have q_5_98 := q_5_95
    have z_5_99 : zi 0 720 minute := zu_le q_5_98 z_5_97 (zi_k (a := 720) (b := 720) (x := 720) rfl) (by decide)
    refine lv_if_eq (tgt := 38) hx hb ddX12_sight_8 (by decide) (fun h => absurd h (by decide)) (fun _ => ?_)
    refine lv_aload_n hx hb ddX12_sight_11 rfl (lv_at hl 0 rfl) ?_
    refine lv_iload_n hx hb ddX12_sight_12 rfl (lv_at hl 2 rfl) ?_
    refine cg_Vi (As := [.int bx]) (rest := []) (mc := 0) (ms := 0) (rm := { frames := 1, cells := 0, slots := 0, locals := 22 }) hC hl.1 hO [0, 1] (by decide +kernel) (k_X12_isBird l D cy _ _ (u0_0 := u0_0) (u0_1 := u0_1) (u0_2 := u0_2) (u0_3 := u0_3) (u0_4 := u0_4) (u0_5 := u0_5) (u0_6 := u0_6) (u0_7 := u0_7) (u0_8 := u0_8) (u0_9 := u0_9) (u0_10 := u0_10) (c1 := c1) (u0_12 := u0_12) (u0_13 := u0_13) (u0_14 := u0_14) (u0_15 := u0_15) (u0_16 := u0_16) (u0_17 := u0_17) (u0_18 := u0_18) (u0_19 := u0_19) (u0_20 := u0_20) (u0_21 := u0_21) (u0_22 := u0_22) (u0_23 := u0_23) (u0_24 := u0_24) (u0_25 := u0_25) (u0_26 := u0_26) (u0_27 := u0_27) (u0_28 := u0_28) (u0_29 := u0_29) (u0_30 := u0_30) (u0_31 := u0_31) (u0_32 := u0_32) (u0_33 := u0_33) (u0_34 := u0_34) (u0_35 := u0_35) (x0_36 := x0_36) (u0_37 := u0_37) (u0_38 := u0_38) (u0_39 := u0_39) (u0_40 := u0_40) (u0_41 := u0_41) (u0_42 := u0_42) (u0_43 := u0_43) (u0_44 := u0_44) (u0_45 := u0_45) (u0_46 := u0_46) (u0_47 := u0_47) (u0_48 := u0_48) (u0_49 := u0_49) (u0_50 := u0_50) (u0_51 := u0_51) (u0_52 := u0_52) (u0_53 := u0_53) (u0_54 := u0_54) (u0_55 := u0_55) (u0_56 := u0_56) (u0_57 := u0_57) (u0_58 := u0_58) (u0_59 := u0_59) (u0_60 := u0_60) (u0_61 := u0_61) (u0_62 := u0_62) (u0_63 := u0_63) (u0_64 := u0_64) (u0_65 := .ref (ad 2)) (u0_66 := .ref (ad 3)) (u0_67 := .ref (ad 4)) (u0_68 := .ref (ad 5)) (u0_69 := .ref (ad 6)) (u0_70 := .int x0_70) (u0_71 := .int x0_71) (u0_72 := u0_72) (u0_73 := u0_73) (n := bx) rfl a1 b0_36 ha1) gq_k_X12_sight_k_X12_isBird_418 rfl rfl rfl 1 (by decide +kernel) ⟨Nat.le_of_ble_eq_true rfl, Nat.le_of_ble_eq_true rfl⟩ rfl (by decide) rfl rfl rfl (Nat.le_of_ble_eq_true rfl) ddX12_sight_13 ⟨Nat.le_of_ble_eq_true rfl, Nat.le_of_ble_eq_true rfl⟩ (fun r_13_102 nw_13_100 l_13_101 H locs hw hO => ?_)
    rcases hw with hw | hw
    · obtain ⟨z_13_103, q_13_104, rfl, rfl⟩ := hw
      have hO : cO D cy A s.heap s 7 ad (cup [(0, .inr (12, [u0_0, u0_1, u0_2, u0_3, u0_4, u0_5, u0_6, u0_7, u0_8, u0_9, u0_10, .ref (ad 1), u0_12, u0_13, u0_14, u0_15, u0_16, u0_17, u0_18, u0_19, u0_20, u0_21, u0_22, u0_23, u0_24, u0_25, u0_26, u0_27, u0_28, u0_29, u0_30, u0_31, u0_32, u0_33, u0_34, u0_35, .int x0_36, u0_37, u0_38, u0_39, u0_40, u0_41, u0_42, u0_43, u0_44, u0_45, u0_46, u0_47, u0_48, u0_49, u0_50, u0_51, u0_52, u0_53, u0_54, u0_55, u0_56, u0_57, u0_58, u0_59, u0_60, u0_61, u0_62, u0_63, u0_64, .ref (ad 2), .ref (ad 3), .ref (ad 4), .ref (ad 5), .ref (ad 6), .int x0_70, .int x0_71, u0_72, u0_73])), (2, .inl (cy 0, 30, .inl c2)), (3, .inl (cy 0, 30, .inl c3)), (4, .inl (cy 0, 30, .inl c4)), (5, .inl (cy 0, 30, .inl c5)), (6, .inl (cy 0, 30, .inl c6))] g) _ _ := hO
      have q_13_105 := q_13_104
      refine lv_if_eq (tgt := 38) hx hb ddX12_sight_16 (by decide) (fun h => absurd h (by decide)) (fun _ => ?_)
      refine lv_iload_n hx hb ddX12_sight_19 rfl (lv_at hl 3 rfl) ?_
      refine lv_iconst (v := 0) hx hb ddX12_sight_20 (by decide) ?_
      refine lv_bipush (v := 20) hx hb ddX12_sight_21 (by decide) ?_
      refine cg_Si (As := [.int its, .int 0, .int 20]) (rest := []) (mc := 0) (ms := 0) (rm := { frames := 0, cells := 0, slots := 0, locals := 0 }) hC hl.1 hO [] (by decide +kernel) (k_X12_isIn l D cy _ _ (v := its) (least := 0) (most := 20) ) gq_k_X12_sight_k_X12_isIn_366 rfl rfl rfl 3 (by decide +kernel) ⟨Nat.le_of_ble_eq_true rfl, Nat.le_of_ble_eq_true rfl⟩ rfl rfl (Nat.le_of_ble_eq_true rfl) ddX12_sight_23 ⟨Nat.le_of_ble_eq_true rfl, Nat.le_of_ble_eq_true rfl⟩ (fun r_23_108 nw_23_106 l_23_107 H locs hw hO => ?_)
      rcases hw with hw | hw
      · obtain ⟨q_23_109, q_23_110, rfl, rfl⟩ := hw
        have hO : cO D cy A s.heap s 7 ad (cup [(0, .inr (12, [u0_0, u0_1, u0_2, u0_3, u0_4, u0_5, u0_6, u0_7, u0_8, u0_9, u0_10, .ref (ad 1), u0_12, u0_13, u0_14, u0_15, u0_16, u0_17, u0_18, u0_19, u0_20, u0_21, u0_22, u0_23, u0_24, u0_25, u0_26, u0_27, u0_28, u0_29, u0_30, u0_31, u0_32, u0_33, u0_34, u0_35, .int x0_36, u0_37, u0_38, u0_39, u0_40, u0_41, u0_42, u0_43, u0_44, u0_45, u0_46, u0_47, u0_48, u0_49, u0_50, u0_51, u0_52, u0_53, u0_54, u0_55, u0_56, u0_57, u0_58, u0_59, u0_60, u0_61, u0_62, u0_63, u0_64, .ref (ad 2), .ref (ad 3), .ref (ad 4), .ref (ad 5), .ref (ad 6), .int x0_70, .int x0_71, u0_72, u0_73])), (2, .inl (cy 0, 30, .inl c2)), (3, .inl (cy 0, 30, .inl c3)), (4, .inl (cy 0, 30, .inl c4)), (5, .inl (cy 0, 30, .inl c5)), (6, .inl (cy 0, 30, .inl c6))] g) _ _ := hO
        have q_23_111 := q_23_109
        have z_23_112 : zi 0 2147483647 its := zd_le q_23_111 (zi_k (a := 0) (b := 0) (x := 0) rfl) (zi_all its) (by decide)
        have q_23_113 := q_23_110
        have z_23_114 : zi 0 20 its := zu_le q_23_113 z_23_112 (zi_k (a := 20) (b := 20) (x := 20) rfl) (by decide)
        refine lv_if_eq (tgt := 38) hx hb ddX12_sight_26 (by decide) (fun h => absurd h (by decide)) (fun _ => ?_)
        refine lv_aload_n hx hb ddX12_sight_29 rfl (lv_at hl 0 rfl) ?_
        refine cg_get hC hO 0 (by decide) rfl rfl i_X12 70 (by decide) (List.mem_of_getElem? (i := 15) rfl) rfl ddX12_sight_30 ?_
        refine lv_bipush (v := 30) hx hb ddX12_sight_33 (by decide) ?_
        refine lv_icmp_ne (tgt := 40) hx hb ddX12_sight_35 (by decide) (fun h_35_115 => ?_) (fun h_35_115 => ?_)
        · have q_35_116 := zr_ne h_35_115
          have z_35_117 : zi 0 29 x0_70 := zn_hi q_35_116 b0_70 (zi_k (a := 30) (b := 30) (x := 30) rfl) (by decide)
          refine lv_aload_n hx hb ddX12_sight_40 rfl (lv_at hl 0 rfl) ?_
          refine cg_get hC hO 0 (by decide) rfl rfl i_X12 65 (by decide) (List.mem_of_getElem? (i := 16) rfl) rfl ddX12_sight_41 ?_
          refine lv_aload_n hx hb ddX12_sight_44 rfl (lv_at hl 0 rfl) ?_
          refine cg_get hC hO 0 (by decide) rfl rfl i_X12 70 (by decide) (List.mem_of_getElem? (i := 15) rfl) rfl ddX12_sight_45 ?_
          refine lv_iload_n hx hb ddX12_sight_48 rfl (lv_at hl 1 rfl) ?_
          refine zg_iast hC hO 2 (by decide) rfl (za_all _) (zi_w (c := (-2147483648)) (d := 2147483647) z_5_99 (by decide)) (zi_in z_35_117 (by decide)) ddX12_sight_49 (fun H locs c_49_118 zc_49_119 hO => ?_)
          have hO : cO D cy A s.heap s 7 ad (cup [(0, .inr (12, [u0_0, u0_1, u0_2, u0_3, u0_4, u0_5, u0_6, u0_7, u0_8, u0_9, u0_10, .ref (ad 1), u0_12, u0_13, u0_14, u0_15, u0_16, u0_17, u0_18, u0_19, u0_20, u0_21, u0_22, u0_23, u0_24, u0_25, u0_26, u0_27, u0_28, u0_29, u0_30, u0_31, u0_32, u0_33, u0_34, u0_35, .int x0_36, u0_37, u0_38, u0_39, u0_40, u0_41, u0_42, u0_43, u0_44, u0_45, u0_46, u0_47, u0_48, u0_49, u0_50, u0_51, u0_52, u0_53, u0_54, u0_55, u0_56, u0_57, u0_58, u0_59, u0_60, u0_61, u0_62, u0_63, u0_64, .ref (ad 2), .ref (ad 3), .ref (ad 4), .ref (ad 5), .ref (ad 6), .int x0_70, .int x0_71, u0_72, u0_73])), (2, .inl (cy 0, 30, .inl c_49_118)), (3, .inl (cy 0, 30, .inl c3)), (4, .inl (cy 0, 30, .inl c4)), (5, .inl (cy 0, 30, .inl c5)), (6, .inl (cy 0, 30, .inl c6))] g) _ _ := hO
          refine lv_aload_n hx hb ddX12_sight_50 rfl (lv_at hl 0 rfl) ?_
          refine cg_get hC hO 0 (by decide) rfl rfl i_X12 66 (by decide) (List.mem_of_getElem? (i := 17) rfl) rfl ddX12_sight_51 ?_
          refine lv_aload_n hx hb ddX12_sight_54 rfl (lv_at hl 0 rfl) ?_
          refine cg_get hC hO 0 (by decide) rfl rfl i_X12 70 (by decide) (List.mem_of_getElem? (i := 15) rfl) rfl ddX12_sight_55 ?_
          refine lv_iload_n hx hb ddX12_sight_58 rfl (lv_at hl 2 rfl) ?_
          refine zg_iast hC hO 3 (by decide) rfl ha3 z_13_103 (zi_in z_35_117 (by decide)) ddX12_sight_59 (fun H locs c_59_120 zc_59_121 hO => ?_)
          have hO : cO D cy A s.heap s 7 ad (cup [(0, .inr (12, [u0_0, u0_1, u0_2, u0_3, u0_4, u0_5, u0_6, u0_7, u0_8, u0_9, u0_10, .ref (ad 1), u0_12, u0_13, u0_14, u0_15, u0_16, u0_17, u0_18, u0_19, u0_20, u0_21, u0_22, u0_23, u0_24, u0_25, u0_26, u0_27, u0_28, u0_29, u0_30, u0_31, u0_32, u0_33, u0_34, u0_35, .int x0_36, u0_37, u0_38, u0_39, u0_40, u0_41, u0_42, u0_43, u0_44, u0_45, u0_46, u0_47, u0_48, u0_49, u0_50, u0_51, u0_52, u0_53, u0_54, u0_55, u0_56, u0_57, u0_58, u0_59, u0_60, u0_61, u0_62, u0_63, u0_64, .ref (ad 2), .ref (ad 3), .ref (ad 4), .ref (ad 5), .ref (ad 6), .int x0_70, .int x0_71, u0_72, u0_73])), (2, .inl (cy 0, 30, .inl c_49_118)), (3, .inl (cy 0, 30, .inl c_59_120)), (4, .inl (cy 0, 30, .inl c4)), (5, .inl (cy 0, 30, .inl c5)), (6, .inl (cy 0, 30, .inl c6))] g) _ _ := hO
          refine lv_aload_n hx hb ddX12_sight_60 rfl (lv_at hl 0 rfl) ?_
          refine cg_get hC hO 0 (by decide) rfl rfl i_X12 67 (by decide) (List.mem_of_getElem? (i := 18) rfl) rfl ddX12_sight_61 ?_
          refine lv_aload_n hx hb ddX12_sight_64 rfl (lv_at hl 0 rfl) ?_
          refine cg_get hC hO 0 (by decide) rfl rfl i_X12 70 (by decide) (List.mem_of_getElem? (i := 15) rfl) rfl ddX12_sight_65 ?_
          refine lv_iload_n hx hb ddX12_sight_68 rfl (lv_at hl 3 rfl) ?_
          refine zg_iast hC hO 4 (by decide) rfl (za_all _) (zi_w (c := (-2147483648)) (d := 2147483647) z_23_114 (by decide)) (zi_in z_35_117 (by decide)) ddX12_sight_69 (fun H locs c_69_122 zc_69_123 hO => ?_)
          have hO : cO D cy A s.heap s 7 ad (cup [(0, .inr (12, [u0_0, u0_1, u0_2, u0_3, u0_4, u0_5, u0_6, u0_7, u0_8, u0_9, u0_10, .ref (ad 1), u0_12, u0_13, u0_14, u0_15, u0_16, u0_17, u0_18, u0_19, u0_20, u0_21, u0_22, u0_23, u0_24, u0_25, u0_26, u0_27, u0_28, u0_29, u0_30, u0_31, u0_32, u0_33, u0_34, u0_35, .int x0_36, u0_37, u0_38, u0_39, u0_40, u0_41, u0_42, u0_43, u0_44, u0_45, u0_46, u0_47, u0_48, u0_49, u0_50, u0_51, u0_52, u0_53, u0_54, u0_55, u0_56, u0_57, u0_58, u0_59, u0_60, u0_61, u0_62, u0_63, u0_64, .ref (ad 2), .ref (ad 3), .ref (ad 4), .ref (ad 5), .ref (ad 6), .int x0_70, .int x0_71, u0_72, u0_73])), (2, .inl (cy 0, 30, .inl c_49_118)), (3, .inl (cy 0, 30, .inl c_59_120)), (4, .inl (cy 0, 30, .inl c_69_122)), (5, .inl (cy 0, 30, .inl c5)), (6, .inl (cy 0, 30, .inl c6))] g) _ _ := hO
          refine lv_aload_n hx hb ddX12_sight_70 rfl (lv_at hl 0 rfl) ?_
          refine cg_get hC hO 0 (by decide) rfl rfl i_X12 68 (by decide) (List.mem_of_getElem? (i := 19) rfl) rfl ddX12_sight_71 ?_
          refine lv_aload_n hx hb ddX12_sight_74 rfl (lv_at hl 0 rfl) ?_
          refine cg_get hC hO 0 (by decide) rfl rfl i_X12 70 (by decide) (List.mem_of_getElem? (i := 15) rfl) rfl ddX12_sight_75 ?_
          refine lv_aload_n hx hb ddX12_sight_78 rfl (lv_at hl 0 rfl) ?_
          refine cg_get hC hO 0 (by decide) rfl rfl i_X12 71 (by decide) (List.mem_of_getElem? (i := 20) rfl) rfl ddX12_sight_79 ?_
          refine zg_iast hC hO 5 (by decide) rfl (za_all _) (zi_w (c := (-2147483648)) (d := 2147483647) b0_71 (by decide)) (zi_in z_35_117 (by decide)) ddX12_sight_82 (fun H locs c_82_124 zc_82_125 hO => ?_)
          have hO : cO D cy A s.heap s 7 ad (cup [(0, .inr (12, [u0_0, u0_1, u0_2, u0_3, u0_4, u0_5, u0_6, u0_7, u0_8, u0_9, u0_10, .ref (ad 1), u0_12, u0_13, u0_14, u0_15, u0_16, u0_17, u0_18, u0_19, u0_20, u0_21, u0_22, u0_23, u0_24, u0_25, u0_26, u0_27, u0_28, u0_29, u0_30, u0_31, u0_32, u0_33, u0_34, u0_35, .int x0_36, u0_37, u0_38, u0_39, u0_40, u0_41, u0_42, u0_43, u0_44, u0_45, u0_46, u0_47, u0_48, u0_49, u0_50, u0_51, u0_52, u0_53, u0_54, u0_55, u0_56, u0_57, u0_58, u0_59, u0_60, u0_61, u0_62, u0_63, u0_64, .ref (ad 2), .ref (ad 3), .ref (ad 4), .ref (ad 5), .ref (ad 6), .int x0_70, .int x0_71, u0_72, u0_73])), (2, .inl (cy 0, 30, .inl c_49_118)), (3, .inl (cy 0, 30, .inl c_59_120)), (4, .inl (cy 0, 30, .inl c_69_122)), (5, .inl (cy 0, 30, .inl c_82_124)), (6, .inl (cy 0, 30, .inl c6))] g) _ _ := hO
          refine lv_aload_n hx hb ddX12_sight_83 rfl (lv_at hl 0 rfl) ?_
          refine cg_get hC hO 0 (by decide) rfl rfl i_X12 69 (by decide) (List.mem_of_getElem? (i := 21) rfl) rfl ddX12_sight_84 ?_
          refine lv_aload_n hx hb ddX12_sight_87 rfl (lv_at hl 0 rfl) ?_
          refine cg_get hC hO 0 (by decide) rfl rfl i_X12 70 (by decide) (List.mem_of_getElem? (i := 15) rfl) rfl ddX12_sight_88 ?_
          refine lv_iconst (v := (-1)) hx hb ddX12_sight_91 (by decide) ?_
          refine zg_iast hC hO 6 (by decide) rfl (za_all _) (zi_k (a := (-2147483648)) (b := 2147483647) (x := (-1)) rfl) (zi_in z_35_117 (by decide)) ddX12_sight_92 (fun H locs c_92_126 zc_92_127 hO => ?_)
          have hO : cO D cy A s.heap s 7 ad (cup [(0, .inr (12, [u0_0, u0_1, u0_2, u0_3, u0_4, u0_5, u0_6, u0_7, u0_8, u0_9, u0_10, .ref (ad 1), u0_12, u0_13, u0_14, u0_15, u0_16, u0_17, u0_18, u0_19, u0_20, u0_21, u0_22, u0_23, u0_24, u0_25, u0_26, u0_27, u0_28, u0_29, u0_30, u0_31, u0_32, u0_33, u0_34, u0_35, .int x0_36, u0_37, u0_38, u0_39, u0_40, u0_41, u0_42, u0_43, u0_44, u0_45, u0_46, u0_47, u0_48, u0_49, u0_50, u0_51, u0_52, u0_53, u0_54, u0_55, u0_56, u0_57, u0_58, u0_59, u0_60, u0_61, u0_62, u0_63, u0_64, .ref (ad 2), .ref (ad 3), .ref (ad 4), .ref (ad 5), .ref (ad 6), .int x0_70, .int x0_71, u0_72, u0_73])), (2, .inl (cy 0, 30, .inl c_49_118)), (3, .inl (cy 0, 30, .inl c_59_120)), (4, .inl (cy 0, 30, .inl c_69_122)), (5, .inl (cy 0, 30, .inl c_82_124)), (6, .inl (cy 0, 30, .inl c_92_126))] g) _ _ := hO
          refine lv_aload_n hx hb ddX12_sight_93 rfl (lv_at hl 0 rfl) ?_
          refine lv_dup hx hb ddX12_sight_94 rfl ?_
          refine cg_get hC hO 0 (by decide) rfl rfl i_X12 70 (by decide) (List.mem_of_getElem? (i := 15) rfl) rfl ddX12_sight_95 ?_
          refine lv_iconst (v := 1) hx hb ddX12_sight_98 (by decide) ?_
          refine lv_iadd hx hb ddX12_sight_99 ?_
          refine zg_top2 (P := fun v => zi 1 30 v) (E := fun v => v.toInt = x0_70.toInt + 1) (zi_addk z_35_117 (n := 1) (by decide) (by decide)) (fun v_99_128 z_99_129 q_99_130 => ?_)
          refine cg_put hC hO 0 (by decide) rfl rfl i_X12 tyX12_ok nmX12 70 (by decide) (List.mem_of_getElem? (i := 15) rfl) rfl rfl rfl (Nat.le_of_ble_eq_true rfl) ddX12_sight_100 (fun H locs hO => ?_)
          have hO : cO D cy A s.heap s 7 ad (cup [(0, .inr (12, [u0_0, u0_1, u0_2, u0_3, u0_4, u0_5, u0_6, u0_7, u0_8, u0_9, u0_10, .ref (ad 1), u0_12, u0_13, u0_14, u0_15, u0_16, u0_17, u0_18, u0_19, u0_20, u0_21, u0_22, u0_23, u0_24, u0_25, u0_26, u0_27, u0_28, u0_29, u0_30, u0_31, u0_32, u0_33, u0_34, u0_35, .int x0_36, u0_37, u0_38, u0_39, u0_40, u0_41, u0_42, u0_43, u0_44, u0_45, u0_46, u0_47, u0_48, u0_49, u0_50, u0_51, u0_52, u0_53, u0_54, u0_55, u0_56, u0_57, u0_58, u0_59, u0_60, u0_61, u0_62, u0_63, u0_64, .ref (ad 2), .ref (ad 3), .ref (ad 4), .ref (ad 5), .ref (ad 6), .int v_99_128, .int x0_71, u0_72, u0_73])), (2, .inl (cy 0, 30, .inl c_49_118)), (3, .inl (cy 0, 30, .inl c_59_120)), (4, .inl (cy 0, 30, .inl c_69_122)), (5, .inl (cy 0, 30, .inl c_82_124)), (6, .inl (cy 0, 30, .inl c_92_126))] g) _ _ := hO
          refine lv_aload_n hx hb ddX12_sight_103 rfl (lv_at hl 0 rfl) ?_
          refine cg_get hC hO 0 (by decide) rfl rfl i_X12 70 (by decide) (List.mem_of_getElem? (i := 15) rfl) rfl ddX12_sight_104 ?_
          refine lv_iconst (v := 1) hx hb ddX12_sight_107 (by decide) ?_
          refine lv_isub hx hb ddX12_sight_108 ?_
          refine zg_top2 (P := fun v => zi 0 29 v) (E := fun v => v.toInt = v_99_128.toInt + -1) (zi_subk z_99_129 (n := 1) (by decide) (by decide)) (fun v_108_131 z_108_132 q_108_133 => ?_)
          exact cg_iret (nw := fun _ => 0) hC hr hlk hO.same rfl (Nat.le_of_ble_eq_true rfl) (Nat.le_of_ble_eq_true rfl) (⟨v_99_128, c_49_118, c_59_120, c_69_122, c_82_124, c_92_126, (zi_w (c := 0) (d := 30) z_99_129 (by decide)), zc_59_121, (zi_w (c := (-1)) (d := 29) z_108_132 (by decide)), rfl⟩) ddX12_sight_109
        · have q_35_134 := zr_eq h_35_115
          have z_35_135 : zi 30 30 x0_70 := ze_eq q_35_134 b0_70 (zi_k (a := 30) (b := 30) (x := 30) rfl)
          refine lv_iconst (v := (-1)) hx hb ddX12_sight_38 (by decide) ?_
          exact cg_iret (nw := fun _ => 0) hC hr hlk hO.same rfl (Nat.le_of_ble_eq_true rfl) (Nat.le_of_ble_eq_true rfl) (⟨x0_70, c2, c3, c4, c5, c6, (zi_w (c := 0) (d := 30) z_35_135 (by decide)), ha3, (zi_k (a := (-1)) (b := 29) (x := (-1)) rfl), rfl⟩) ddX12_sight_39
      · obtain ⟨rfl, rfl⟩ := hw
        have hO : cO D cy A s.heap s 7 ad (cup [(0, .inr (12, [u0_0, u0_1, u0_2, u0_3, u0_4, u0_5, u0_6, u0_7, u0_8, u0_9, u0_10, .ref (ad 1), u0_12, u0_13, u0_14, u0_15, u0_16, u0_17, u0_18, u0_19, u0_20, u0_21, u0_22, u0_23, u0_24, u0_25, u0_26, u0_27, u0_28, u0_29, u0_30, u0_31, u0_32, u0_33, u0_34, u0_35, .int x0_36, u0_37, u0_38, u0_39, u0_40, u0_41, u0_42, u0_43, u0_44, u0_45, u0_46, u0_47, u0_48, u0_49, u0_50, u0_51, u0_52, u0_53, u0_54, u0_55, u0_56, u0_57, u0_58, u0_59, u0_60, u0_61, u0_62, u0_63, u0_64, .ref (ad 2), .ref (ad 3), .ref (ad 4), .ref (ad 5), .ref (ad 6), .int x0_70, .int x0_71, u0_72, u0_73])), (2, .inl (cy 0, 30, .inl c2)), (3, .inl (cy 0, 30, .inl c3)), (4, .inl (cy 0, 30, .inl c4)), (5, .inl (cy 0, 30, .inl c5)), (6, .inl (cy 0, 30, .inl c6))] g) _ _ := hO
        refine lv_if_eq (tgt := 38) hx hb ddX12_sight_26 (by decide) (fun _ => ?_) (fun h => absurd h (by decide))
        refine lv_iconst (v := (-1)) hx hb ddX12_sight_38 (by decide) ?_
        exact cg_iret (nw := fun _ => 0) hC hr hlk hO.same rfl (Nat.le_of_ble_eq_true rfl) (Nat.le_of_ble_eq_true rfl) (⟨x0_70, c2, c3, c4, c5, c6, b0_70, ha3, (zi_k (a := (-1)) (b := 29) (x := (-1)) rfl), rfl⟩) ddX12_sight_39
    · obtain ⟨rfl, rfl⟩ := hw
      have hO : cO D cy A s.heap s 7 ad (cup [(0, .inr (12, [u0_0, u0_1, u0_2, u0_3, u0_4, u0_5, u0_6, u0_7, u0_8, u0_9, u0_10, .ref (ad 1), u0_12, u0_13, u0_14, u0_15, u0_16, u0_17, u0_18, u0_19, u0_20, u0_21, u0_22, u0_23, u0_24, u0_25, u0_26, u0_27, u0_28, u0_29, u0_30, u0_31, u0_32, u0_33, u0_34, u0_35, .int x0_36, u0_37, u0_38, u0_39, u0_40, u0_41, u0_42, u0_43, u0_44, u0_45, u0_46, u0_47, u0_48, u0_49, u0_50, u0_51, u0_52, u0_53, u0_54, u0_55, u0_56, u0_57, u0_58, u0_59, u0_60, u0_61, u0_62, u0_63, u0_64, .ref (ad 2), .ref (ad 3), .ref (ad 4), .ref (ad 5), .ref (ad 6), .int x0_70, .int x0_71, u0_72, u0_73])), (2, .inl (cy 0, 30, .inl c2)), (3, .inl (cy 0, 30, .inl c3)), (4, .inl (cy 0, 30, .inl c4)), (5, .inl (cy 0, 30, .inl c5)), (6, .inl (cy 0, 30, .inl c6))] g) _ _ := hO
      refine lv_if_eq (tgt := 38) hx hb ddX12_sight_16 (by decide) (fun _ => ?_) (fun h => absurd h (by decide))
      refine lv_iconst (v := (-1)) hx hb ddX12_sight_38 (by decide) ?_
      exact cg_iret (nw := fun _ => 0) hC hr hlk hO.same rfl (Nat.le_of_ble_eq_true rfl) (Nat.le_of_ble_eq_true rfl) (⟨x0_70, c2, c3, c4, c5, c6, b0_70, ha3, (zi_k (a := (-1)) (b := 29) (x := (-1)) rfl), rfl⟩) ddX12_sight_39
  · obtain ⟨rfl, rfl⟩ := hw
    have hO : cO D cy A s.heap s 7 ad (cup [(0, .inr (12, [u0_0, u0_1, u0_2, u0_3, u0_4, u0_5, u0_6, u0_7, u0_8, u0_9, u0_10, .ref (ad 1), u0_12, u0_13, u0_14, u0_15, u0_16, u0_17, u0_18, u0_19, u0_20, u0_21, u0_22, u0_23, u0_24, u0_25, u0_26, u0_27, u0_28, u0_29, u0_30, u0_31, u0_32, u0_33, u0_34, u0_35, .int x0_36, u0_37, u0_38, u0_39, u0_40, u0_41, u0_42, u0_43, u0_44, u0_45, u0_46, u0_47, u0_48, u0_49, u0_50, u0_51, u0_52, u0_53, u0_54, u0_55, u0_56, u0_57, u0_58, u0_59, u0_60, u0_61, u0_62, u0_63, u0_64, .ref (ad 2), .ref (ad 3), .ref (ad 4), .ref (ad 5), .ref (ad 6), .int x0_70, .int x0_71, u0_72, u0_73])), (2, .inl (cy 0, 30, .inl c2)), (3, .inl (cy 0, 30, .inl c3)), (4, .inl (cy 0, 30, .inl c4)), (5, .inl (cy 0, 30, .inl c5)), (6, .inl (cy 0, 30, .inl c6))] g) _ _ := hO
    refine lv_if_eq (tgt := 38) hx hb ddX12_sight_8 (by decide) (fun _ => ?_) (fun h => absurd h (by decide))
    refine lv_iconst (v := (-1)) hx hb ddX12_sight_38 (by decide) ?_
    exact cg_iret (nw := fun _ => 0) hC hr hlk hO.same rfl (Nat.le_of_ble_eq_true rfl) (Nat.le_of_ble_eq_true rfl) (⟨x0_70, c2, c3, c4, c5, c6, b0_70, ha3, (zi_k (a := (-1)) (b := 29) (x := (-1)) rfl), rfl⟩) ddX12_sight_39

theorem ddX12_untell_0 : decode cX12_untell 0 = .ok (.iload_n 1, 1) := by decide +kernel
theorem ddX12_untell_1 : decode cX12_untell 1 = .ok (.iconst 0, 1) := by decide +kernel
theorem ddX12_untell_2 : decode cX12_untell 2 = .ok (.aload_n 0, 1) := by decide +kernel
theorem ddX12_untell_3 : decode cX12_untell 3 = .ok (.getfield 292, 3) := by decide +kernel
theorem ddX12_untell_6 : decode cX12_untell 6 = .ok (.iconst 1, 1) := by decide +kernel
theorem ddX12_untell_7 : decode cX12_untell 7 = .ok (.isub, 1) := by decide +kernel
theorem ddX12_untell_8 : decode cX12_untell 8 = .ok (.invokestatic 366, 3) := by decide +kernel
theorem ddX12_untell_11 : decode cX12_untell 11 = .ok (.ifCond .eq 12, 3) := by decide +kernel
theorem ddX12_untell_14 : decode cX12_untell 14 = .ok (.aload_n 0, 1) := by decide +kernel
theorem ddX12_untell_15 : decode cX12_untell 15 = .ok (.getfield 167, 3) := by decide +kernel
theorem ddX12_untell_18 : decode cX12_untell 18 = .ok (.iload_n 1, 1) := by decide +kernel
theorem ddX12_untell_19 : decode cX12_untell 19 = .ok (.iaload, 1) := by decide +kernel
theorem ddX12_untell_20 : decode cX12_untell 20 = .ok (.ifCond .lt 5, 3) := by decide +kernel
theorem ddX12_untell_23 : decode cX12_untell 23 = .ok (.iconst 0, 1) := by decide +kernel
theorem ddX12_untell_24 : decode cX12_untell 24 = .ok (.ireturn, 1) := by decide +kernel
theorem ddX12_untell_25 : decode cX12_untell 25 = .ok (.aload_n 0, 1) := by decide +kernel
theorem ddX12_untell_26 : decode cX12_untell 26 = .ok (.getfield 167, 3) := by decide +kernel
theorem ddX12_untell_29 : decode cX12_untell 29 = .ok (.iload_n 1, 1) := by decide +kernel
theorem ddX12_untell_30 : decode cX12_untell 30 = .ok (.aload_n 0, 1) := by decide +kernel
theorem ddX12_untell_31 : decode cX12_untell 31 = .ok (.getfield 455, 3) := by decide +kernel
theorem ddX12_untell_34 : decode cX12_untell 34 = .ok (.iastore, 1) := by decide +kernel
theorem ddX12_untell_35 : decode cX12_untell 35 = .ok (.iconst 1, 1) := by decide +kernel
theorem ddX12_untell_36 : decode cX12_untell 36 = .ok (.ireturn, 1) := by decide +kernel
def wq_k_X12_untell : List Cond := Cond.code yX12_untell cX12_untell 2 (some .boolean) :: (([Cond.fieldLink RX12 292 "CrowTollModel" "sights" "I", Cond.methodLink RX12 366 yX12_isIn, Cond.static yX12_isIn, Cond.initialized RX12, Cond.code yX12_isIn cX12_isIn 3 (some .boolean), Cond.fieldLink RX12 167 "CrowTollModel" "gUntold" "[I", Cond.fieldLink RX12 455 "CrowTollModel" "time" "I"] : List Cond) ++ wsX120)
set_option maxRecDepth 20000 in
theorem gr_k_X12_untell_k_X12_isIn : GoodIn wq_k_X12_untell wq_k_X12_isIn := List.forall_mem_cons.mpr ⟨⟨(List.mem_of_getElem? (i := 5) rfl), good_of_word rfl⟩, (fun _ h => absurd h List.not_mem_nil)⟩
set_option maxRecDepth 20000 in
theorem gq_k_X12_untell_k_X12_isIn_366 : GoodIn wq_k_X12_untell (va_wsS RX12 366 yX12_isIn wq_k_X12_isIn) := goodIn_app (List.forall_mem_cons.mpr ⟨⟨(List.mem_of_getElem? (i := 2) rfl), good_of_word rfl⟩, List.forall_mem_cons.mpr ⟨⟨(List.mem_of_getElem? (i := 3) rfl), good_of_word rfl⟩, List.forall_mem_cons.mpr ⟨⟨(List.mem_of_getElem? (i := 4) rfl), good_of_word rfl⟩, (fun _ h => absurd h List.not_mem_nil)⟩⟩⟩) gr_k_X12_untell_k_X12_isIn
set_option maxHeartbeats 8000000 in
set_option maxRecDepth 100000 in
theorem k_X12_untell (l : Launch) (D : va_G) (cy : Nat → ClassId) (ad : Nat → Nat) (g : Nat → va_E) {u0_0 : Value} {u0_1 : Value} {u0_2 : Value} {u0_3 : Value} {u0_4 : Value} {u0_5 : Value} {u0_6 : Value} {u0_7 : Value} {u0_8 : Value} {u0_9 : Value} {u0_10 : Value} {u0_11 : Value} {u0_12 : Value} {u0_13 : Value} {u0_14 : Value} {u0_15 : Value} {u0_16 : Value} {u0_17 : Value} {u0_18 : Value} {u0_19 : Value} {u0_20 : Value} {u0_21 : Value} {u0_22 : Value} {u0_23 : Value} {u0_24 : Value} {u0_25 : Value} {u0_26 : Value} {u0_27 : Value} {u0_28 : Value} {u0_29 : Value} {u0_30 : Value} {u0_31 : Value} {u0_32 : Value} {u0_33 : Value} {u0_34 : Value} {u0_35 : Value} {u0_36 : Value} {u0_37 : Value} {u0_38 : Value} {u0_39 : Value} {u0_40 : Value} {u0_41 : Value} {u0_42 : Value} {u0_43 : Value} {u0_44 : Value} {u0_45 : Value} {u0_46 : Value} {u0_47 : Value} {u0_48 : Value} {u0_49 : Value} {u0_50 : Value} {u0_51 : Value} {u0_52 : Value} {u0_53 : Value} {u0_54 : Value} {u0_55 : Value} {u0_56 : Value} {u0_57 : Value} {u0_58 : Value} {u0_59 : Value} {u0_60 : Value} {u0_61 : Value} {u0_62 : Value} {u0_63 : Value} {u0_64 : Value} {u0_65 : Value} {u0_66 : Value} {u0_67 : Value} {u0_68 : Value} {x0_70 : Int32} {x0_71 : Int32} {u0_72 : Value} {u0_73 : Value} {c1 : Nat → Int32} {n : Int32} (o0 : g 0 = .inr (12, [u0_0, u0_1, u0_2, u0_3, u0_4, u0_5, u0_6, u0_7, u0_8, u0_9, u0_10, u0_11, u0_12, u0_13, u0_14, u0_15, u0_16, u0_17, u0_18, u0_19, u0_20, u0_21, u0_22, u0_23, u0_24, u0_25, u0_26, u0_27, u0_28, u0_29, u0_30, u0_31, u0_32, u0_33, u0_34, u0_35, u0_36, u0_37, u0_38, u0_39, u0_40, u0_41, u0_42, u0_43, u0_44, u0_45, u0_46, u0_47, u0_48, u0_49, u0_50, u0_51, u0_52, u0_53, u0_54, u0_55, u0_56, u0_57, u0_58, u0_59, u0_60, u0_61, u0_62, u0_63, u0_64, u0_65, u0_66, u0_67, u0_68, .ref (ad 1), .int x0_70, .int x0_71, u0_72, u0_73])) (a1 : g 1 = .inl (cy 0, 30, .inl c1)) (b0_70 : zi 0 30 x0_70) (b0_71 : zi 0 100000 x0_71) : cMi l yX12_untell wq_k_X12_untell { frames := 1, cells := 0, slots := 0, locals := 22 } 2 0 0 0 D cy ad g [.ref (ad 0), .int n] (fun r nw lu => ∃ (d1 : Nat → Int32), (zi 0 1 r) ∧ (lu = [(1, .inl (cy 0, 30, .inl d1))])) := by
  refine cM_of (Qc := fun A => cQi (fun r nw lu => ∃ (d1 : Nat → Int32), (zi 0 1 r) ∧ (lu = [(1, .inl (cy 0, 30, .inl d1))])) D 2 0 ad g A) (cc := cX12_untell) (maxL := 2) (ret := (some .boolean)) (by decide) rfl (Nat.le_of_ble_eq_true rfl) ?_
  intro p e s m below meth c A hC hr hlk hnm hO ls hl
  have hC : CallFix p m c cX12_untell 2 s [.ref (ad 0), .int n].toArray wq_k_X12_untell RX12 := hC
  obtain ⟨hx, hb, hml, hown, hts⟩ := id hC
  have hl : lv_has ls 2 [(0, .ref (ad 0)), (1, .int n)] := hl
  have i_X12 : ∀ w ∈ wsX120, w ∈ wq_k_X12_untell := fun w h => List.mem_cons_of_mem _ (List.mem_append_right _ h)
  have hO := hO.notes [(1, .inl (cy 0, 30, .inl c1))] (List.forall_mem_cons.mpr ⟨a1, (fun _ h => absurd h List.not_mem_nil)⟩)
  refine lv_iload_n hx hb ddX12_untell_0 rfl (lv_at hl 1 rfl) ?_
  refine lv_iconst (v := 0) hx hb ddX12_untell_1 (by decide) ?_
  refine lv_aload_n hx hb ddX12_untell_2 rfl (lv_at hl 0 rfl) ?_
  refine cg_get hC hO 0 (by decide) o0 rfl i_X12 70 (by decide) (List.mem_of_getElem? (i := 1) rfl) rfl ddX12_untell_3 ?_
  refine lv_iconst (v := 1) hx hb ddX12_untell_6 (by decide) ?_
  refine lv_isub hx hb ddX12_untell_7 ?_
  refine zg_top2 (P := fun v => zi (-1) 29 v) (E := fun v => v.toInt = x0_70.toInt + -1) (zi_subk b0_70 (n := 1) (by decide) (by decide)) (fun v_7_47 z_7_48 q_7_49 => ?_)
  refine cg_Si (As := [.int n, .int 0, .int v_7_47]) (rest := []) (mc := 0) (ms := 0) (rm := { frames := 0, cells := 0, slots := 0, locals := 0 }) hC hl.1 hO [] (by decide +kernel) (k_X12_isIn l D cy _ _ (v := n) (least := 0) (most := v_7_47) ) gq_k_X12_untell_k_X12_isIn_366 rfl rfl rfl 3 (by decide +kernel) ⟨Nat.le_of_ble_eq_true rfl, Nat.le_of_ble_eq_true rfl⟩ rfl rfl (Nat.le_of_ble_eq_true rfl) ddX12_untell_8 ⟨Nat.le_of_ble_eq_true rfl, Nat.le_of_ble_eq_true rfl⟩ (fun r_8_52 nw_8_50 l_8_51 H locs hw hO => ?_)
  rcases hw with hw | hw
  · obtain ⟨q_8_53, q_8_54, rfl, rfl⟩ := hw
    have hO : cO D cy A s.heap s 2 ad (cup [(1, .inl (cy 0, 30, .inl c1))] g) _ _ := hO
    have q_8_55 := q_8_53
    have z_8_56 : zi 0 2147483647 n := zd_le q_8_55 (zi_k (a := 0) (b := 0) (x := 0) rfl) (zi_all n) (by decide)
    have q_8_57 := q_8_54
    have z_8_58 : zi 0 29 n := zu_le q_8_57 z_8_56 z_7_48 (by decide)
    have z_8_59 : zi 0 29 v_7_47 := zd_le q_8_57 z_8_56 z_7_48 (by decide)
    have z_8_60 : zi 1 30 x0_70 := zp_add q_7_49 z_8_59 b0_70 (by decide)
    refine lv_if_eq (tgt := 23) hx hb ddX12_untell_11 (by decide) (fun h => absurd h (by decide)) (fun _ => ?_)
    refine lv_aload_n hx hb ddX12_untell_14 rfl (lv_at hl 0 rfl) ?_
    refine cg_get hC hO 0 (by decide) o0 rfl i_X12 69 (by decide) (List.mem_of_getElem? (i := 6) rfl) rfl ddX12_untell_15 ?_
    refine lv_iload_n hx hb ddX12_untell_18 rfl (lv_at hl 1 rfl) ?_
    refine zg_iald hC hO 1 (by decide) rfl (za_all _) (zi_in z_8_58 (by decide)) ddX12_untell_19 (fun v_19_61 z_19_62 => ?_)
    refine lv_if_lt (tgt := 25) hx hb ddX12_untell_20 (by decide) (fun h_20_63 => ?_) (fun h_20_63 => ?_)
    · have q_20_64 := zr_lt h_20_63
      have z_20_65 : zi (-2147483648) (-1) v_19_61 := zu_lt q_20_64 z_19_62 (zi_k (a := 0) (b := 0) (x := 0) rfl) (by decide)
      refine lv_aload_n hx hb ddX12_untell_25 rfl (lv_at hl 0 rfl) ?_
      refine cg_get hC hO 0 (by decide) o0 rfl i_X12 69 (by decide) (List.mem_of_getElem? (i := 6) rfl) rfl ddX12_untell_26 ?_
      refine lv_iload_n hx hb ddX12_untell_29 rfl (lv_at hl 1 rfl) ?_
      refine lv_aload_n hx hb ddX12_untell_30 rfl (lv_at hl 0 rfl) ?_
      refine cg_get hC hO 0 (by decide) o0 rfl i_X12 71 (by decide) (List.mem_of_getElem? (i := 7) rfl) rfl ddX12_untell_31 ?_
      refine zg_iast hC hO 1 (by decide) rfl (za_all _) (zi_w (c := (-2147483648)) (d := 2147483647) b0_71 (by decide)) (zi_in z_8_58 (by decide)) ddX12_untell_34 (fun H locs c_34_66 zc_34_67 hO => ?_)
      have hO : cO D cy A s.heap s 2 ad (cup [(1, .inl (cy 0, 30, .inl c_34_66))] g) _ _ := hO
      refine lv_iconst (v := 1) hx hb ddX12_untell_35 (by decide) ?_
      exact cg_iret (nw := fun _ => 0) hC hr hlk hO.same rfl (Nat.le_of_ble_eq_true rfl) (Nat.le_of_ble_eq_true rfl) (⟨c_34_66, (zi_k (a := 0) (b := 1) (x := 1) rfl), rfl⟩) ddX12_untell_36
    · have q_20_68 := zr_nlt h_20_63
      have z_20_69 : zi 0 2147483647 v_19_61 := zd_le q_20_68 (zi_k (a := 0) (b := 0) (x := 0) rfl) z_19_62 (by decide)
      refine lv_iconst (v := 0) hx hb ddX12_untell_23 (by decide) ?_
      exact cg_iret (nw := fun _ => 0) hC hr hlk hO.same rfl (Nat.le_of_ble_eq_true rfl) (Nat.le_of_ble_eq_true rfl) (⟨c1, (zi_k (a := 0) (b := 1) (x := 0) rfl), rfl⟩) ddX12_untell_24
  · obtain ⟨rfl, rfl⟩ := hw
    have hO : cO D cy A s.heap s 2 ad (cup [(1, .inl (cy 0, 30, .inl c1))] g) _ _ := hO
    refine lv_if_eq (tgt := 23) hx hb ddX12_untell_11 (by decide) (fun _ => ?_) (fun h => absurd h (by decide))
    refine lv_iconst (v := 0) hx hb ddX12_untell_23 (by decide) ?_
    exact cg_iret (nw := fun _ => 0) hC hr hlk hO.same rfl (Nat.le_of_ble_eq_true rfl) (Nat.le_of_ble_eq_true rfl) (⟨c1, (zi_k (a := 0) (b := 1) (x := 0) rfl), rfl⟩) ddX12_untell_24

theorem ddX12_later_0 : decode cX12_later 0 = .ok (.iload_n 1, 1) := by decide +kernel
theorem ddX12_later_1 : decode cX12_later 1 = .ok (.iconst 0, 1) := by decide +kernel
theorem ddX12_later_2 : decode cX12_later 2 = .ok (.sipush 1000, 3) := by decide +kernel
theorem ddX12_later_5 : decode cX12_later 5 = .ok (.invokestatic 366, 3) := by decide +kernel
theorem ddX12_later_8 : decode cX12_later 8 = .ok (.ifCond .eq 15, 3) := by decide +kernel
theorem ddX12_later_11 : decode cX12_later 11 = .ok (.aload_n 0, 1) := by decide +kernel
theorem ddX12_later_12 : decode cX12_later 12 = .ok (.getfield 455, 3) := by decide +kernel
theorem ddX12_later_15 : decode cX12_later 15 = .ok (.iload_n 1, 1) := by decide +kernel
theorem ddX12_later_16 : decode cX12_later 16 = .ok (.iadd, 1) := by decide +kernel
theorem ddX12_later_17 : decode cX12_later 17 = .ok (.ldc_w 458, 3) := by decide +kernel
theorem ddX12_later_20 : decode cX12_later 20 = .ok (.if_icmp .le 5, 3) := by decide +kernel
theorem ddX12_later_23 : decode cX12_later 23 = .ok (.iconst (-1), 1) := by decide +kernel
theorem ddX12_later_24 : decode cX12_later 24 = .ok (.ireturn, 1) := by decide +kernel
theorem ddX12_later_25 : decode cX12_later 25 = .ok (.aload_n 0, 1) := by decide +kernel
theorem ddX12_later_26 : decode cX12_later 26 = .ok (.dup, 1) := by decide +kernel
theorem ddX12_later_27 : decode cX12_later 27 = .ok (.getfield 455, 3) := by decide +kernel
theorem ddX12_later_30 : decode cX12_later 30 = .ok (.iload_n 1, 1) := by decide +kernel
theorem ddX12_later_31 : decode cX12_later 31 = .ok (.iadd, 1) := by decide +kernel
theorem ddX12_later_32 : decode cX12_later 32 = .ok (.putfield 455, 3) := by decide +kernel
theorem ddX12_later_35 : decode cX12_later 35 = .ok (.aload_n 0, 1) := by decide +kernel
theorem ddX12_later_36 : decode cX12_later 36 = .ok (.getfield 455, 3) := by decide +kernel
theorem ddX12_later_39 : decode cX12_later 39 = .ok (.ireturn, 1) := by decide +kernel
def wq_k_X12_later : List Cond := Cond.code yX12_later cX12_later 2 (some .int) :: (([Cond.methodLink RX12 366 yX12_isIn, Cond.static yX12_isIn, Cond.initialized RX12, Cond.code yX12_isIn cX12_isIn 3 (some .boolean), Cond.fieldLink RX12 455 "CrowTollModel" "time" "I", Cond.constant RX12 458 (100000)] : List Cond) ++ wsX120)
set_option maxRecDepth 20000 in
theorem gr_k_X12_later_k_X12_isIn : GoodIn wq_k_X12_later wq_k_X12_isIn := List.forall_mem_cons.mpr ⟨⟨(List.mem_of_getElem? (i := 4) rfl), good_of_word rfl⟩, (fun _ h => absurd h List.not_mem_nil)⟩
set_option maxRecDepth 20000 in
theorem gq_k_X12_later_k_X12_isIn_366 : GoodIn wq_k_X12_later (va_wsS RX12 366 yX12_isIn wq_k_X12_isIn) := goodIn_app (List.forall_mem_cons.mpr ⟨⟨(List.mem_of_getElem? (i := 1) rfl), good_of_word rfl⟩, List.forall_mem_cons.mpr ⟨⟨(List.mem_of_getElem? (i := 2) rfl), good_of_word rfl⟩, List.forall_mem_cons.mpr ⟨⟨(List.mem_of_getElem? (i := 3) rfl), good_of_word rfl⟩, (fun _ h => absurd h List.not_mem_nil)⟩⟩⟩) gr_k_X12_later_k_X12_isIn
set_option maxHeartbeats 8000000 in
set_option maxRecDepth 100000 in
theorem k_X12_later (l : Launch) (D : va_G) (cy : Nat → ClassId) (ad : Nat → Nat) (g : Nat → va_E) {u0_0 : Value} {u0_1 : Value} {u0_2 : Value} {u0_3 : Value} {u0_4 : Value} {u0_5 : Value} {u0_6 : Value} {u0_7 : Value} {u0_8 : Value} {u0_9 : Value} {u0_10 : Value} {u0_11 : Value} {u0_12 : Value} {u0_13 : Value} {u0_14 : Value} {u0_15 : Value} {u0_16 : Value} {u0_17 : Value} {u0_18 : Value} {u0_19 : Value} {u0_20 : Value} {u0_21 : Value} {u0_22 : Value} {u0_23 : Value} {u0_24 : Value} {u0_25 : Value} {u0_26 : Value} {u0_27 : Value} {u0_28 : Value} {u0_29 : Value} {u0_30 : Value} {u0_31 : Value} {u0_32 : Value} {u0_33 : Value} {u0_34 : Value} {u0_35 : Value} {u0_36 : Value} {u0_37 : Value} {u0_38 : Value} {u0_39 : Value} {u0_40 : Value} {u0_41 : Value} {u0_42 : Value} {u0_43 : Value} {u0_44 : Value} {u0_45 : Value} {u0_46 : Value} {u0_47 : Value} {u0_48 : Value} {u0_49 : Value} {u0_50 : Value} {u0_51 : Value} {u0_52 : Value} {u0_53 : Value} {u0_54 : Value} {u0_55 : Value} {u0_56 : Value} {u0_57 : Value} {u0_58 : Value} {u0_59 : Value} {u0_60 : Value} {u0_61 : Value} {u0_62 : Value} {u0_63 : Value} {u0_64 : Value} {u0_65 : Value} {u0_66 : Value} {u0_67 : Value} {u0_68 : Value} {u0_69 : Value} {u0_70 : Value} {x0_71 : Int32} {u0_72 : Value} {u0_73 : Value} {byx : Int32} (o0 : g 0 = .inr (12, [u0_0, u0_1, u0_2, u0_3, u0_4, u0_5, u0_6, u0_7, u0_8, u0_9, u0_10, u0_11, u0_12, u0_13, u0_14, u0_15, u0_16, u0_17, u0_18, u0_19, u0_20, u0_21, u0_22, u0_23, u0_24, u0_25, u0_26, u0_27, u0_28, u0_29, u0_30, u0_31, u0_32, u0_33, u0_34, u0_35, u0_36, u0_37, u0_38, u0_39, u0_40, u0_41, u0_42, u0_43, u0_44, u0_45, u0_46, u0_47, u0_48, u0_49, u0_50, u0_51, u0_52, u0_53, u0_54, u0_55, u0_56, u0_57, u0_58, u0_59, u0_60, u0_61, u0_62, u0_63, u0_64, u0_65, u0_66, u0_67, u0_68, u0_69, u0_70, .int x0_71, u0_72, u0_73])) (b0_71 : zi 0 100000 x0_71) : cMi l yX12_later wq_k_X12_later { frames := 1, cells := 0, slots := 0, locals := 22 } 1 0 0 0 D cy ad g [.ref (ad 0), .int byx] (fun r nw lu => ∃ (y0_71 : Int32), (zi 0 100000 y0_71) ∧ (zi (-1) 100000 r) ∧ (lu = [(0, .inr (12, [u0_0, u0_1, u0_2, u0_3, u0_4, u0_5, u0_6, u0_7, u0_8, u0_9, u0_10, u0_11, u0_12, u0_13, u0_14, u0_15, u0_16, u0_17, u0_18, u0_19, u0_20, u0_21, u0_22, u0_23, u0_24, u0_25, u0_26, u0_27, u0_28, u0_29, u0_30, u0_31, u0_32, u0_33, u0_34, u0_35, u0_36, u0_37, u0_38, u0_39, u0_40, u0_41, u0_42, u0_43, u0_44, u0_45, u0_46, u0_47, u0_48, u0_49, u0_50, u0_51, u0_52, u0_53, u0_54, u0_55, u0_56, u0_57, u0_58, u0_59, u0_60, u0_61, u0_62, u0_63, u0_64, u0_65, u0_66, u0_67, u0_68, u0_69, u0_70, .int y0_71, u0_72, u0_73]))])) := by
  refine cM_of (Qc := fun A => cQi (fun r nw lu => ∃ (y0_71 : Int32), (zi 0 100000 y0_71) ∧ (zi (-1) 100000 r) ∧ (lu = [(0, .inr (12, [u0_0, u0_1, u0_2, u0_3, u0_4, u0_5, u0_6, u0_7, u0_8, u0_9, u0_10, u0_11, u0_12, u0_13, u0_14, u0_15, u0_16, u0_17, u0_18, u0_19, u0_20, u0_21, u0_22, u0_23, u0_24, u0_25, u0_26, u0_27, u0_28, u0_29, u0_30, u0_31, u0_32, u0_33, u0_34, u0_35, u0_36, u0_37, u0_38, u0_39, u0_40, u0_41, u0_42, u0_43, u0_44, u0_45, u0_46, u0_47, u0_48, u0_49, u0_50, u0_51, u0_52, u0_53, u0_54, u0_55, u0_56, u0_57, u0_58, u0_59, u0_60, u0_61, u0_62, u0_63, u0_64, u0_65, u0_66, u0_67, u0_68, u0_69, u0_70, .int y0_71, u0_72, u0_73]))])) D 1 0 ad g A) (cc := cX12_later) (maxL := 2) (ret := (some .int)) (by decide) rfl (Nat.le_of_ble_eq_true rfl) ?_
  intro p e s m below meth c A hC hr hlk hnm hO ls hl
  have hC : CallFix p m c cX12_later 2 s [.ref (ad 0), .int byx].toArray wq_k_X12_later RX12 := hC
  obtain ⟨hx, hb, hml, hown, hts⟩ := id hC
  have hl : lv_has ls 2 [(0, .ref (ad 0)), (1, .int byx)] := hl
  have i_X12 : ∀ w ∈ wsX120, w ∈ wq_k_X12_later := fun w h => List.mem_cons_of_mem _ (List.mem_append_right _ h)
  have hO := hO.notes [(0, .inr (12, [u0_0, u0_1, u0_2, u0_3, u0_4, u0_5, u0_6, u0_7, u0_8, u0_9, u0_10, u0_11, u0_12, u0_13, u0_14, u0_15, u0_16, u0_17, u0_18, u0_19, u0_20, u0_21, u0_22, u0_23, u0_24, u0_25, u0_26, u0_27, u0_28, u0_29, u0_30, u0_31, u0_32, u0_33, u0_34, u0_35, u0_36, u0_37, u0_38, u0_39, u0_40, u0_41, u0_42, u0_43, u0_44, u0_45, u0_46, u0_47, u0_48, u0_49, u0_50, u0_51, u0_52, u0_53, u0_54, u0_55, u0_56, u0_57, u0_58, u0_59, u0_60, u0_61, u0_62, u0_63, u0_64, u0_65, u0_66, u0_67, u0_68, u0_69, u0_70, .int x0_71, u0_72, u0_73]))] (List.forall_mem_cons.mpr ⟨o0, (fun _ h => absurd h List.not_mem_nil)⟩)
  refine lv_iload_n hx hb ddX12_later_0 rfl (lv_at hl 1 rfl) ?_
  refine lv_iconst (v := 0) hx hb ddX12_later_1 (by decide) ?_
  refine lv_sipush (v := 1000) hx hb ddX12_later_2 (by decide) ?_
  refine cg_Si (As := [.int byx, .int 0, .int 1000]) (rest := []) (mc := 0) (ms := 0) (rm := { frames := 0, cells := 0, slots := 0, locals := 0 }) hC hl.1 hO [] (by decide +kernel) (k_X12_isIn l D cy _ _ (v := byx) (least := 0) (most := 1000) ) gq_k_X12_later_k_X12_isIn_366 rfl rfl rfl 3 (by decide +kernel) ⟨Nat.le_of_ble_eq_true rfl, Nat.le_of_ble_eq_true rfl⟩ rfl rfl (Nat.le_of_ble_eq_true rfl) ddX12_later_5 ⟨Nat.le_of_ble_eq_true rfl, Nat.le_of_ble_eq_true rfl⟩ (fun r_5_45 nw_5_43 l_5_44 H locs hw hO => ?_)
  rcases hw with hw | hw
  · obtain ⟨q_5_46, q_5_47, rfl, rfl⟩ := hw
    have hO : cO D cy A s.heap s 1 ad (cup [(0, .inr (12, [u0_0, u0_1, u0_2, u0_3, u0_4, u0_5, u0_6, u0_7, u0_8, u0_9, u0_10, u0_11, u0_12, u0_13, u0_14, u0_15, u0_16, u0_17, u0_18, u0_19, u0_20, u0_21, u0_22, u0_23, u0_24, u0_25, u0_26, u0_27, u0_28, u0_29, u0_30, u0_31, u0_32, u0_33, u0_34, u0_35, u0_36, u0_37, u0_38, u0_39, u0_40, u0_41, u0_42, u0_43, u0_44, u0_45, u0_46, u0_47, u0_48, u0_49, u0_50, u0_51, u0_52, u0_53, u0_54, u0_55, u0_56, u0_57, u0_58, u0_59, u0_60, u0_61, u0_62, u0_63, u0_64, u0_65, u0_66, u0_67, u0_68, u0_69, u0_70, .int x0_71, u0_72, u0_73]))] g) _ _ := hO
    have q_5_48 := q_5_46
    have z_5_49 : zi 0 2147483647 byx := zd_le q_5_48 (zi_k (a := 0) (b := 0) (x := 0) rfl) (zi_all byx) (by decide)
    have q_5_50 := q_5_47
    have z_5_51 : zi 0 1000 byx := zu_le q_5_50 z_5_49 (zi_k (a := 1000) (b := 1000) (x := 1000) rfl) (by decide)
    refine lv_if_eq (tgt := 23) hx hb ddX12_later_8 (by decide) (fun h => absurd h (by decide)) (fun _ => ?_)
    refine lv_aload_n hx hb ddX12_later_11 rfl (lv_at hl 0 rfl) ?_
    refine cg_get hC hO 0 (by decide) rfl rfl i_X12 71 (by decide) (List.mem_of_getElem? (i := 5) rfl) rfl ddX12_later_12 ?_
    refine lv_iload_n hx hb ddX12_later_15 rfl (lv_at hl 1 rfl) ?_
    refine lv_iadd hx hb ddX12_later_16 ?_
    refine zg_top2 (P := fun v => zi 0 101000 v) (E := fun v => v.toInt = (x0_71 : Int32).toInt + (byx : Int32).toInt) (zi_add b0_71 z_5_51 (by decide)) (fun v_16_52 z_16_53 q_16_54 => ?_)
    refine lv_ldcw (v := 100000) hx hb hown (hts _ (List.mem_of_getElem? (i := 6) rfl)) ddX12_later_17 ?_
    refine lv_icmp_le (tgt := 25) hx hb ddX12_later_20 (by decide) (fun h_20_55 => ?_) (fun h_20_55 => ?_)
    · have q_20_56 := zr_le h_20_55
      have z_20_57 : zi 0 100000 v_16_52 := zu_le q_20_56 z_16_53 (zi_k (a := 100000) (b := 100000) (x := 100000) rfl) (by decide)
      refine lv_aload_n hx hb ddX12_later_25 rfl (lv_at hl 0 rfl) ?_
      refine lv_dup hx hb ddX12_later_26 rfl ?_
      refine cg_get hC hO 0 (by decide) rfl rfl i_X12 71 (by decide) (List.mem_of_getElem? (i := 5) rfl) rfl ddX12_later_27 ?_
      refine lv_iload_n hx hb ddX12_later_30 rfl (lv_at hl 1 rfl) ?_
      refine lv_iadd hx hb ddX12_later_31 ?_
      refine zg_top2 (P := fun v => zi 0 101000 v) (E := fun v => v.toInt = (x0_71 : Int32).toInt + (byx : Int32).toInt) (zi_add b0_71 z_5_51 (by decide)) (fun v_31_58 z_31_59 q_31_60 => ?_)
      have z_31_61 : zi 0 100000 v_31_58 := ze_eq (q_31_60.trans q_16_54.symm) z_31_59 z_20_57
      refine cg_put hC hO 0 (by decide) rfl rfl i_X12 tyX12_ok nmX12 71 (by decide) (List.mem_of_getElem? (i := 5) rfl) rfl rfl rfl (Nat.le_of_ble_eq_true rfl) ddX12_later_32 (fun H locs hO => ?_)
      have hO : cO D cy A s.heap s 1 ad (cup [(0, .inr (12, [u0_0, u0_1, u0_2, u0_3, u0_4, u0_5, u0_6, u0_7, u0_8, u0_9, u0_10, u0_11, u0_12, u0_13, u0_14, u0_15, u0_16, u0_17, u0_18, u0_19, u0_20, u0_21, u0_22, u0_23, u0_24, u0_25, u0_26, u0_27, u0_28, u0_29, u0_30, u0_31, u0_32, u0_33, u0_34, u0_35, u0_36, u0_37, u0_38, u0_39, u0_40, u0_41, u0_42, u0_43, u0_44, u0_45, u0_46, u0_47, u0_48, u0_49, u0_50, u0_51, u0_52, u0_53, u0_54, u0_55, u0_56, u0_57, u0_58, u0_59, u0_60, u0_61, u0_62, u0_63, u0_64, u0_65, u0_66, u0_67, u0_68, u0_69, u0_70, .int v_31_58, u0_72, u0_73]))] g) _ _ := hO
      refine lv_aload_n hx hb ddX12_later_35 rfl (lv_at hl 0 rfl) ?_
      refine cg_get hC hO 0 (by decide) rfl rfl i_X12 71 (by decide) (List.mem_of_getElem? (i := 5) rfl) rfl ddX12_later_36 ?_
      exact cg_iret (nw := fun _ => 0) hC hr hlk hO.same rfl (Nat.le_of_ble_eq_true rfl) (Nat.le_of_ble_eq_true rfl) (⟨v_31_58, z_31_61, (zi_w (c := (-1)) (d := 100000) z_31_61 (by decide)), rfl⟩) ddX12_later_39
    · have q_20_62 := zr_nle h_20_55
      have z_20_63 : zi 100001 101000 v_16_52 := zd_lt q_20_62 (zi_k (a := 100000) (b := 100000) (x := 100000) rfl) z_16_53 (by decide)
      refine lv_iconst (v := (-1)) hx hb ddX12_later_23 (by decide) ?_
      exact cg_iret (nw := fun _ => 0) hC hr hlk hO.same rfl (Nat.le_of_ble_eq_true rfl) (Nat.le_of_ble_eq_true rfl) (⟨x0_71, b0_71, (zi_k (a := (-1)) (b := 100000) (x := (-1)) rfl), rfl⟩) ddX12_later_24
  · obtain ⟨rfl, rfl⟩ := hw
    have hO : cO D cy A s.heap s 1 ad (cup [(0, .inr (12, [u0_0, u0_1, u0_2, u0_3, u0_4, u0_5, u0_6, u0_7, u0_8, u0_9, u0_10, u0_11, u0_12, u0_13, u0_14, u0_15, u0_16, u0_17, u0_18, u0_19, u0_20, u0_21, u0_22, u0_23, u0_24, u0_25, u0_26, u0_27, u0_28, u0_29, u0_30, u0_31, u0_32, u0_33, u0_34, u0_35, u0_36, u0_37, u0_38, u0_39, u0_40, u0_41, u0_42, u0_43, u0_44, u0_45, u0_46, u0_47, u0_48, u0_49, u0_50, u0_51, u0_52, u0_53, u0_54, u0_55, u0_56, u0_57, u0_58, u0_59, u0_60, u0_61, u0_62, u0_63, u0_64, u0_65, u0_66, u0_67, u0_68, u0_69, u0_70, .int x0_71, u0_72, u0_73]))] g) _ _ := hO
    refine lv_if_eq (tgt := 23) hx hb ddX12_later_8 (by decide) (fun _ => ?_) (fun h => absurd h (by decide))
    refine lv_iconst (v := (-1)) hx hb ddX12_later_23 (by decide) ?_
    exact cg_iret (nw := fun _ => 0) hC hr hlk hO.same rfl (Nat.le_of_ble_eq_true rfl) (Nat.le_of_ble_eq_true rfl) (⟨x0_71, b0_71, (zi_k (a := (-1)) (b := 100000) (x := (-1)) rfl), rfl⟩) ddX12_later_24

theorem ddX12_counts_0 : decode cX12_counts 0 = .ok (.aload_n 0, 1) := by decide +kernel
theorem ddX12_counts_1 : decode cX12_counts 1 = .ok (.getfield 164, 3) := by decide +kernel
theorem ddX12_counts_4 : decode cX12_counts 4 = .ok (.iload_n 1, 1) := by decide +kernel
theorem ddX12_counts_5 : decode cX12_counts 5 = .ok (.iaload, 1) := by decide +kernel
theorem ddX12_counts_6 : decode cX12_counts 6 = .ok (.iload_n 2, 1) := by decide +kernel
theorem ddX12_counts_7 : decode cX12_counts 7 = .ok (.if_icmp .gt 26, 3) := by decide +kernel
theorem ddX12_counts_10 : decode cX12_counts 10 = .ok (.aload_n 0, 1) := by decide +kernel
theorem ddX12_counts_11 : decode cX12_counts 11 = .ok (.getfield 167, 3) := by decide +kernel
theorem ddX12_counts_14 : decode cX12_counts 14 = .ok (.iload_n 1, 1) := by decide +kernel
theorem ddX12_counts_15 : decode cX12_counts 15 = .ok (.iaload, 1) := by decide +kernel
theorem ddX12_counts_16 : decode cX12_counts 16 = .ok (.ifCond .lt 13, 3) := by decide +kernel
theorem ddX12_counts_19 : decode cX12_counts 19 = .ok (.aload_n 0, 1) := by decide +kernel
theorem ddX12_counts_20 : decode cX12_counts 20 = .ok (.getfield 167, 3) := by decide +kernel
theorem ddX12_counts_23 : decode cX12_counts 23 = .ok (.iload_n 1, 1) := by decide +kernel
theorem ddX12_counts_24 : decode cX12_counts 24 = .ok (.iaload, 1) := by decide +kernel
theorem ddX12_counts_25 : decode cX12_counts 25 = .ok (.iload_n 2, 1) := by decide +kernel
theorem ddX12_counts_26 : decode cX12_counts 26 = .ok (.if_icmp .le 7, 3) := by decide +kernel
theorem ddX12_counts_29 : decode cX12_counts 29 = .ok (.iconst 1, 1) := by decide +kernel
theorem ddX12_counts_30 : decode cX12_counts 30 = .ok (.goto 4, 3) := by decide +kernel
theorem ddX12_counts_33 : decode cX12_counts 33 = .ok (.iconst 0, 1) := by decide +kernel
theorem ddX12_counts_34 : decode cX12_counts 34 = .ok (.ireturn, 1) := by decide +kernel
def wq_k_X12_counts : List Cond := Cond.code yX12_counts cX12_counts 3 (some .boolean) :: (([Cond.fieldLink RX12 164 "CrowTollModel" "gTold" "[I", Cond.fieldLink RX12 167 "CrowTollModel" "gUntold" "[I"] : List Cond) ++ wsX120)
set_option maxHeartbeats 8000000 in
set_option maxRecDepth 100000 in
theorem k_X12_counts (l : Launch) (D : va_G) (cy : Nat → ClassId) (ad : Nat → Nat) (g : Nat → va_E) {u0_0 : Value} {u0_1 : Value} {u0_2 : Value} {u0_3 : Value} {u0_4 : Value} {u0_5 : Value} {u0_6 : Value} {u0_7 : Value} {u0_8 : Value} {u0_9 : Value} {u0_10 : Value} {u0_11 : Value} {u0_12 : Value} {u0_13 : Value} {u0_14 : Value} {u0_15 : Value} {u0_16 : Value} {u0_17 : Value} {u0_18 : Value} {u0_19 : Value} {u0_20 : Value} {u0_21 : Value} {u0_22 : Value} {u0_23 : Value} {u0_24 : Value} {u0_25 : Value} {u0_26 : Value} {u0_27 : Value} {u0_28 : Value} {u0_29 : Value} {u0_30 : Value} {u0_31 : Value} {u0_32 : Value} {u0_33 : Value} {u0_34 : Value} {u0_35 : Value} {u0_36 : Value} {u0_37 : Value} {u0_38 : Value} {u0_39 : Value} {u0_40 : Value} {u0_41 : Value} {u0_42 : Value} {u0_43 : Value} {u0_44 : Value} {u0_45 : Value} {u0_46 : Value} {u0_47 : Value} {u0_48 : Value} {u0_49 : Value} {u0_50 : Value} {u0_51 : Value} {u0_52 : Value} {u0_53 : Value} {u0_54 : Value} {u0_55 : Value} {u0_56 : Value} {u0_57 : Value} {u0_58 : Value} {u0_59 : Value} {u0_60 : Value} {u0_61 : Value} {u0_62 : Value} {u0_63 : Value} {u0_64 : Value} {u0_65 : Value} {u0_66 : Value} {u0_67 : Value} {u0_70 : Value} {u0_71 : Value} {u0_72 : Value} {u0_73 : Value} {c1 : Nat → Int32} {c2 : Nat → Int32} {n : Int32} {k : Int32} (o0 : g 0 = .inr (12, [u0_0, u0_1, u0_2, u0_3, u0_4, u0_5, u0_6, u0_7, u0_8, u0_9, u0_10, u0_11, u0_12, u0_13, u0_14, u0_15, u0_16, u0_17, u0_18, u0_19, u0_20, u0_21, u0_22, u0_23, u0_24, u0_25, u0_26, u0_27, u0_28, u0_29, u0_30, u0_31, u0_32, u0_33, u0_34, u0_35, u0_36, u0_37, u0_38, u0_39, u0_40, u0_41, u0_42, u0_43, u0_44, u0_45, u0_46, u0_47, u0_48, u0_49, u0_50, u0_51, u0_52, u0_53, u0_54, u0_55, u0_56, u0_57, u0_58, u0_59, u0_60, u0_61, u0_62, u0_63, u0_64, u0_65, u0_66, u0_67, .ref (ad 1), .ref (ad 2), u0_70, u0_71, u0_72, u0_73])) (a1 : g 1 = .inl (cy 0, 30, .inl c1)) (a2 : g 2 = .inl (cy 0, 30, .inl c2)) (p_n : zi 0 29 n) : cMi l yX12_counts wq_k_X12_counts { frames := 0, cells := 0, slots := 0, locals := 0 } 3 0 0 0 D cy ad g [.ref (ad 0), .int n, .int k] (fun r nw lu => (zi 0 1 r) ∧ (lu = [])) := by
  refine cM_of (Qc := fun A => cQi (fun r nw lu => (zi 0 1 r) ∧ (lu = [])) D 3 0 ad g A) (cc := cX12_counts) (maxL := 3) (ret := (some .boolean)) (by decide) rfl (Nat.le_of_ble_eq_true rfl) ?_
  intro p e s m below meth c A hC hr hlk hnm hO ls hl
  have hC : CallFix p m c cX12_counts 3 s [.ref (ad 0), .int n, .int k].toArray wq_k_X12_counts RX12 := hC
  obtain ⟨hx, hb, hml, hown, hts⟩ := id hC
  have hl : lv_has ls 3 [(0, .ref (ad 0)), (1, .int n), (2, .int k)] := hl
  have i_X12 : ∀ w ∈ wsX120, w ∈ wq_k_X12_counts := fun w h => List.mem_cons_of_mem _ (List.mem_append_right _ h)
  refine lv_aload_n hx hb ddX12_counts_0 rfl (lv_at hl 0 rfl) ?_
  refine cg_get hC hO 0 (by decide) o0 rfl i_X12 68 (by decide) (List.mem_of_getElem? (i := 1) rfl) rfl ddX12_counts_1 ?_
  refine lv_iload_n hx hb ddX12_counts_4 rfl (lv_at hl 1 rfl) ?_
  refine zg_iald hC hO 1 (by decide) a1 (za_all _) (zi_in p_n (by decide)) ddX12_counts_5 (fun v_5_23 z_5_24 => ?_)
  refine lv_iload_n hx hb ddX12_counts_6 rfl (lv_at hl 2 rfl) ?_
  refine lv_icmp_gt (tgt := 33) hx hb ddX12_counts_7 (by decide) (fun h_7_25 => ?_) (fun h_7_25 => ?_)
  · have q_7_26 := zr_lt h_7_25
    have z_7_27 : zi (-2147483648) 2147483646 k := zu_lt q_7_26 (zi_all k) z_5_24 (by decide)
    have z_7_28 : zi (-2147483647) 2147483647 v_5_23 := zd_lt q_7_26 (zi_all k) z_5_24 (by decide)
    refine lv_iconst (v := 0) hx hb ddX12_counts_33 (by decide) ?_
    exact cg_iret (nw := fun _ => 0) hC hr hlk hO.same rfl (Nat.le_of_ble_eq_true rfl) (Nat.le_of_ble_eq_true rfl) (⟨(zi_k (a := 0) (b := 1) (x := 0) rfl), rfl⟩) ddX12_counts_34
  · have q_7_29 := zr_nlt h_7_25
    refine lv_aload_n hx hb ddX12_counts_10 rfl (lv_at hl 0 rfl) ?_
    refine cg_get hC hO 0 (by decide) o0 rfl i_X12 69 (by decide) (List.mem_of_getElem? (i := 2) rfl) rfl ddX12_counts_11 ?_
    refine lv_iload_n hx hb ddX12_counts_14 rfl (lv_at hl 1 rfl) ?_
    refine zg_iald hC hO 2 (by decide) a2 (za_all _) (zi_in p_n (by decide)) ddX12_counts_15 (fun v_15_30 z_15_31 => ?_)
    refine lv_if_lt (tgt := 29) hx hb ddX12_counts_16 (by decide) (fun h_16_32 => ?_) (fun h_16_32 => ?_)
    · have q_16_33 := zr_lt h_16_32
      have z_16_34 : zi (-2147483648) (-1) v_15_30 := zu_lt q_16_33 z_15_31 (zi_k (a := 0) (b := 0) (x := 0) rfl) (by decide)
      refine lv_iconst (v := 1) hx hb ddX12_counts_29 (by decide) ?_
      refine lv_goto (tgt := 34) hx hb ddX12_counts_30 (by decide) ?_
      exact cg_iret (nw := fun _ => 0) hC hr hlk hO.same rfl (Nat.le_of_ble_eq_true rfl) (Nat.le_of_ble_eq_true rfl) (⟨(zi_k (a := 0) (b := 1) (x := 1) rfl), rfl⟩) ddX12_counts_34
    · have q_16_35 := zr_nlt h_16_32
      have z_16_36 : zi 0 2147483647 v_15_30 := zd_le q_16_35 (zi_k (a := 0) (b := 0) (x := 0) rfl) z_15_31 (by decide)
      refine lv_aload_n hx hb ddX12_counts_19 rfl (lv_at hl 0 rfl) ?_
      refine cg_get hC hO 0 (by decide) o0 rfl i_X12 69 (by decide) (List.mem_of_getElem? (i := 2) rfl) rfl ddX12_counts_20 ?_
      refine lv_iload_n hx hb ddX12_counts_23 rfl (lv_at hl 1 rfl) ?_
      refine zg_iald hC hO 2 (by decide) a2 (za_all _) (zi_in p_n (by decide)) ddX12_counts_24 (fun v_24_37 z_24_38 => ?_)
      refine lv_iload_n hx hb ddX12_counts_25 rfl (lv_at hl 2 rfl) ?_
      refine lv_icmp_le (tgt := 33) hx hb ddX12_counts_26 (by decide) (fun h_26_39 => ?_) (fun h_26_39 => ?_)
      · have q_26_40 := zr_le h_26_39
        refine lv_iconst (v := 0) hx hb ddX12_counts_33 (by decide) ?_
        exact cg_iret (nw := fun _ => 0) hC hr hlk hO.same rfl (Nat.le_of_ble_eq_true rfl) (Nat.le_of_ble_eq_true rfl) (⟨(zi_k (a := 0) (b := 1) (x := 0) rfl), rfl⟩) ddX12_counts_34
      · have q_26_41 := zr_nle h_26_39
        have z_26_42 : zi (-2147483648) 2147483646 k := zu_lt q_26_41 (zi_all k) z_24_38 (by decide)
        have z_26_43 : zi (-2147483648) 2147483646 v_5_23 := zu_le q_7_29 z_5_24 z_26_42 (by decide)
        have z_26_44 : zi (-2147483647) 2147483647 v_24_37 := zd_lt q_26_41 (zi_all k) z_24_38 (by decide)
        refine lv_iconst (v := 1) hx hb ddX12_counts_29 (by decide) ?_
        refine lv_goto (tgt := 34) hx hb ddX12_counts_30 (by decide) ?_
        exact cg_iret (nw := fun _ => 0) hC hr hlk hO.same rfl (Nat.le_of_ble_eq_true rfl) (Nat.le_of_ble_eq_true rfl) (⟨(zi_k (a := 0) (b := 1) (x := 1) rfl), rfl⟩) ddX12_counts_34

