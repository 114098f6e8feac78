theorem ddX12_about_0 : decode cX12_about 0 = .ok (.iload_n 1, 1) := by decide +kernel
theorem ddX12_about_1 : decode cX12_about 1 = .ok (.tableswitch 112 0 9 #[55, 60, 65, 72, 77, 82, 87, 92, 97, 107], 55) := by decide +kernel
theorem ddX12_about_56 : decode cX12_about 56 = .ok (.aload_n 0, 1) := by decide +kernel
theorem ddX12_about_57 : decode cX12_about 57 = .ok (.invokevirtual 363, 3) := by decide +kernel
theorem ddX12_about_60 : decode cX12_about 60 = .ok (.ireturn, 1) := by decide +kernel
theorem ddX12_about_61 : decode cX12_about 61 = .ok (.aload_n 0, 1) := by decide +kernel
theorem ddX12_about_62 : decode cX12_about 62 = .ok (.invokevirtual 370, 3) := by decide +kernel
theorem ddX12_about_65 : decode cX12_about 65 = .ok (.ireturn, 1) := by decide +kernel
theorem ddX12_about_66 : decode cX12_about 66 = .ok (.aload_n 0, 1) := by decide +kernel
theorem ddX12_about_67 : decode cX12_about 67 = .ok (.getfield 98, 3) := by decide +kernel
theorem ddX12_about_70 : decode cX12_about 70 = .ok (.iconst 0, 1) := by decide +kernel
theorem ddX12_about_71 : decode cX12_about 71 = .ok (.iaload, 1) := by decide +kernel
theorem ddX12_about_72 : decode cX12_about 72 = .ok (.ireturn, 1) := by decide +kernel
theorem ddX12_about_73 : decode cX12_about 73 = .ok (.aload_n 0, 1) := by decide +kernel
theorem ddX12_about_74 : decode cX12_about 74 = .ok (.getfield 373, 3) := by decide +kernel
theorem ddX12_about_77 : decode cX12_about 77 = .ok (.ireturn, 1) := by decide +kernel
theorem ddX12_about_78 : decode cX12_about 78 = .ok (.aload_n 0, 1) := by decide +kernel
theorem ddX12_about_79 : decode cX12_about 79 = .ok (.getfield 376, 3) := by decide +kernel
theorem ddX12_about_82 : decode cX12_about 82 = .ok (.ireturn, 1) := by decide +kernel
theorem ddX12_about_83 : decode cX12_about 83 = .ok (.aload_n 0, 1) := by decide +kernel
theorem ddX12_about_84 : decode cX12_about 84 = .ok (.getfield 292, 3) := by decide +kernel
theorem ddX12_about_87 : decode cX12_about 87 = .ok (.ireturn, 1) := by decide +kernel
theorem ddX12_about_88 : decode cX12_about 88 = .ok (.aload_n 0, 1) := by decide +kernel
theorem ddX12_about_89 : decode cX12_about 89 = .ok (.getfield 455, 3) := by decide +kernel
theorem ddX12_about_92 : decode cX12_about 92 = .ok (.ireturn, 1) := by decide +kernel
theorem ddX12_about_93 : decode cX12_about 93 = .ok (.aload_n 0, 1) := by decide +kernel
theorem ddX12_about_94 : decode cX12_about 94 = .ok (.getfield 283, 3) := by decide +kernel
theorem ddX12_about_97 : decode cX12_about 97 = .ok (.ireturn, 1) := by decide +kernel
theorem ddX12_about_98 : decode cX12_about 98 = .ok (.aload_n 0, 1) := by decide +kernel
theorem ddX12_about_99 : decode cX12_about 99 = .ok (.getfield 30, 3) := by decide +kernel
theorem ddX12_about_102 : decode cX12_about 102 = .ok (.aload_n 0, 1) := by decide +kernel
theorem ddX12_about_103 : decode cX12_about 103 = .ok (.getfield 286, 3) := by decide +kernel
theorem ddX12_about_106 : decode cX12_about 106 = .ok (.iaload, 1) := by decide +kernel
theorem ddX12_about_107 : decode cX12_about 107 = .ok (.ireturn, 1) := by decide +kernel
theorem ddX12_about_108 : decode cX12_about 108 = .ok (.aload_n 0, 1) := by decide +kernel
theorem ddX12_about_109 : decode cX12_about 109 = .ok (.getfield 295, 3) := by decide +kernel
theorem ddX12_about_112 : decode cX12_about 112 = .ok (.ireturn, 1) := by decide +kernel
theorem ddX12_about_113 : decode cX12_about 113 = .ok (.iconst (-1), 1) := by decide +kernel
theorem ddX12_about_114 : decode cX12_about 114 = .ok (.ireturn, 1) := by decide +kernel
def wq_k_X12_about : List Cond := Cond.code yX12_about cX12_about 2 (some .int) :: (([Cond.methodLink RX12 363 yX12_birdMany, Cond.instanceMethod yX12_birdMany, Cond.selects RX12 yX12_birdMany yX12_birdMany, Cond.initialized RX12, Cond.code yX12_birdMany cX12_birdMany 1 (some .int), Cond.fieldLink RX12 20 "CrowTollModel" "birds" "[I", Cond.fieldLink RX12 286 "CrowTollModel" "bank" "I", Cond.methodLink RX12 370 yX12_postMany, Cond.instanceMethod yX12_postMany, Cond.selects RX12 yX12_postMany yX12_postMany, Cond.code yX12_postMany cX12_postMany 1 (some .int), Cond.fieldLink RX12 24 "CrowTollModel" "posts" "[I", Cond.fieldLink RX12 98 "CrowTollModel" "state" "[I", Cond.fieldLink RX12 373 "CrowTollModel" "acts" "I", Cond.fieldLink RX12 376 "CrowTollModel" "undone" "I", Cond.fieldLink RX12 292 "CrowTollModel" "sights" "I", Cond.fieldLink RX12 455 "CrowTollModel" "time" "I", Cond.fieldLink RX12 283 "CrowTollModel" "taped" "I", Cond.fieldLink RX12 30 "CrowTollModel" "units" "[I", Cond.fieldLink RX12 295 "CrowTollModel" "laid" "I"] : List Cond) ++ wsX120)
set_option maxRecDepth 20000 in
theorem gr_k_X12_about_k_X12_birdMany : GoodIn wq_k_X12_about wq_k_X12_birdMany := List.forall_mem_cons.mpr ⟨⟨(List.mem_of_getElem? (i := 5) rfl), good_of_word rfl⟩, List.forall_mem_append.mpr ⟨List.forall_mem_cons.mpr ⟨⟨(List.mem_of_getElem? (i := 6) rfl), good_of_word rfl⟩, List.forall_mem_cons.mpr ⟨⟨(List.mem_of_getElem? (i := 7) rfl), good_of_word rfl⟩, (fun _ h => absurd h List.not_mem_nil)⟩⟩, fun w h => ⟨(fun w h => List.mem_cons_of_mem _ (List.mem_append_right _ h)) w h, good_of_word (List.all_eq_true.mp gw_X12 w h)⟩⟩⟩
set_option maxRecDepth 20000 in
theorem gq_k_X12_about_k_X12_birdMany_363 : GoodIn wq_k_X12_about (wsV RX12 363 RX12 yX12_birdMany wq_k_X12_birdMany) := goodIn_app (List.forall_mem_cons.mpr ⟨⟨(List.mem_of_getElem? (i := 1) rfl), good_of_word rfl⟩, List.forall_mem_cons.mpr ⟨⟨(List.mem_of_getElem? (i := 2) rfl), good_of_word rfl⟩, List.forall_mem_cons.mpr ⟨⟨(List.mem_of_getElem? (i := 3) rfl), good_of_word rfl⟩, List.forall_mem_cons.mpr ⟨⟨(List.mem_of_getElem? (i := 4) rfl), good_of_word rfl⟩, (fun _ h => absurd h List.not_mem_nil)⟩⟩⟩⟩) gr_k_X12_about_k_X12_birdMany
set_option maxRecDepth 20000 in
theorem gr_k_X12_about_k_X12_postMany : GoodIn wq_k_X12_about wq_k_X12_postMany := List.forall_mem_cons.mpr ⟨⟨(List.mem_of_getElem? (i := 11) rfl), good_of_word rfl⟩, List.forall_mem_append.mpr ⟨List.forall_mem_cons.mpr ⟨⟨(List.mem_of_getElem? (i := 12) rfl), good_of_word rfl⟩, List.forall_mem_cons.mpr ⟨⟨(List.mem_of_getElem? (i := 7) rfl), good_of_word rfl⟩, (fun _ h => absurd h List.not_mem_nil)⟩⟩, fun w h => ⟨(fun w h => List.mem_cons_of_mem _ (List.mem_append_right _ h)) w h, good_of_word (List.all_eq_true.mp gw_X12 w h)⟩⟩⟩
set_option maxRecDepth 20000 in
theorem gq_k_X12_about_k_X12_postMany_370 : GoodIn wq_k_X12_about (wsV RX12 370 RX12 yX12_postMany wq_k_X12_postMany) := goodIn_app (List.forall_mem_cons.mpr ⟨⟨(List.mem_of_getElem? (i := 8) rfl), good_of_word rfl⟩, List.forall_mem_cons.mpr ⟨⟨(List.mem_of_getElem? (i := 9) rfl), good_of_word rfl⟩, List.forall_mem_cons.mpr ⟨⟨(List.mem_of_getElem? (i := 10) rfl), good_of_word rfl⟩, List.forall_mem_cons.mpr ⟨⟨(List.mem_of_getElem? (i := 4) rfl), good_of_word rfl⟩, (fun _ h => absurd h List.not_mem_nil)⟩⟩⟩⟩) gr_k_X12_about_k_X12_postMany
set_option maxHeartbeats 8000000 in
set_option maxRecDepth 100000 in
theorem k_X12_about (l : Launch) (D : va_G) (cy : Nat → ClassId) (ad : Nat → Nat) (g : Nat → va_E) {u0_0 : Value} {u0_1 : Value} {x0_2 : Int32} {u0_3 : Value} {u0_4 : Value} {u0_5 : Value} {u0_6 : Value} {u0_7 : Value} {u0_8 : Value} {u0_9 : Value} {u0_10 : Value} {u0_13 : Value} {u0_15 : Value} {u0_16 : Value} {u0_17 : Value} {u0_18 : Value} {u0_19 : Value} {u0_20 : Value} {u0_21 : Value} {u0_22 : Value} {u0_23 : Value} {u0_24 : Value} {u0_25 : Value} {u0_26 : Value} {u0_27 : Value} {u0_28 : Value} {u0_29 : Value} {u0_30 : Value} {u0_31 : Value} {u0_32 : Value} {u0_33 : Value} {u0_34 : Value} {u0_35 : Value} {x0_36 : Int32} {u0_37 : Value} {u0_38 : Value} {u0_39 : Value} {u0_40 : Value} {u0_42 : Value} {u0_43 : Value} {u0_44 : Value} {u0_45 : Value} {u0_46 : Value} {u0_47 : Value} {u0_48 : Value} {u0_49 : Value} {u0_50 : Value} {u0_51 : Value} {u0_52 : Value} {u0_53 : Value} {u0_54 : Value} {u0_55 : Value} {u0_56 : Value} {u0_57 : Value} {u0_58 : Value} {x0_59 : Int32} {x0_60 : Int32} {u0_61 : Value} {x0_62 : Int32} {u0_63 : Value} {u0_64 : Value} {u0_65 : Value} {u0_66 : Value} {u0_67 : Value} {u0_68 : Value} {u0_69 : Value} {x0_70 : Int32} {x0_71 : Int32} {u0_72 : Value} {u0_73 : Value} {c1 : Nat → Int32} {c2 : Nat → Int32} {c3 : Nat → Int32} {c4 : Nat → Int32} {what : Int32} (o0 : g 0 = .inr (12, [u0_0, u0_1, .int x0_2, u0_3, u0_4, u0_5, u0_6, u0_7, u0_8, u0_9, u0_10, .ref (ad 1), .ref (ad 2), u0_13, .ref (ad 4), u0_15, u0_16, u0_17, u0_18, u0_19, u0_20, u0_21, u0_22, u0_23, u0_24, u0_25, u0_26, u0_27, u0_28, u0_29, u0_30, u0_31, u0_32, u0_33, u0_34, u0_35, .int x0_36, u0_37, u0_38, u0_39, u0_40, .ref (ad 3), u0_42, u0_43, u0_44, u0_45, u0_46, u0_47, u0_48, u0_49, u0_50, u0_51, u0_52, u0_53, u0_54, u0_55, u0_56, u0_57, u0_58, .int x0_59, .int x0_60, u0_61, .int x0_62, u0_63, u0_64, u0_65, u0_66, u0_67, u0_68, u0_69, .int x0_70, .int x0_71, u0_72, u0_73])) (a1 : g 1 = .inl (cy 0, 2, .inl c1)) (a2 : g 2 = .inl (cy 0, 2, .inl c2)) (a3 : g 3 = .inl (cy 0, 80, .inl c3)) (a4 : g 4 = .inl (cy 0, 2, .inl c4)) (b0_2 : zi 0 1600 x0_2) (b0_36 : zi 0 1 x0_36) (b0_59 : zi 0 40 x0_59) (b0_60 : zi 0 40 x0_60) (b0_62 : zi 0 24 x0_62) (b0_70 : zi 0 30 x0_70) (b0_71 : zi 0 100000 x0_71) (ha1 : za 0 5 c1) (ha2 : za 0 4 c2) (ha3 : zs c3) (ha4 : za 0 30 c4) (hw0U : ((x0_59 : Int32).toInt + (x0_60 : Int32).toInt ≤ 40)) : cMi l yX12_about wq_k_X12_about { frames := 1, cells := 0, slots := 0, locals := 20 } 5 0 0 0 D cy ad g [.ref (ad 0), .int what] (fun r nw lu => (zi (-1) 100000 r) ∧ (lu = [])) := by
  refine cM_of (Qc := fun A => cQi (fun r nw lu => (zi (-1) 100000 r) ∧ (lu = [])) D 5 0 ad g A) (cc := cX12_about) (maxL := 2) (ret := (some .int)) (by decide) rfl (Nat.le_of_ble_eq_true rfl) ?_
  intro p e s m below meth c A hC hr hlk hnm hO ls hl
  have hC : CallFix p m c cX12_about 2 s [.ref (ad 0), .int what].toArray wq_k_X12_about RX12 := hC
  obtain ⟨hx, hb, hml, hown, hts⟩ := id hC
  have hl : lv_has ls 2 [(0, .ref (ad 0)), (1, .int what)] := hl
  have i_X12 : ∀ w ∈ wsX120, w ∈ wq_k_X12_about := fun w h => List.mem_cons_of_mem _ (List.mem_append_right _ h)
  refine lv_iload_n hx hb ddX12_about_0 rfl (lv_at hl 1 rfl) ?_
  by_cases hs_1_18_0 : what = 0
  · refine lv_tableIn (tgt := 56) hx hb ddX12_about_1 (by rw [hs_1_18_0]; decide) (by rw [hs_1_18_0]; decide) (by rw [hs_1_18_0]; rfl) (by decide) ?_
    refine lv_aload_n hx hb ddX12_about_56 rfl (lv_at hl 0 rfl) ?_
    refine cg_Vi (As := []) (rest := []) (mc := 0) (ms := 0) (rm := { frames := 0, cells := 0, slots := 0, locals := 0 }) hC hl.1 hO [0, 1] (by decide +kernel) (k_X12_birdMany l D cy _ _ (u0_0 := u0_0) (u0_1 := u0_1) (u0_2 := .int x0_2) (u0_3 := u0_3) (u0_4 := u0_4) (u0_5 := u0_5) (u0_6 := u0_6) (u0_7 := u0_7) (u0_8 := u0_8) (u0_9 := u0_9) (u0_10 := u0_10) (c1 := c1) (u0_12 := .ref (ad 2)) (u0_13 := u0_13) (u0_14 := .ref (ad 4)) (u0_15 := u0_15) (u0_16 := u0_16) (u0_17 := u0_17) (u0_18 := u0_18) (u0_19 := u0_19) (u0_20 := u0_20) (u0_21 := u0_21) (u0_22 := u0_22) (u0_23 := u0_23) (u0_24 := u0_24) (u0_25 := u0_25) (u0_26 := u0_26) (u0_27 := u0_27) (u0_28 := u0_28) (u0_29 := u0_29) (u0_30 := u0_30) (u0_31 := u0_31) (u0_32 := u0_32) (u0_33 := u0_33) (u0_34 := u0_34) (u0_35 := u0_35) (x0_36 := x0_36) (u0_37 := u0_37) (u0_38 := u0_38) (u0_39 := u0_39) (u0_40 := u0_40) (u0_41 := .ref (ad 3)) (u0_42 := u0_42) (u0_43 := u0_43) (u0_44 := u0_44) (u0_45 := u0_45) (u0_46 := u0_46) (u0_47 := u0_47) (u0_48 := u0_48) (u0_49 := u0_49) (u0_50 := u0_50) (u0_51 := u0_51) (u0_52 := u0_52) (u0_53 := u0_53) (u0_54 := u0_54) (u0_55 := u0_55) (u0_56 := u0_56) (u0_57 := u0_57) (u0_58 := u0_58) (u0_59 := .int x0_59) (u0_60 := .int x0_60) (u0_61 := u0_61) (u0_62 := .int x0_62) (u0_63 := u0_63) (u0_64 := u0_64) (u0_65 := u0_65) (u0_66 := u0_66) (u0_67 := u0_67) (u0_68 := u0_68) (u0_69 := u0_69) (u0_70 := .int x0_70) (u0_71 := .int x0_71) (u0_72 := u0_72) (u0_73 := u0_73) o0 a1 b0_36 ha1) gq_k_X12_about_k_X12_birdMany_363 rfl rfl rfl 0 (by decide +kernel) ⟨Nat.le_of_ble_eq_true rfl, Nat.le_of_ble_eq_true rfl⟩ rfl (by decide) o0 rfl rfl (Nat.le_of_ble_eq_true rfl) ddX12_about_57 ⟨Nat.le_of_ble_eq_true rfl, Nat.le_of_ble_eq_true rfl⟩ (fun r_57_21 nw_57_19 l_57_20 H locs hw hO => ?_)
    obtain ⟨z_57_22, el_57_23, rfl⟩ := hw
    have hO : cO D cy A s.heap s 5 ad (cup [] g) _ _ := hO
    exact cg_iret (nw := fun _ => 0) hC hr hlk hO.same rfl (Nat.le_of_ble_eq_true rfl) (Nat.le_of_ble_eq_true rfl) (⟨(zi_w (c := (-1)) (d := 100000) z_57_22 (by decide)), rfl⟩) ddX12_about_60
  by_cases hs_1_18_1 : what = 1
  · refine lv_tableIn (tgt := 61) hx hb ddX12_about_1 (by rw [hs_1_18_1]; decide) (by rw [hs_1_18_1]; decide) (by rw [hs_1_18_1]; rfl) (by decide) ?_
    refine lv_aload_n hx hb ddX12_about_61 rfl (lv_at hl 0 rfl) ?_
    refine cg_Vi (As := []) (rest := []) (mc := 0) (ms := 0) (rm := { frames := 0, cells := 0, slots := 0, locals := 0 }) hC hl.1 hO [0, 2] (by decide +kernel) (k_X12_postMany l D cy _ _ (u0_0 := u0_0) (u0_1 := u0_1) (u0_2 := .int x0_2) (u0_3 := u0_3) (u0_4 := u0_4) (u0_5 := u0_5) (u0_6 := u0_6) (u0_7 := u0_7) (u0_8 := u0_8) (u0_9 := u0_9) (u0_10 := u0_10) (u0_11 := .ref (ad 1)) (c1 := c2) (u0_13 := u0_13) (u0_14 := .ref (ad 4)) (u0_15 := u0_15) (u0_16 := u0_16) (u0_17 := u0_17) (u0_18 := u0_18) (u0_19 := u0_19) (u0_20 := u0_20) (u0_21 := u0_21) (u0_22 := u0_22) (u0_23 := u0_23) (u0_24 := u0_24) (u0_25 := u0_25) (u0_26 := u0_26) (u0_27 := u0_27) (u0_28 := u0_28) (u0_29 := u0_29) (u0_30 := u0_30) (u0_31 := u0_31) (u0_32 := u0_32) (u0_33 := u0_33) (u0_34 := u0_34) (u0_35 := u0_35) (x0_36 := x0_36) (u0_37 := u0_37) (u0_38 := u0_38) (u0_39 := u0_39) (u0_40 := u0_40) (u0_41 := .ref (ad 3)) (u0_42 := u0_42) (u0_43 := u0_43) (u0_44 := u0_44) (u0_45 := u0_45) (u0_46 := u0_46) (u0_47 := u0_47) (u0_48 := u0_48) (u0_49 := u0_49) (u0_50 := u0_50) (u0_51 := u0_51) (u0_52 := u0_52) (u0_53 := u0_53) (u0_54 := u0_54) (u0_55 := u0_55) (u0_56 := u0_56) (u0_57 := u0_57) (u0_58 := u0_58) (u0_59 := .int x0_59) (u0_60 := .int x0_60) (u0_61 := u0_61) (u0_62 := .int x0_62) (u0_63 := u0_63) (u0_64 := u0_64) (u0_65 := u0_65) (u0_66 := u0_66) (u0_67 := u0_67) (u0_68 := u0_68) (u0_69 := u0_69) (u0_70 := .int x0_70) (u0_71 := .int x0_71) (u0_72 := u0_72) (u0_73 := u0_73) o0 a2 b0_36 ha2) gq_k_X12_about_k_X12_postMany_370 rfl rfl rfl 0 (by decide +kernel) ⟨Nat.le_of_ble_eq_true rfl, Nat.le_of_ble_eq_true rfl⟩ rfl (by decide) o0 rfl rfl (Nat.le_of_ble_eq_true rfl) ddX12_about_62 ⟨Nat.le_of_ble_eq_true rfl, Nat.le_of_ble_eq_true rfl⟩ (fun r_62_26 nw_62_24 l_62_25 H locs hw hO => ?_)
    obtain ⟨z_62_27, el_62_28, rfl⟩ := hw
    have hO : cO D cy A s.heap s 5 ad (cup [] g) _ _ := hO
    exact cg_iret (nw := fun _ => 0) hC hr hlk hO.same rfl (Nat.le_of_ble_eq_true rfl) (Nat.le_of_ble_eq_true rfl) (⟨(zi_w (c := (-1)) (d := 100000) z_62_27 (by decide)), rfl⟩) ddX12_about_65
  by_cases hs_1_18_2 : what = 2
  · refine lv_tableIn (tgt := 66) hx hb ddX12_about_1 (by rw [hs_1_18_2]; decide) (by rw [hs_1_18_2]; decide) (by rw [hs_1_18_2]; rfl) (by decide) ?_
    refine lv_aload_n hx hb ddX12_about_66 rfl (lv_at hl 0 rfl) ?_
    refine cg_get hC hO 0 (by decide) o0 rfl i_X12 41 (by decide) (List.mem_of_getElem? (i := 13) rfl) rfl ddX12_about_67 ?_
    refine lv_iconst (v := 0) hx hb ddX12_about_70 (by decide) ?_
    refine zg_ialdS hC hO 3 (by decide) a3 ha3 (cin (by decide)) ddX12_about_71 (fun v_71_29 z_71_30 el_71_31 => ?_)
    have z_71_32 : zi 0 24 v_71_29 := z_71_30 (by decide)
    exact cg_iret (nw := fun _ => 0) hC hr hlk hO.same rfl (Nat.le_of_ble_eq_true rfl) (Nat.le_of_ble_eq_true rfl) (⟨(zi_w (c := (-1)) (d := 100000) z_71_32 (by decide)), rfl⟩) ddX12_about_72
  by_cases hs_1_18_3 : what = 3
  · refine lv_tableIn (tgt := 73) hx hb ddX12_about_1 (by rw [hs_1_18_3]; decide) (by rw [hs_1_18_3]; decide) (by rw [hs_1_18_3]; rfl) (by decide) ?_
    refine lv_aload_n hx hb ddX12_about_73 rfl (lv_at hl 0 rfl) ?_
    refine cg_get hC hO 0 (by decide) o0 rfl i_X12 59 (by decide) (List.mem_of_getElem? (i := 14) rfl) rfl ddX12_about_74 ?_
    exact cg_iret (nw := fun _ => 0) hC hr hlk hO.same rfl (Nat.le_of_ble_eq_true rfl) (Nat.le_of_ble_eq_true rfl) (⟨(zi_w (c := (-1)) (d := 100000) b0_59 (by decide)), rfl⟩) ddX12_about_77
  by_cases hs_1_18_4 : what = 4
  · refine lv_tableIn (tgt := 78) hx hb ddX12_about_1 (by rw [hs_1_18_4]; decide) (by rw [hs_1_18_4]; decide) (by rw [hs_1_18_4]; rfl) (by decide) ?_
    refine lv_aload_n hx hb ddX12_about_78 rfl (lv_at hl 0 rfl) ?_
    refine cg_get hC hO 0 (by decide) o0 rfl i_X12 60 (by decide) (List.mem_of_getElem? (i := 15) rfl) rfl ddX12_about_79 ?_
    exact cg_iret (nw := fun _ => 0) hC hr hlk hO.same rfl (Nat.le_of_ble_eq_true rfl) (Nat.le_of_ble_eq_true rfl) (⟨(zi_w (c := (-1)) (d := 100000) b0_60 (by decide)), rfl⟩) ddX12_about_82
  by_cases hs_1_18_5 : what = 5
  · refine lv_tableIn (tgt := 83) hx hb ddX12_about_1 (by rw [hs_1_18_5]; decide) (by rw [hs_1_18_5]; decide) (by rw [hs_1_18_5]; rfl) (by decide) ?_
    refine lv_aload_n hx hb ddX12_about_83 rfl (lv_at hl 0 rfl) ?_
    refine cg_get hC hO 0 (by decide) o0 rfl i_X12 70 (by decide) (List.mem_of_getElem? (i := 16) rfl) rfl ddX12_about_84 ?_
    exact cg_iret (nw := fun _ => 0) hC hr hlk hO.same rfl (Nat.le_of_ble_eq_true rfl) (Nat.le_of_ble_eq_true rfl) (⟨(zi_w (c := (-1)) (d := 100000) b0_70 (by decide)), rfl⟩) ddX12_about_87
  by_cases hs_1_18_6 : what = 6
  · refine lv_tableIn (tgt := 88) hx hb ddX12_about_1 (by rw [hs_1_18_6]; decide) (by rw [hs_1_18_6]; decide) (by rw [hs_1_18_6]; rfl) (by decide) ?_
    refine lv_aload_n hx hb ddX12_about_88 rfl (lv_at hl 0 rfl) ?_
    refine cg_get hC hO 0 (by decide) o0 rfl i_X12 71 (by decide) (List.mem_of_getElem? (i := 17) rfl) rfl ddX12_about_89 ?_
    exact cg_iret (nw := fun _ => 0) hC hr hlk hO.same rfl (Nat.le_of_ble_eq_true rfl) (Nat.le_of_ble_eq_true rfl) (⟨(zi_w (c := (-1)) (d := 100000) b0_71 (by decide)), rfl⟩) ddX12_about_92
  by_cases hs_1_18_7 : what = 7
  · refine lv_tableIn (tgt := 93) hx hb ddX12_about_1 (by rw [hs_1_18_7]; decide) (by rw [hs_1_18_7]; decide) (by rw [hs_1_18_7]; rfl) (by decide) ?_
    refine lv_aload_n hx hb ddX12_about_93 rfl (lv_at hl 0 rfl) ?_
    refine cg_get hC hO 0 (by decide) o0 rfl i_X12 2 (by decide) (List.mem_of_getElem? (i := 18) rfl) rfl ddX12_about_94 ?_
    exact cg_iret (nw := fun _ => 0) hC hr hlk hO.same rfl (Nat.le_of_ble_eq_true rfl) (Nat.le_of_ble_eq_true rfl) (⟨(zi_w (c := (-1)) (d := 100000) b0_2 (by decide)), rfl⟩) ddX12_about_97
  by_cases hs_1_18_8 : what = 8
  · refine lv_tableIn (tgt := 98) hx hb ddX12_about_1 (by rw [hs_1_18_8]; decide) (by rw [hs_1_18_8]; decide) (by rw [hs_1_18_8]; rfl) (by decide) ?_
    refine lv_aload_n hx hb ddX12_about_98 rfl (lv_at hl 0 rfl) ?_
    refine cg_get hC hO 0 (by decide) o0 rfl i_X12 14 (by decide) (List.mem_of_getElem? (i := 19) rfl) rfl ddX12_about_99 ?_
    refine lv_aload_n hx hb ddX12_about_102 rfl (lv_at hl 0 rfl) ?_
    refine cg_get hC hO 0 (by decide) o0 rfl i_X12 36 (by decide) (List.mem_of_getElem? (i := 7) rfl) rfl ddX12_about_103 ?_
    refine zg_iald hC hO 4 (by decide) a4 ha4 (zi_in b0_36 (by decide)) ddX12_about_106 (fun v_106_33 z_106_34 => ?_)
    exact cg_iret (nw := fun _ => 0) hC hr hlk hO.same rfl (Nat.le_of_ble_eq_true rfl) (Nat.le_of_ble_eq_true rfl) (⟨(zi_w (c := (-1)) (d := 100000) z_106_34 (by decide)), rfl⟩) ddX12_about_107
  by_cases hs_1_18_9 : what = 9
  · refine lv_tableIn (tgt := 108) hx hb ddX12_about_1 (by rw [hs_1_18_9]; decide) (by rw [hs_1_18_9]; decide) (by rw [hs_1_18_9]; rfl) (by decide) ?_
    refine lv_aload_n hx hb ddX12_about_108 rfl (lv_at hl 0 rfl) ?_
    refine cg_get hC hO 0 (by decide) o0 rfl i_X12 62 (by decide) (List.mem_of_getElem? (i := 20) rfl) rfl ddX12_about_109 ?_
    exact cg_iret (nw := fun _ => 0) hC hr hlk hO.same rfl (Nat.le_of_ble_eq_true rfl) (Nat.le_of_ble_eq_true rfl) (⟨(zi_w (c := (-1)) (d := 100000) b0_62 (by decide)), rfl⟩) ddX12_about_112
  refine lv_tableOut (tgt := 113) hx hb ddX12_about_1 (tsw_out_0_9 what hs_1_18_0 hs_1_18_1 hs_1_18_2 hs_1_18_3 hs_1_18_4 hs_1_18_5 hs_1_18_6 hs_1_18_7 hs_1_18_8 hs_1_18_9) (by decide) ?_
  refine lv_iconst (v := (-1)) hx hb ddX12_about_113 (by decide) ?_
  exact cg_iret (nw := fun _ => 0) hC hr hlk hO.same rfl (Nat.le_of_ble_eq_true rfl) (Nat.le_of_ble_eq_true rfl) (⟨(zi_k (a := (-1)) (b := 100000) (x := (-1)) rfl), rfl⟩) ddX12_about_114

theorem ddX12_feed_0 : decode cX12_feed 0 = .ok (.aload_n 0, 1) := by decide +kernel
theorem ddX12_feed_1 : decode cX12_feed 1 = .ok (.getfield 283, 3) := by decide +kernel
theorem ddX12_feed_4 : decode cX12_feed 4 = .ok (.bipush 20, 2) := by decide +kernel
theorem ddX12_feed_6 : decode cX12_feed 6 = .ok (.iadd, 1) := by decide +kernel
theorem ddX12_feed_7 : decode cX12_feed 7 = .ok (.sipush 1600, 3) := by decide +kernel
theorem ddX12_feed_10 : decode cX12_feed 10 = .ok (.if_icmp .le 5, 3) := by decide +kernel
theorem ddX12_feed_13 : decode cX12_feed 13 = .ok (.iconst (-1), 1) := by decide +kernel
theorem ddX12_feed_14 : decode cX12_feed 14 = .ok (.ireturn, 1) := by decide +kernel
theorem ddX12_feed_15 : decode cX12_feed 15 = .ok (.iconst 0, 1) := by decide +kernel
theorem ddX12_feed_16 : decode cX12_feed 16 = .ok (.istore 6, 2) := by decide +kernel
theorem ddX12_feed_18 : decode cX12_feed 18 = .ok (.iload 6, 2) := by decide +kernel
theorem ddX12_feed_20 : decode cX12_feed 20 = .ok (.bipush 20, 2) := by decide +kernel
theorem ddX12_feed_22 : decode cX12_feed 22 = .ok (.if_icmp .ge 83, 3) := by decide +kernel
theorem ddX12_feed_25 : decode cX12_feed 25 = .ok (.iload 6, 2) := by decide +kernel
theorem ddX12_feed_27 : decode cX12_feed 27 = .ok (.iconst 4, 1) := by decide +kernel
theorem ddX12_feed_28 : decode cX12_feed 28 = .ok (.if_icmp .ge 7, 3) := by decide +kernel
theorem ddX12_feed_31 : decode cX12_feed 31 = .ok (.iload_n 1, 1) := by decide +kernel
theorem ddX12_feed_32 : decode cX12_feed 32 = .ok (.goto 39, 3) := by decide +kernel
theorem ddX12_feed_35 : decode cX12_feed 35 = .ok (.iload 6, 2) := by decide +kernel
theorem ddX12_feed_37 : decode cX12_feed 37 = .ok (.bipush 8, 2) := by decide +kernel
theorem ddX12_feed_39 : decode cX12_feed 39 = .ok (.if_icmp .ge 7, 3) := by decide +kernel
theorem ddX12_feed_42 : decode cX12_feed 42 = .ok (.iload_n 2, 1) := by decide +kernel
theorem ddX12_feed_43 : decode cX12_feed 43 = .ok (.goto 28, 3) := by decide +kernel
theorem ddX12_feed_46 : decode cX12_feed 46 = .ok (.iload 6, 2) := by decide +kernel
theorem ddX12_feed_48 : decode cX12_feed 48 = .ok (.bipush 12, 2) := by decide +kernel
theorem ddX12_feed_50 : decode cX12_feed 50 = .ok (.if_icmp .ge 7, 3) := by decide +kernel
theorem ddX12_feed_53 : decode cX12_feed 53 = .ok (.iload_n 3, 1) := by decide +kernel
theorem ddX12_feed_54 : decode cX12_feed 54 = .ok (.goto 17, 3) := by decide +kernel
theorem ddX12_feed_57 : decode cX12_feed 57 = .ok (.iload 6, 2) := by decide +kernel
theorem ddX12_feed_59 : decode cX12_feed 59 = .ok (.bipush 16, 2) := by decide +kernel
theorem ddX12_feed_61 : decode cX12_feed 61 = .ok (.if_icmp .ge 8, 3) := by decide +kernel
theorem ddX12_feed_64 : decode cX12_feed 64 = .ok (.iload 4, 2) := by decide +kernel
theorem ddX12_feed_66 : decode cX12_feed 66 = .ok (.goto 5, 3) := by decide +kernel
theorem ddX12_feed_69 : decode cX12_feed 69 = .ok (.iload 5, 2) := by decide +kernel
theorem ddX12_feed_71 : decode cX12_feed 71 = .ok (.istore 7, 2) := by decide +kernel
theorem ddX12_feed_73 : decode cX12_feed 73 = .ok (.aload_n 0, 1) := by decide +kernel
theorem ddX12_feed_74 : decode cX12_feed 74 = .ok (.getfield 7, 3) := by decide +kernel
theorem ddX12_feed_77 : decode cX12_feed 77 = .ok (.aload_n 0, 1) := by decide +kernel
theorem ddX12_feed_78 : decode cX12_feed 78 = .ok (.getfield 283, 3) := by decide +kernel
theorem ddX12_feed_81 : decode cX12_feed 81 = .ok (.iload 6, 2) := by decide +kernel
theorem ddX12_feed_83 : decode cX12_feed 83 = .ok (.iadd, 1) := by decide +kernel
theorem ddX12_feed_84 : decode cX12_feed 84 = .ok (.iload 7, 2) := by decide +kernel
theorem ddX12_feed_86 : decode cX12_feed 86 = .ok (.bipush 24, 2) := by decide +kernel
theorem ddX12_feed_88 : decode cX12_feed 88 = .ok (.bipush 8, 2) := by decide +kernel
theorem ddX12_feed_90 : decode cX12_feed 90 = .ok (.iload 6, 2) := by decide +kernel
theorem ddX12_feed_92 : decode cX12_feed 92 = .ok (.iconst 3, 1) := by decide +kernel
theorem ddX12_feed_93 : decode cX12_feed 93 = .ok (.iand, 1) := by decide +kernel
theorem ddX12_feed_94 : decode cX12_feed 94 = .ok (.imul, 1) := by decide +kernel
theorem ddX12_feed_95 : decode cX12_feed 95 = .ok (.isub, 1) := by decide +kernel
theorem ddX12_feed_96 : decode cX12_feed 96 = .ok (.ishr, 1) := by decide +kernel
theorem ddX12_feed_97 : decode cX12_feed 97 = .ok (.i2b, 1) := by decide +kernel
theorem ddX12_feed_98 : decode cX12_feed 98 = .ok (.bastore, 1) := by decide +kernel
theorem ddX12_feed_99 : decode cX12_feed 99 = .ok (.iinc 6 1, 3) := by decide +kernel
theorem ddX12_feed_102 : decode cX12_feed 102 = .ok (.goto (-84), 3) := by decide +kernel
theorem ddX12_feed_105 : decode cX12_feed 105 = .ok (.aload_n 0, 1) := by decide +kernel
theorem ddX12_feed_106 : decode cX12_feed 106 = .ok (.dup, 1) := by decide +kernel
theorem ddX12_feed_107 : decode cX12_feed 107 = .ok (.getfield 283, 3) := by decide +kernel
theorem ddX12_feed_110 : decode cX12_feed 110 = .ok (.bipush 20, 2) := by decide +kernel
theorem ddX12_feed_112 : decode cX12_feed 112 = .ok (.iadd, 1) := by decide +kernel
theorem ddX12_feed_113 : decode cX12_feed 113 = .ok (.putfield 283, 3) := by decide +kernel
theorem ddX12_feed_116 : decode cX12_feed 116 = .ok (.aload_n 0, 1) := by decide +kernel
theorem ddX12_feed_117 : decode cX12_feed 117 = .ok (.getfield 283, 3) := by decide +kernel
theorem ddX12_feed_120 : decode cX12_feed 120 = .ok (.ireturn, 1) := by decide +kernel
def wq_k_X12_feed : List Cond := Cond.code yX12_feed cX12_feed 8 (some .int) :: (([Cond.fieldLink RX12 283 "CrowTollModel" "taped" "I", Cond.fieldLink RX12 7 "CrowTollModel" "tape" "[B"] : List Cond) ++ wsX120)
set_option maxHeartbeats 8000000 in
set_option maxRecDepth 100000 in
theorem k_X12_feed (l : Launch) (D : va_G) (cy : Nat → ClassId) (ad : Nat → Nat) (g : Nat → va_E) {u0_1 : Value} {x0_2 : Int32} {u0_3 : Value} {u0_4 : Value} {u0_5 : Value} {u0_6 : Value} {u0_7 : Value} {u0_8 : Value} {u0_9 : Value} {u0_10 : Value} {u0_11 : Value} {u0_12 : Value} {u0_13 : Value} {u0_14 : Value} {u0_15 : Value} {u0_16 : Value} {u0_17 : Value} {u0_18 : Value} {u0_19 : Value} {u0_20 : Value} {u0_21 : Value} {u0_22 : Value} {u0_23 : Value} {u0_24 : Value} {u0_25 : Value} {u0_26 : Value} {u0_27 : Value} {u0_28 : Value} {u0_29 : Value} {u0_30 : Value} {u0_31 : Value} {u0_32 : Value} {u0_33 : Value} {u0_34 : Value} {u0_35 : Value} {u0_36 : Value} {u0_37 : Value} {u0_38 : Value} {u0_39 : Value} {u0_40 : Value} {u0_41 : Value} {u0_42 : Value} {u0_43 : Value} {u0_44 : Value} {u0_45 : Value} {u0_46 : Value} {u0_47 : Value} {u0_48 : Value} {u0_49 : Value} {u0_50 : Value} {u0_51 : Value} {u0_52 : Value} {u0_53 : Value} {u0_54 : Value} {u0_55 : Value} {u0_56 : Value} {u0_57 : Value} {u0_58 : Value} {u0_59 : Value} {u0_60 : Value} {u0_61 : Value} {u0_62 : Value} {u0_63 : Value} {u0_64 : Value} {u0_65 : Value} {u0_66 : Value} {u0_67 : Value} {u0_68 : Value} {u0_69 : Value} {u0_70 : Value} {u0_71 : Value} {u0_72 : Value} {u0_73 : Value} {c1 : Nat → Int32} {ax : Int32} {bx : Int32} {cx : Int32} {dx : Int32} {ex : Int32} (o0 : g 0 = .inr (12, [.ref (ad 1), u0_1, .int x0_2, u0_3, u0_4, u0_5, u0_6, u0_7, u0_8, u0_9, u0_10, u0_11, u0_12, u0_13, u0_14, u0_15, u0_16, u0_17, u0_18, u0_19, u0_20, u0_21, u0_22, u0_23, u0_24, u0_25, u0_26, u0_27, u0_28, u0_29, u0_30, u0_31, u0_32, u0_33, u0_34, u0_35, u0_36, u0_37, u0_38, u0_39, u0_40, u0_41, u0_42, u0_43, u0_44, u0_45, u0_46, u0_47, u0_48, u0_49, u0_50, u0_51, u0_52, u0_53, u0_54, u0_55, u0_56, u0_57, u0_58, u0_59, u0_60, u0_61, u0_62, u0_63, u0_64, u0_65, u0_66, u0_67, u0_68, u0_69, u0_70, u0_71, u0_72, u0_73])) (a1 : g 1 = .inl (cy 3, 1620, .inl c1)) (b0_2 : zi 0 1600 x0_2) : cMi l yX12_feed wq_k_X12_feed { frames := 0, cells := 0, slots := 0, locals := 0 } 2 0 0 0 D cy ad g [.ref (ad 0), .int ax, .int bx, .int cx, .int dx, .int ex] (fun r nw lu => ∃ (y0_2 : Int32) (d1 : Nat → Int32), (zi 20 1600 y0_2) ∧ (zi (-1) 1600 r) ∧ (lu = [(0, .inr (12, [.ref (ad 1), u0_1, .int y0_2, u0_3, u0_4, u0_5, u0_6, u0_7, u0_8, u0_9, u0_10, u0_11, u0_12, u0_13, u0_14, u0_15, u0_16, u0_17, u0_18, u0_19, u0_20, u0_21, u0_22, u0_23, u0_24, u0_25, u0_26, u0_27, u0_28, u0_29, u0_30, u0_31, u0_32, u0_33, u0_34, u0_35, u0_36, u0_37, u0_38, u0_39, u0_40, u0_41, u0_42, u0_43, u0_44, u0_45, u0_46, u0_47, u0_48, u0_49, u0_50, u0_51, u0_52, u0_53, u0_54, u0_55, u0_56, u0_57, u0_58, u0_59, u0_60, u0_61, u0_62, u0_63, u0_64, u0_65, u0_66, u0_67, u0_68, u0_69, u0_70, u0_71, u0_72, u0_73])), (1, .inl (cy 3, 1620, .inl d1))])) := by
  refine cM_of (Qc := fun A => cQi (fun r nw lu => ∃ (y0_2 : Int32) (d1 : Nat → Int32), (zi 20 1600 y0_2) ∧ (zi (-1) 1600 r) ∧ (lu = [(0, .inr (12, [.ref (ad 1), u0_1, .int y0_2, u0_3, u0_4, u0_5, u0_6, u0_7, u0_8, u0_9, u0_10, u0_11, u0_12, u0_13, u0_14, u0_15, u0_16, u0_17, u0_18, u0_19, u0_20, u0_21, u0_22, u0_23, u0_24, u0_25, u0_26, u0_27, u0_28, u0_29, u0_30, u0_31, u0_32, u0_33, u0_34, u0_35, u0_36, u0_37, u0_38, u0_39, u0_40, u0_41, u0_42, u0_43, u0_44, u0_45, u0_46, u0_47, u0_48, u0_49, u0_50, u0_51, u0_52, u0_53, u0_54, u0_55, u0_56, u0_57, u0_58, u0_59, u0_60, u0_61, u0_62, u0_63, u0_64, u0_65, u0_66, u0_67, u0_68, u0_69, u0_70, u0_71, u0_72, u0_73])), (1, .inl (cy 3, 1620, .inl d1))])) D 2 0 ad g A) (cc := cX12_feed) (maxL := 8) (ret := (some .int)) (by decide) rfl (Nat.le_of_ble_eq_true rfl) ?_
  intro p e s m below meth c A hC hr hlk hnm hO ls hl
  have hC : CallFix p m c cX12_feed 8 s [.ref (ad 0), .int ax, .int bx, .int cx, .int dx, .int ex].toArray wq_k_X12_feed RX12 := hC
  obtain ⟨hx, hb, hml, hown, hts⟩ := id hC
  have hl : lv_has ls 8 [(0, .ref (ad 0)), (1, .int ax), (2, .int bx), (3, .int cx), (4, .int dx), (5, .int ex)] := hl
  have i_X12 : ∀ w ∈ wsX120, w ∈ wq_k_X12_feed := fun w h => List.mem_cons_of_mem _ (List.mem_append_right _ h)
  have hO := hO.notes [(0, .inr (12, [.ref (ad 1), u0_1, .int x0_2, u0_3, u0_4, u0_5, u0_6, u0_7, u0_8, u0_9, u0_10, u0_11, u0_12, u0_13, u0_14, u0_15, u0_16, u0_17, u0_18, u0_19, u0_20, u0_21, u0_22, u0_23, u0_24, u0_25, u0_26, u0_27, u0_28, u0_29, u0_30, u0_31, u0_32, u0_33, u0_34, u0_35, u0_36, u0_37, u0_38, u0_39, u0_40, u0_41, u0_42, u0_43, u0_44, u0_45, u0_46, u0_47, u0_48, u0_49, u0_50, u0_51, u0_52, u0_53, u0_54, u0_55, u0_56, u0_57, u0_58, u0_59, u0_60, u0_61, u0_62, u0_63, u0_64, u0_65, u0_66, u0_67, u0_68, u0_69, u0_70, u0_71, u0_72, u0_73])), (1, .inl (cy 3, 1620, .inl c1))] (List.forall_mem_cons.mpr ⟨o0, List.forall_mem_cons.mpr ⟨a1, (fun _ h => absurd h List.not_mem_nil)⟩⟩)
  refine lv_aload_n hx hb ddX12_feed_0 rfl (lv_at hl 0 rfl) ?_
  refine cg_get hC hO 0 (by decide) rfl rfl i_X12 2 (by decide) (List.mem_of_getElem? (i := 1) rfl) rfl ddX12_feed_1 ?_
  refine lv_bipush (v := 20) hx hb ddX12_feed_4 (by decide) ?_
  refine lv_iadd hx hb ddX12_feed_6 ?_
  refine zg_top2 (P := fun v => zi 20 1620 v) (E := fun v => v.toInt = x0_2.toInt + 20) (zi_addk b0_2 (n := 20) (by decide) (by decide)) (fun v_6_1597 z_6_1598 q_6_1599 => ?_)
  refine lv_sipush (v := 1600) hx hb ddX12_feed_7 (by decide) ?_
  refine lv_icmp_le (tgt := 15) hx hb ddX12_feed_10 (by decide) (fun h_10_1600 => ?_) (fun h_10_1600 => ?_)
  · have q_10_1601 := zr_le h_10_1600
    have z_10_1602 : zi 20 1600 v_6_1597 := zu_le q_10_1601 z_6_1598 (zi_k (a := 1600) (b := 1600) (x := 1600) rfl) (by decide)
    have z_10_1603 : zi 0 1580 x0_2 := zp_add q_6_1599 z_10_1602 b0_2 (by decide)
    refine lv_iconst (v := 0) hx hb ddX12_feed_15 (by decide) ?_
    refine lv_istore (lv' := [(6, .int 0), (0, .ref (ad 0)), (1, .int ax), (2, .int bx), (3, .int cx), (4, .int dx), (5, .int ex)]) hx hb ddX12_feed_16 hl (by decide) rfl (fun ls hl => ?_)
    have loop_18_2406 : ∀ (d_18_2407 : Nat) (v_18_2274 : Int32) (c_18_2276 : Nat → Int32), zi 0 20 v_18_2274 → za (-2147483648) 2147483647 c_18_2276 → (20 + 1 - v_18_2274.toInt).toNat < d_18_2407 → ∀ (H : Heap) (locs : List Loc), cO D cy A s.heap s 2 ad (cup [(0, .inr (12, [.ref (ad 1), u0_1, .int x0_2, u0_3, u0_4, u0_5, u0_6, u0_7, u0_8, u0_9, u0_10, u0_11, u0_12, u0_13, u0_14, u0_15, u0_16, u0_17, u0_18, u0_19, u0_20, u0_21, u0_22, u0_23, u0_24, u0_25, u0_26, u0_27, u0_28, u0_29, u0_30, u0_31, u0_32, u0_33, u0_34, u0_35, u0_36, u0_37, u0_38, u0_39, u0_40, u0_41, u0_42, u0_43, u0_44, u0_45, u0_46, u0_47, u0_48, u0_49, u0_50, u0_51, u0_52, u0_53, u0_54, u0_55, u0_56, u0_57, u0_58, u0_59, u0_60, u0_61, u0_62, u0_63, u0_64, u0_65, u0_66, u0_67, u0_68, u0_69, u0_70, u0_71, u0_72, u0_73])), (1, .inl (cy 3, 1620, .inl c_18_2276))] g) H locs → ∀ ls : Array Slot, lv_has ls 8 [(6, .int v_18_2274), (0, .ref (ad 0)), (1, .int ax), (2, .int bx), (3, .int cx), (4, .int dx), (5, .int ex)] → W p l e { frames := 0, cells := 0, slots := 0, locals := 0 } s m [.ref (ad 0), .int ax, .int bx, .int cx, .int dx, .int ex].toArray below meth c H locs 0 0 (MQ below (cQi (fun r nw lu => ∃ (y0_2 : Int32) (d1 : Nat → Int32), (zi 20 1600 y0_2) ∧ (zi (-1) 1600 r) ∧ (lu = [(0, .inr (12, [.ref (ad 1), u0_1, .int y0_2, u0_3, u0_4, u0_5, u0_6, u0_7, u0_8, u0_9, u0_10, u0_11, u0_12, u0_13, u0_14, u0_15, u0_16, u0_17, u0_18, u0_19, u0_20, u0_21, u0_22, u0_23, u0_24, u0_25, u0_26, u0_27, u0_28, u0_29, u0_30, u0_31, u0_32, u0_33, u0_34, u0_35, u0_36, u0_37, u0_38, u0_39, u0_40, u0_41, u0_42, u0_43, u0_44, u0_45, u0_46, u0_47, u0_48, u0_49, u0_50, u0_51, u0_52, u0_53, u0_54, u0_55, u0_56, u0_57, u0_58, u0_59, u0_60, u0_61, u0_62, u0_63, u0_64, u0_65, u0_66, u0_67, u0_68, u0_69, u0_70, u0_71, u0_72, u0_73])), (1, .inl (cy 3, 1620, .inl d1))])) D 2 0 ad g A) [.ref (ad 0), .int ax, .int bx, .int cx, .int dx, .int ex].toArray s 0 0 A) (F0 m 18 ls [])  := by
      intro d_18_2407
      induction d_18_2407 with
      | zero => intro v_18_2274 c_18_2276 z_18_2275 zc_18_2277 mu_18_2408; exact absurd mu_18_2408 (Nat.not_lt_zero _)
      | succ d_18_2407 ih_18_2409 =>
        intro v_18_2274 c_18_2276 z_18_2275 zc_18_2277 mu_18_2408 H locs hO ls hl
        refine lv_iload hx hb ddX12_feed_18 (lv_at hl 0 rfl) ?_
        refine lv_bipush (v := 20) hx hb ddX12_feed_20 (by decide) ?_
        refine lv_icmp_ge (tgt := 105) hx hb ddX12_feed_22 (by decide) (fun h_22_2410 => ?_) (fun h_22_2410 => ?_)
        · have q_22_2473 := zr_le h_22_2410
          have z_22_2474 : zi 20 20 v_18_2274 := zd_le q_22_2473 (zi_k (a := 20) (b := 20) (x := 20) rfl) z_18_2275 (by decide)
          refine lv_aload_n hx hb ddX12_feed_105 rfl (lv_at hl 1 rfl) ?_
          refine lv_dup hx hb ddX12_feed_106 rfl ?_
          refine cg_get hC hO 0 (by decide) rfl rfl i_X12 2 (by decide) (List.mem_of_getElem? (i := 1) rfl) rfl ddX12_feed_107 ?_
          refine lv_bipush (v := 20) hx hb ddX12_feed_110 (by decide) ?_
          refine lv_iadd hx hb ddX12_feed_112 ?_
          refine zg_top2 (P := fun v => zi 20 1600 v) (E := fun v => v.toInt = x0_2.toInt + 20) (zi_addk z_10_1603 (n := 20) (by decide) (by decide)) (fun v_112_2475 z_112_2476 q_112_2477 => ?_)
          refine cg_put hC hO 0 (by decide) rfl rfl i_X12 tyX12_ok nmX12 2 (by decide) (List.mem_of_getElem? (i := 1) rfl) rfl rfl rfl (Nat.le_of_ble_eq_true rfl) ddX12_feed_113 (fun H locs hO => ?_)
          have hO : cO D cy A s.heap s 2 ad (cup [(0, .inr (12, [.ref (ad 1), u0_1, .int v_112_2475, u0_3, u0_4, u0_5, u0_6, u0_7, u0_8, u0_9, u0_10, u0_11, u0_12, u0_13, u0_14, u0_15, u0_16, u0_17, u0_18, u0_19, u0_20, u0_21, u0_22, u0_23, u0_24, u0_25, u0_26, u0_27, u0_28, u0_29, u0_30, u0_31, u0_32, u0_33, u0_34, u0_35, u0_36, u0_37, u0_38, u0_39, u0_40, u0_41, u0_42, u0_43, u0_44, u0_45, u0_46, u0_47, u0_48, u0_49, u0_50, u0_51, u0_52, u0_53, u0_54, u0_55, u0_56, u0_57, u0_58, u0_59, u0_60, u0_61, u0_62, u0_63, u0_64, u0_65, u0_66, u0_67, u0_68, u0_69, u0_70, u0_71, u0_72, u0_73])), (1, .inl (cy 3, 1620, .inl c_18_2276))] g) _ _ := hO
          refine lv_aload_n hx hb ddX12_feed_116 rfl (lv_at hl 1 rfl) ?_
          refine cg_get hC hO 0 (by decide) rfl rfl i_X12 2 (by decide) (List.mem_of_getElem? (i := 1) rfl) rfl ddX12_feed_117 ?_
          exact cg_iret (nw := fun _ => 0) hC hr hlk hO.same rfl (Nat.le_of_ble_eq_true rfl) (Nat.le_of_ble_eq_true rfl) (⟨v_112_2475, c_18_2276, z_112_2476, (zi_w (c := (-1)) (d := 1600) z_112_2476 (by decide)), rfl⟩) ddX12_feed_120
        · have q_22_2478 := zr_nle h_22_2410
          have z_22_2479 : zi 0 19 v_18_2274 := zu_lt q_22_2478 z_18_2275 (zi_k (a := 20) (b := 20) (x := 20) rfl) (by decide)
          refine lv_iload hx hb ddX12_feed_25 (lv_at hl 0 rfl) ?_
          refine lv_iconst (v := 4) hx hb ddX12_feed_27 (by decide) ?_
          have J_71_2501 : ∀ (v_71_2500 : Int32), ∀ (H : Heap) (locs : List Loc), cO D cy A s.heap s 2 ad (cup [(0, .inr (12, [.ref (ad 1), u0_1, .int x0_2, u0_3, u0_4, u0_5, u0_6, u0_7, u0_8, u0_9, u0_10, u0_11, u0_12, u0_13, u0_14, u0_15, u0_16, u0_17, u0_18, u0_19, u0_20, u0_21, u0_22, u0_23, u0_24, u0_25, u0_26, u0_27, u0_28, u0_29, u0_30, u0_31, u0_32, u0_33, u0_34, u0_35, u0_36, u0_37, u0_38, u0_39, u0_40, u0_41, u0_42, u0_43, u0_44, u0_45, u0_46, u0_47, u0_48, u0_49, u0_50, u0_51, u0_52, u0_53, u0_54, u0_55, u0_56, u0_57, u0_58, u0_59, u0_60, u0_61, u0_62, u0_63, u0_64, u0_65, u0_66, u0_67, u0_68, u0_69, u0_70, u0_71, u0_72, u0_73])), (1, .inl (cy 3, 1620, .inl c_18_2276))] g) H locs → ∀ ls : Array Slot, lv_has ls 8 [(6, .int v_18_2274), (0, .ref (ad 0)), (1, .int ax), (2, .int bx), (3, .int cx), (4, .int dx), (5, .int ex)] → W p l e { frames := 0, cells := 0, slots := 0, locals := 0 } s m [.ref (ad 0), .int ax, .int bx, .int cx, .int dx, .int ex].toArray below meth c H locs 0 0 (MQ below (cQi (fun r nw lu => ∃ (y0_2 : Int32) (d1 : Nat → Int32), (zi 20 1600 y0_2) ∧ (zi (-1) 1600 r) ∧ (lu = [(0, .inr (12, [.ref (ad 1), u0_1, .int y0_2, u0_3, u0_4, u0_5, u0_6, u0_7, u0_8, u0_9, u0_10, u0_11, u0_12, u0_13, u0_14, u0_15, u0_16, u0_17, u0_18, u0_19, u0_20, u0_21, u0_22, u0_23, u0_24, u0_25, u0_26, u0_27, u0_28, u0_29, u0_30, u0_31, u0_32, u0_33, u0_34, u0_35, u0_36, u0_37, u0_38, u0_39, u0_40, u0_41, u0_42, u0_43, u0_44, u0_45, u0_46, u0_47, u0_48, u0_49, u0_50, u0_51, u0_52, u0_53, u0_54, u0_55, u0_56, u0_57, u0_58, u0_59, u0_60, u0_61, u0_62, u0_63, u0_64, u0_65, u0_66, u0_67, u0_68, u0_69, u0_70, u0_71, u0_72, u0_73])), (1, .inl (cy 3, 1620, .inl d1))])) D 2 0 ad g A) [.ref (ad 0), .int ax, .int bx, .int cx, .int dx, .int ex].toArray s 0 0 A) (F0 m 71 ls [.int v_71_2500]) := by
            intro v_71_2500 H locs hO ls hl
            refine lv_istore (lv' := [(7, .int v_71_2500), (6, .int v_18_2274), (0, .ref (ad 0)), (1, .int ax), (2, .int bx), (3, .int cx), (4, .int dx), (5, .int ex)]) hx hb ddX12_feed_71 hl (by decide) rfl (fun ls hl => ?_)
            refine lv_aload_n hx hb ddX12_feed_73 rfl (lv_at hl 2 rfl) ?_
            refine cg_get hC hO 0 (by decide) rfl rfl i_X12 0 (by decide) (List.mem_of_getElem? (i := 2) rfl) rfl ddX12_feed_74 ?_
            refine lv_aload_n hx hb ddX12_feed_77 rfl (lv_at hl 2 rfl) ?_
            refine cg_get hC hO 0 (by decide) rfl rfl i_X12 2 (by decide) (List.mem_of_getElem? (i := 1) rfl) rfl ddX12_feed_78 ?_
            refine lv_iload hx hb ddX12_feed_81 (lv_at hl 1 rfl) ?_
            refine lv_iadd hx hb ddX12_feed_83 ?_
            refine zg_top2 (P := fun v => zi 0 1599 v) (E := fun v => v.toInt = (x0_2 : Int32).toInt + (v_18_2274 : Int32).toInt) (zi_add z_10_1603 z_22_2479 (by decide)) (fun v_83_2502 z_83_2503 q_83_2504 => ?_)
            refine lv_iload hx hb ddX12_feed_84 (lv_at hl 0 rfl) ?_
            refine lv_bipush (v := 24) hx hb ddX12_feed_86 (by decide) ?_
            refine lv_bipush (v := 8) hx hb ddX12_feed_88 (by decide) ?_
            refine lv_iload hx hb ddX12_feed_90 (lv_at hl 1 rfl) ?_
            refine lv_iconst (v := 3) hx hb ddX12_feed_92 (by decide) ?_
            refine lv_iand hx hb ddX12_feed_93 ?_
            refine zg_top (P := fun v => zi 0 3 v) (zi_and (zi_k (a := 0) (b := 3) (x := 3) rfl)) (fun v_93_2505 z_93_2506 => ?_)
            refine lv_imul hx hb ddX12_feed_94 ?_
            refine zg_top2 (P := fun v => zi 0 24 v) (E := fun v => v.toInt = 8 * (v_93_2505 : Int32).toInt) (zi_mulk (zi_k (a := 8) (b := 8) (x := 8) rfl) z_93_2506 (n := 8) (by decide) (by decide)) (fun v_94_2507 z_94_2508 q_94_2509 => ?_)
            refine lv_isub hx hb ddX12_feed_95 ?_
            refine zg_top2 (P := fun v => zi 0 24 v) (E := fun v => v.toInt = (24 : Int32).toInt - (v_94_2507 : Int32).toInt) (zi_sub (zi_k (a := 24) (b := 24) (x := 24) rfl) z_94_2508 (by decide)) (fun v_95_2510 z_95_2511 q_95_2512 => ?_)
            refine lv_ishr hx hb ddX12_feed_96 ?_
            refine lv_topi (fun v_96_2513 _ => ?_)
            refine lv_i2b hx hb ddX12_feed_97 rfl ?_
            refine lv_topi (fun v_97_2514 _ => ?_)
            refine zg_bast hC hO 1 (by decide) rfl (zi_in z_83_2503 (by decide)) ddX12_feed_98 (fun H locs c_98_2515 hO => ?_)
            have hO : cO D cy A s.heap s 2 ad (cup [(0, .inr (12, [.ref (ad 1), u0_1, .int x0_2, u0_3, u0_4, u0_5, u0_6, u0_7, u0_8, u0_9, u0_10, u0_11, u0_12, u0_13, u0_14, u0_15, u0_16, u0_17, u0_18, u0_19, u0_20, u0_21, u0_22, u0_23, u0_24, u0_25, u0_26, u0_27, u0_28, u0_29, u0_30, u0_31, u0_32, u0_33, u0_34, u0_35, u0_36, u0_37, u0_38, u0_39, u0_40, u0_41, u0_42, u0_43, u0_44, u0_45, u0_46, u0_47, u0_48, u0_49, u0_50, u0_51, u0_52, u0_53, u0_54, u0_55, u0_56, u0_57, u0_58, u0_59, u0_60, u0_61, u0_62, u0_63, u0_64, u0_65, u0_66, u0_67, u0_68, u0_69, u0_70, u0_71, u0_72, u0_73])), (1, .inl (cy 3, 1620, .inl c_98_2515))] g) _ _ := hO
            obtain ⟨v_99_2516, e_99_2517, z_99_2518, q_99_2519⟩ := zi_inc (e := 1) (f := 20) 1 z_22_2479 (by decide)
            refine lv_iinc (v := v_99_2516) (lv' := [(6, .int v_99_2516), (7, .int v_71_2500), (0, .ref (ad 0)), (1, .int ax), (2, .int bx), (3, .int cx), (4, .int dx), (5, .int ex)]) hx hb ddX12_feed_99 hl (k := 1) rfl e_99_2517 (by decide) rfl (fun ls hl => ?_)
            refine lv_goto (tgt := 18) hx hb ddX12_feed_102 (by decide) ?_
            exact ih_18_2409 v_99_2516 c_98_2515 (zi_w (c := 0) (d := 20) z_99_2518 (by decide)) (za_all _) (zm_up q_99_2519 ((zi_w (c := 0) (d := 20) z_99_2518 (by decide))).2 (by decide) mu_18_2408) _ _ hO ls (lv_sub hl [0, 2, 3, 4, 5, 6, 7] rfl)
          refine lv_icmp_ge (tgt := 35) hx hb ddX12_feed_28 (by decide) (fun h_28_2480 => ?_) (fun h_28_2480 => ?_)
          · have q_28_2520 := zr_le h_28_2480
            have z_28_2521 : zi 4 19 v_18_2274 := zd_le q_28_2520 (zi_k (a := 4) (b := 4) (x := 4) rfl) z_22_2479 (by decide)
            refine lv_iload hx hb ddX12_feed_35 (lv_at hl 0 rfl) ?_
            refine lv_bipush (v := 8) hx hb ddX12_feed_37 (by decide) ?_
            refine lv_icmp_ge (tgt := 46) hx hb ddX12_feed_39 (by decide) (fun h_39_2522 => ?_) (fun h_39_2522 => ?_)
            · have q_39_2523 := zr_le h_39_2522
              have z_39_2524 : zi 8 19 v_18_2274 := zd_le q_39_2523 (zi_k (a := 8) (b := 8) (x := 8) rfl) z_28_2521 (by decide)
              refine lv_iload hx hb ddX12_feed_46 (lv_at hl 0 rfl) ?_
              refine lv_bipush (v := 12) hx hb ddX12_feed_48 (by decide) ?_
              refine lv_icmp_ge (tgt := 57) hx hb ddX12_feed_50 (by decide) (fun h_50_2525 => ?_) (fun h_50_2525 => ?_)
              · have q_50_2526 := zr_le h_50_2525
                have z_50_2527 : zi 12 19 v_18_2274 := zd_le q_50_2526 (zi_k (a := 12) (b := 12) (x := 12) rfl) z_39_2524 (by decide)
                refine lv_iload hx hb ddX12_feed_57 (lv_at hl 0 rfl) ?_
                refine lv_bipush (v := 16) hx hb ddX12_feed_59 (by decide) ?_
                refine lv_icmp_ge (tgt := 69) hx hb ddX12_feed_61 (by decide) (fun h_61_2528 => ?_) (fun h_61_2528 => ?_)
                · have q_61_2529 := zr_le h_61_2528
                  have z_61_2530 : zi 16 19 v_18_2274 := zd_le q_61_2529 (zi_k (a := 16) (b := 16) (x := 16) rfl) z_50_2527 (by decide)
                  refine lv_iload hx hb ddX12_feed_69 (lv_at hl 6 rfl) ?_
                  exact J_71_2501 ex _ _ hO ls (lv_sub hl [0, 1, 2, 3, 4, 5, 6] rfl)
                · have q_61_2531 := zr_nle h_61_2528
                  have z_61_2532 : zi 12 15 v_18_2274 := zu_lt q_61_2531 z_50_2527 (zi_k (a := 16) (b := 16) (x := 16) rfl) (by decide)
                  refine lv_iload hx hb ddX12_feed_64 (lv_at hl 5 rfl) ?_
                  refine lv_goto (tgt := 71) hx hb ddX12_feed_66 (by decide) ?_
                  exact J_71_2501 dx _ _ hO ls (lv_sub hl [0, 1, 2, 3, 4, 5, 6] rfl)
              · have q_50_2533 := zr_nle h_50_2525
                have z_50_2534 : zi 8 11 v_18_2274 := zu_lt q_50_2533 z_39_2524 (zi_k (a := 12) (b := 12) (x := 12) rfl) (by decide)
                refine lv_iload_n hx hb ddX12_feed_53 rfl (lv_at hl 4 rfl) ?_
                refine lv_goto (tgt := 71) hx hb ddX12_feed_54 (by decide) ?_
                exact J_71_2501 cx _ _ hO ls (lv_sub hl [0, 1, 2, 3, 4, 5, 6] rfl)
            · have q_39_2535 := zr_nle h_39_2522
              have z_39_2536 : zi 4 7 v_18_2274 := zu_lt q_39_2535 z_28_2521 (zi_k (a := 8) (b := 8) (x := 8) rfl) (by decide)
              refine lv_iload_n hx hb ddX12_feed_42 rfl (lv_at hl 3 rfl) ?_
              refine lv_goto (tgt := 71) hx hb ddX12_feed_43 (by decide) ?_
              exact J_71_2501 bx _ _ hO ls (lv_sub hl [0, 1, 2, 3, 4, 5, 6] rfl)
          · have q_28_2537 := zr_nle h_28_2480
            have z_28_2538 : zi 0 3 v_18_2274 := zu_lt q_28_2537 z_22_2479 (zi_k (a := 4) (b := 4) (x := 4) rfl) (by decide)
            refine lv_iload_n hx hb ddX12_feed_31 rfl (lv_at hl 2 rfl) ?_
            refine lv_goto (tgt := 71) hx hb ddX12_feed_32 (by decide) ?_
            exact J_71_2501 ax _ _ hO ls (lv_sub hl [0, 1, 2, 3, 4, 5, 6] rfl)
    exact loop_18_2406 ((20 + 1 - (0 : Int32).toInt).toNat + 1) 0 c1 (zi_k (a := 0) (b := 20) (x := 0) rfl) (za_all _) (Nat.lt_succ_self _) _ _ hO ls (lv_sub hl [0, 1, 2, 3, 4, 5, 6] rfl)
  · have q_10_2539 := zr_nle h_10_1600
    have z_10_2540 : zi 1601 1620 v_6_1597 := zd_lt q_10_2539 (zi_k (a := 1600) (b := 1600) (x := 1600) rfl) z_6_1598 (by decide)
    have z_10_2541 : zi 1581 1600 x0_2 := zp_add q_6_1599 z_10_2540 b0_2 (by decide)
    refine lv_iconst (v := (-1)) hx hb ddX12_feed_13 (by decide) ?_
    exact cg_iret (nw := fun _ => 0) hC hr hlk hO.same rfl (Nat.le_of_ble_eq_true rfl) (Nat.le_of_ble_eq_true rfl) (⟨x0_2, c1, (zi_w (c := 20) (d := 1600) z_10_2541 (by decide)), (zi_k (a := (-1)) (b := 1600) (x := (-1)) rfl), rfl⟩) ddX12_feed_14

theorem ddX12_end_0 : decode cX12_end 0 = .ok (.iload_n 1, 1) := by decide +kernel
theorem ddX12_end_1 : decode cX12_end 1 = .ok (.ifCond .lt 11, 3) := by decide +kernel
theorem ddX12_end_4 : decode cX12_end 4 = .ok (.iload_n 1, 1) := by decide +kernel
theorem ddX12_end_5 : decode cX12_end 5 = .ok (.aload_n 0, 1) := by decide +kernel
theorem ddX12_end_6 : decode cX12_end 6 = .ok (.getfield 283, 3) := by decide +kernel
theorem ddX12_end_9 : decode cX12_end 9 = .ok (.if_icmp .le 5, 3) := by decide +kernel
theorem ddX12_end_12 : decode cX12_end 12 = .ok (.iconst (-1), 1) := by decide +kernel
theorem ddX12_end_13 : decode cX12_end 13 = .ok (.ireturn, 1) := by decide +kernel
theorem ddX12_end_14 : decode cX12_end 14 = .ok (.aload_n 0, 1) := by decide +kernel
theorem ddX12_end_15 : decode cX12_end 15 = .ok (.iload_n 1, 1) := by decide +kernel
theorem ddX12_end_16 : decode cX12_end 16 = .ok (.putfield 283, 3) := by decide +kernel
theorem ddX12_end_19 : decode cX12_end 19 = .ok (.iload_n 1, 1) := by decide +kernel
theorem ddX12_end_20 : decode cX12_end 20 = .ok (.ireturn, 1) := by decide +kernel
def wq_k_X12_end : List Cond := Cond.code yX12_end cX12_end 2 (some .int) :: (([Cond.fieldLink RX12 283 "CrowTollModel" "taped" "I"] : List Cond) ++ wsX120)
set_option maxHeartbeats 8000000 in
set_option maxRecDepth 100000 in
theorem k_X12_end (l : Launch) (D : va_G) (cy : Nat → ClassId) (ad : Nat → Nat) (g : Nat → va_E) {u0_0 : Value} {u0_1 : Value} {x0_2 : Int32} {u0_3 : Value} {u0_4 : Value} {u0_5 : Value} {u0_6 : Value} {u0_7 : Value} {u0_8 : Value} {u0_9 : Value} {u0_10 : Value} {u0_11 : Value} {u0_12 : Value} {u0_13 : Value} {u0_14 : Value} {u0_15 : Value} {u0_16 : Value} {u0_17 : Value} {u0_18 : Value} {u0_19 : Value} {u0_20 : Value} {u0_21 : Value} {u0_22 : Value} {u0_23 : Value} {u0_24 : Value} {u0_25 : Value} {u0_26 : Value} {u0_27 : Value} {u0_28 : Value} {u0_29 : Value} {u0_30 : Value} {u0_31 : Value} {u0_32 : Value} {u0_33 : Value} {u0_34 : Value} {u0_35 : Value} {u0_36 : Value} {u0_37 : Value} {u0_38 : Value} {u0_39 : Value} {u0_40 : Value} {u0_41 : Value} {u0_42 : Value} {u0_43 : Value} {u0_44 : Value} {u0_45 : Value} {u0_46 : Value} {u0_47 : Value} {u0_48 : Value} {u0_49 : Value} {u0_50 : Value} {u0_51 : Value} {u0_52 : Value} {u0_53 : Value} {u0_54 : Value} {u0_55 : Value} {u0_56 : Value} {u0_57 : Value} {u0_58 : Value} {u0_59 : Value} {u0_60 : Value} {u0_61 : Value} {u0_62 : Value} {u0_63 : Value} {u0_64 : Value} {u0_65 : Value} {u0_66 : Value} {u0_67 : Value} {u0_68 : Value} {u0_69 : Value} {u0_70 : Value} {u0_71 : Value} {u0_72 : Value} {u0_73 : Value} {n : Int32} (o0 : g 0 = .inr (12, [u0_0, u0_1, .int x0_2, u0_3, u0_4, u0_5, u0_6, u0_7, u0_8, u0_9, u0_10, u0_11, u0_12, u0_13, u0_14, u0_15, u0_16, u0_17, u0_18, u0_19, u0_20, u0_21, u0_22, u0_23, u0_24, u0_25, u0_26, u0_27, u0_28, u0_29, u0_30, u0_31, u0_32, u0_33, u0_34, u0_35, u0_36, u0_37, u0_38, u0_39, u0_40, u0_41, u0_42, u0_43, u0_44, u0_45, u0_46, u0_47, u0_48, u0_49, u0_50, u0_51, u0_52, u0_53, u0_54, u0_55, u0_56, u0_57, u0_58, u0_59, u0_60, u0_61, u0_62, u0_63, u0_64, u0_65, u0_66, u0_67, u0_68, u0_69, u0_70, u0_71, u0_72, u0_73])) (b0_2 : zi 0 1600 x0_2) : cMi l yX12_end wq_k_X12_end { frames := 0, cells := 0, slots := 0, locals := 0 } 1 0 0 0 D cy ad g [.ref (ad 0), .int n] (fun r nw lu => ∃ (y0_2 : Int32), (zi 0 1600 y0_2) ∧ (zi (-1) 1600 r) ∧ (lu = [(0, .inr (12, [u0_0, u0_1, .int y0_2, u0_3, u0_4, u0_5, u0_6, u0_7, u0_8, u0_9, u0_10, u0_11, u0_12, u0_13, u0_14, u0_15, u0_16, u0_17, u0_18, u0_19, u0_20, u0_21, u0_22, u0_23, u0_24, u0_25, u0_26, u0_27, u0_28, u0_29, u0_30, u0_31, u0_32, u0_33, u0_34, u0_35, u0_36, u0_37, u0_38, u0_39, u0_40, u0_41, u0_42, u0_43, u0_44, u0_45, u0_46, u0_47, u0_48, u0_49, u0_50, u0_51, u0_52, u0_53, u0_54, u0_55, u0_56, u0_57, u0_58, u0_59, u0_60, u0_61, u0_62, u0_63, u0_64, u0_65, u0_66, u0_67, u0_68, u0_69, u0_70, u0_71, u0_72, u0_73]))])) := by
  refine cM_of (Qc := fun A => cQi (fun r nw lu => ∃ (y0_2 : Int32), (zi 0 1600 y0_2) ∧ (zi (-1) 1600 r) ∧ (lu = [(0, .inr (12, [u0_0, u0_1, .int y0_2, u0_3, u0_4, u0_5, u0_6, u0_7, u0_8, u0_9, u0_10, u0_11, u0_12, u0_13, u0_14, u0_15, u0_16, u0_17, u0_18, u0_19, u0_20, u0_21, u0_22, u0_23, u0_24, u0_25, u0_26, u0_27, u0_28, u0_29, u0_30, u0_31, u0_32, u0_33, u0_34, u0_35, u0_36, u0_37, u0_38, u0_39, u0_40, u0_41, u0_42, u0_43, u0_44, u0_45, u0_46, u0_47, u0_48, u0_49, u0_50, u0_51, u0_52, u0_53, u0_54, u0_55, u0_56, u0_57, u0_58, u0_59, u0_60, u0_61, u0_62, u0_63, u0_64, u0_65, u0_66, u0_67, u0_68, u0_69, u0_70, u0_71, u0_72, u0_73]))])) D 1 0 ad g A) (cc := cX12_end) (maxL := 2) (ret := (some .int)) (by decide) rfl (Nat.le_of_ble_eq_true rfl) ?_
  intro p e s m below meth c A hC hr hlk hnm hO ls hl
  have hC : CallFix p m c cX12_end 2 s [.ref (ad 0), .int n].toArray wq_k_X12_end RX12 := hC
  obtain ⟨hx, hb, hml, hown, hts⟩ := id hC
  have hl : lv_has ls 2 [(0, .ref (ad 0)), (1, .int n)] := hl
  have i_X12 : ∀ w ∈ wsX120, w ∈ wq_k_X12_end := fun w h => List.mem_cons_of_mem _ (List.mem_append_right _ h)
  have hO := hO.notes [(0, .inr (12, [u0_0, u0_1, .int x0_2, u0_3, u0_4, u0_5, u0_6, u0_7, u0_8, u0_9, u0_10, u0_11, u0_12, u0_13, u0_14, u0_15, u0_16, u0_17, u0_18, u0_19, u0_20, u0_21, u0_22, u0_23, u0_24, u0_25, u0_26, u0_27, u0_28, u0_29, u0_30, u0_31, u0_32, u0_33, u0_34, u0_35, u0_36, u0_37, u0_38, u0_39, u0_40, u0_41, u0_42, u0_43, u0_44, u0_45, u0_46, u0_47, u0_48, u0_49, u0_50, u0_51, u0_52, u0_53, u0_54, u0_55, u0_56, u0_57, u0_58, u0_59, u0_60, u0_61, u0_62, u0_63, u0_64, u0_65, u0_66, u0_67, u0_68, u0_69, u0_70, u0_71, u0_72, u0_73]))] (List.forall_mem_cons.mpr ⟨o0, (fun _ h => absurd h List.not_mem_nil)⟩)
  refine lv_iload_n hx hb ddX12_end_0 rfl (lv_at hl 1 rfl) ?_
  refine lv_if_lt (tgt := 12) hx hb ddX12_end_1 (by decide) (fun h_1_21 => ?_) (fun h_1_21 => ?_)
  · have q_1_22 := zr_lt h_1_21
    have z_1_23 : zi (-2147483648) (-1) n := zu_lt q_1_22 (zi_all n) (zi_k (a := 0) (b := 0) (x := 0) rfl) (by decide)
    refine lv_iconst (v := (-1)) hx hb ddX12_end_12 (by decide) ?_
    exact cg_iret (nw := fun _ => 0) hC hr hlk hO.same rfl (Nat.le_of_ble_eq_true rfl) (Nat.le_of_ble_eq_true rfl) (⟨x0_2, b0_2, (zi_k (a := (-1)) (b := 1600) (x := (-1)) rfl), rfl⟩) ddX12_end_13
  · have q_1_24 := zr_nlt h_1_21
    have z_1_25 : zi 0 2147483647 n := zd_le q_1_24 (zi_k (a := 0) (b := 0) (x := 0) rfl) (zi_all n) (by decide)
    refine lv_iload_n hx hb ddX12_end_4 rfl (lv_at hl 1 rfl) ?_
    refine lv_aload_n hx hb ddX12_end_5 rfl (lv_at hl 0 rfl) ?_
    refine cg_get hC hO 0 (by decide) rfl rfl i_X12 2 (by decide) (List.mem_of_getElem? (i := 1) rfl) rfl ddX12_end_6 ?_
    refine lv_icmp_le (tgt := 14) hx hb ddX12_end_9 (by decide) (fun h_9_26 => ?_) (fun h_9_26 => ?_)
    · have q_9_27 := zr_le h_9_26
      have z_9_28 : zi 0 1600 n := zu_le q_9_27 z_1_25 b0_2 (by decide)
      refine lv_aload_n hx hb ddX12_end_14 rfl (lv_at hl 0 rfl) ?_
      refine lv_iload_n hx hb ddX12_end_15 rfl (lv_at hl 1 rfl) ?_
      refine cg_put hC hO 0 (by decide) rfl rfl i_X12 tyX12_ok nmX12 2 (by decide) (List.mem_of_getElem? (i := 1) rfl) rfl rfl rfl (Nat.le_of_ble_eq_true rfl) ddX12_end_16 (fun H locs hO => ?_)
      have hO : cO D cy A s.heap s 1 ad (cup [(0, .inr (12, [u0_0, u0_1, .int n, u0_3, u0_4, u0_5, u0_6, u0_7, u0_8, u0_9, u0_10, u0_11, u0_12, u0_13, u0_14, u0_15, u0_16, u0_17, u0_18, u0_19, u0_20, u0_21, u0_22, u0_23, u0_24, u0_25, u0_26, u0_27, u0_28, u0_29, u0_30, u0_31, u0_32, u0_33, u0_34, u0_35, u0_36, u0_37, u0_38, u0_39, u0_40, u0_41, u0_42, u0_43, u0_44, u0_45, u0_46, u0_47, u0_48, u0_49, u0_50, u0_51, u0_52, u0_53, u0_54, u0_55, u0_56, u0_57, u0_58, u0_59, u0_60, u0_61, u0_62, u0_63, u0_64, u0_65, u0_66, u0_67, u0_68, u0_69, u0_70, u0_71, u0_72, u0_73]))] g) _ _ := hO
      refine lv_iload_n hx hb ddX12_end_19 rfl (lv_at hl 1 rfl) ?_
      exact cg_iret (nw := fun _ => 0) hC hr hlk hO.same rfl (Nat.le_of_ble_eq_true rfl) (Nat.le_of_ble_eq_true rfl) (⟨n, z_9_28, (zi_w (c := (-1)) (d := 1600) z_9_28 (by decide)), rfl⟩) ddX12_end_20
    · have q_9_29 := zr_nle h_9_26
      have z_9_30 : zi 1 2147483647 n := zd_lt q_9_29 b0_2 z_1_25 (by decide)
      refine lv_iconst (v := (-1)) hx hb ddX12_end_12 (by decide) ?_
      exact cg_iret (nw := fun _ => 0) hC hr hlk hO.same rfl (Nat.le_of_ble_eq_true rfl) (Nat.le_of_ble_eq_true rfl) (⟨x0_2, b0_2, (zi_k (a := (-1)) (b := 1600) (x := (-1)) rfl), rfl⟩) ddX12_end_13

theorem ddX12_fault_0 : decode cX12_fault 0 = .ok (.iload_n 1, 1) := by decide +kernel
theorem ddX12_fault_1 : decode cX12_fault 1 = .ok (.ifCond .ne 10, 3) := by decide +kernel
theorem ddX12_fault_4 : decode cX12_fault 4 = .ok (.aload_n 0, 1) := by decide +kernel
theorem ddX12_fault_5 : decode cX12_fault 5 = .ok (.getfield 185, 3) := by decide +kernel
theorem ddX12_fault_8 : decode cX12_fault 8 = .ok (.goto 16, 3) := by decide +kernel
theorem ddX12_fault_11 : decode cX12_fault 11 = .ok (.iload_n 1, 1) := by decide +kernel
theorem ddX12_fault_12 : decode cX12_fault 12 = .ok (.iconst 1, 1) := by decide +kernel
theorem ddX12_fault_13 : decode cX12_fault 13 = .ok (.if_icmp .ne 10, 3) := by decide +kernel
theorem ddX12_fault_16 : decode cX12_fault 16 = .ok (.aload_n 0, 1) := by decide +kernel
theorem ddX12_fault_17 : decode cX12_fault 17 = .ok (.getfield 16, 3) := by decide +kernel
theorem ddX12_fault_20 : decode cX12_fault 20 = .ok (.goto 4, 3) := by decide +kernel
theorem ddX12_fault_23 : decode cX12_fault 23 = .ok (.iconst (-1), 1) := by decide +kernel
theorem ddX12_fault_24 : decode cX12_fault 24 = .ok (.ireturn, 1) := by decide +kernel
def wq_k_X12_fault : List Cond := Cond.code yX12_fault cX12_fault 2 (some .int) :: (([Cond.fieldLink RX12 16 "CrowTollModel" "faultPlace" "I", Cond.fieldLink RX12 185 "CrowTollModel" "faultKind" "I"] : List Cond) ++ wsX120)
set_option maxHeartbeats 8000000 in
set_option maxRecDepth 100000 in
theorem k_X12_fault (l : Launch) (D : va_G) (cy : Nat → ClassId) (ad : Nat → Nat) (g : Nat → va_E) {u0_0 : Value} {u0_1 : Value} {u0_2 : Value} {u0_3 : Value} {x0_4 : Int32} {x0_5 : Int32} {u0_6 : Value} {u0_7 : Value} {u0_8 : Value} {u0_9 : Value} {u0_10 : Value} {u0_11 : Value} {u0_12 : Value} {u0_13 : Value} {u0_14 : Value} {u0_15 : Value} {u0_16 : Value} {u0_17 : Value} {u0_18 : Value} {u0_19 : Value} {u0_20 : Value} {u0_21 : Value} {u0_22 : Value} {u0_23 : Value} {u0_24 : Value} {u0_25 : Value} {u0_26 : Value} {u0_27 : Value} {u0_28 : Value} {u0_29 : Value} {u0_30 : Value} {u0_31 : Value} {u0_32 : Value} {u0_33 : Value} {u0_34 : Value} {u0_35 : Value} {u0_36 : Value} {u0_37 : Value} {u0_38 : Value} {u0_39 : Value} {u0_40 : Value} {u0_41 : Value} {u0_42 : Value} {u0_43 : Value} {u0_44 : Value} {u0_45 : Value} {u0_46 : Value} {u0_47 : Value} {u0_48 : Value} {u0_49 : Value} {u0_50 : Value} {u0_51 : Value} {u0_52 : Value} {u0_53 : Value} {u0_54 : Value} {u0_55 : Value} {u0_56 : Value} {u0_57 : Value} {u0_58 : Value} {u0_59 : Value} {u0_60 : Value} {u0_61 : Value} {u0_62 : Value} {u0_63 : Value} {u0_64 : Value} {u0_65 : Value} {u0_66 : Value} {u0_67 : Value} {u0_68 : Value} {u0_69 : Value} {u0_70 : Value} {u0_71 : Value} {u0_72 : Value} {u0_73 : Value} {what : Int32} (o0 : g 0 = .inr (12, [u0_0, u0_1, u0_2, u0_3, .int x0_4, .int x0_5, u0_6, u0_7, u0_8, u0_9, u0_10, u0_11, u0_12, u0_13, u0_14, u0_15, u0_16, u0_17, u0_18, u0_19, u0_20, u0_21, u0_22, u0_23, u0_24, u0_25, u0_26, u0_27, u0_28, u0_29, u0_30, u0_31, u0_32, u0_33, u0_34, u0_35, u0_36, u0_37, u0_38, u0_39, u0_40, u0_41, u0_42, u0_43, u0_44, u0_45, u0_46, u0_47, u0_48, u0_49, u0_50, u0_51, u0_52, u0_53, u0_54, u0_55, u0_56, u0_57, u0_58, u0_59, u0_60, u0_61, u0_62, u0_63, u0_64, u0_65, u0_66, u0_67, u0_68, u0_69, u0_70, u0_71, u0_72, u0_73])) (b0_4 : zi 0 5 x0_4) : cMi l yX12_fault wq_k_X12_fault { frames := 0, cells := 0, slots := 0, locals := 0 } 1 0 0 0 D cy ad g [.ref (ad 0), .int what] (fun r nw lu => lu = []) := by
  refine cM_of (Qc := fun A => cQi (fun r nw lu => lu = []) D 1 0 ad g A) (cc := cX12_fault) (maxL := 2) (ret := (some .int)) (by decide) rfl (Nat.le_of_ble_eq_true rfl) ?_
  intro p e s m below meth c A hC hr hlk hnm hO ls hl
  have hC : CallFix p m c cX12_fault 2 s [.ref (ad 0), .int what].toArray wq_k_X12_fault RX12 := hC
  obtain ⟨hx, hb, hml, hown, hts⟩ := id hC
  have hl : lv_has ls 2 [(0, .ref (ad 0)), (1, .int what)] := hl
  have i_X12 : ∀ w ∈ wsX120, w ∈ wq_k_X12_fault := fun w h => List.mem_cons_of_mem _ (List.mem_append_right _ h)
  refine lv_iload_n hx hb ddX12_fault_0 rfl (lv_at hl 1 rfl) ?_
  refine lv_if_ne (tgt := 11) hx hb ddX12_fault_1 (by decide) (fun h_1_7 => ?_) (fun h_1_7 => ?_)
  · refine lv_iload_n hx hb ddX12_fault_11 rfl (lv_at hl 1 rfl) ?_
    refine lv_iconst (v := 1) hx hb ddX12_fault_12 (by decide) ?_
    refine lv_icmp_ne (tgt := 23) hx hb ddX12_fault_13 (by decide) (fun h_13_8 => ?_) (fun h_13_8 => ?_)
    · refine lv_iconst (v := (-1)) hx hb ddX12_fault_23 (by decide) ?_
      exact cg_iret (nw := fun _ => 0) hC hr hlk hO.same rfl (Nat.le_of_ble_eq_true rfl) (Nat.le_of_ble_eq_true rfl) rfl ddX12_fault_24
    · have q_13_9 := zr_eq h_13_8
      have z_13_10 : zi 1 1 what := ze_eq q_13_9 (zi_all what) (zi_k (a := 1) (b := 1) (x := 1) rfl)
      refine lv_aload_n hx hb ddX12_fault_16 rfl (lv_at hl 0 rfl) ?_
      refine cg_get hC hO 0 (by decide) o0 rfl i_X12 5 (by decide) (List.mem_of_getElem? (i := 1) rfl) rfl ddX12_fault_17 ?_
      refine lv_goto (tgt := 24) hx hb ddX12_fault_20 (by decide) ?_
      exact cg_iret (nw := fun _ => 0) hC hr hlk hO.same rfl (Nat.le_of_ble_eq_true rfl) (Nat.le_of_ble_eq_true rfl) rfl ddX12_fault_24
  · have q_1_11 := zr_eq h_1_7
    have z_1_12 : zi 0 0 what := ze_eq q_1_11 (zi_all what) (zi_k (a := 0) (b := 0) (x := 0) rfl)
    refine lv_aload_n hx hb ddX12_fault_4 rfl (lv_at hl 0 rfl) ?_
    refine cg_get hC hO 0 (by decide) o0 rfl i_X12 4 (by decide) (List.mem_of_getElem? (i := 2) rfl) rfl ddX12_fault_5 ?_
    refine lv_goto (tgt := 24) hx hb ddX12_fault_8 (by decide) ?_
    exact cg_iret (nw := fun _ => 0) hC hr hlk hO.same rfl (Nat.le_of_ble_eq_true rfl) (Nat.le_of_ble_eq_true rfl) rfl ddX12_fault_24

theorem ddX12_begin_0 : decode cX12_begin 0 = .ok (.iconst 0, 1) := by decide +kernel
theorem ddX12_begin_1 : decode cX12_begin 1 = .ok (.istore_n 1, 1) := by decide +kernel
theorem ddX12_begin_2 : decode cX12_begin 2 = .ok (.iload_n 1, 1) := by decide +kernel
theorem ddX12_begin_3 : decode cX12_begin 3 = .ok (.bipush 80, 2) := by decide +kernel
theorem ddX12_begin_5 : decode cX12_begin 5 = .ok (.if_icmp .ge 16, 3) := by decide +kernel
theorem ddX12_begin_8 : decode cX12_begin 8 = .ok (.aload_n 0, 1) := by decide +kernel
theorem ddX12_begin_9 : decode cX12_begin 9 = .ok (.getfield 98, 3) := by decide +kernel
theorem ddX12_begin_12 : decode cX12_begin 12 = .ok (.iload_n 1, 1) := by decide +kernel
theorem ddX12_begin_13 : decode cX12_begin 13 = .ok (.iconst 0, 1) := by decide +kernel
theorem ddX12_begin_14 : decode cX12_begin 14 = .ok (.iastore, 1) := by decide +kernel
theorem ddX12_begin_15 : decode cX12_begin 15 = .ok (.iinc 1 1, 3) := by decide +kernel
theorem ddX12_begin_18 : decode cX12_begin 18 = .ok (.goto (-16), 3) := by decide +kernel
theorem ddX12_begin_21 : decode cX12_begin 21 = .ok (.aload_n 0, 1) := by decide +kernel
theorem ddX12_begin_22 : decode cX12_begin 22 = .ok (.getfield 98, 3) := by decide +kernel
theorem ddX12_begin_25 : decode cX12_begin 25 = .ok (.iconst 0, 1) := by decide +kernel
theorem ddX12_begin_26 : decode cX12_begin 26 = .ok (.aload_n 0, 1) := by decide +kernel
theorem ddX12_begin_27 : decode cX12_begin 27 = .ok (.getfield 27, 3) := by decide +kernel
theorem ddX12_begin_30 : decode cX12_begin 30 = .ok (.aload_n 0, 1) := by decide +kernel
theorem ddX12_begin_31 : decode cX12_begin 31 = .ok (.getfield 286, 3) := by decide +kernel
theorem ddX12_begin_34 : decode cX12_begin 34 = .ok (.iaload, 1) := by decide +kernel
theorem ddX12_begin_35 : decode cX12_begin 35 = .ok (.iastore, 1) := by decide +kernel
theorem ddX12_begin_36 : decode cX12_begin 36 = .ok (.iconst 0, 1) := by decide +kernel
theorem ddX12_begin_37 : decode cX12_begin 37 = .ok (.istore_n 1, 1) := by decide +kernel
theorem ddX12_begin_38 : decode cX12_begin 38 = .ok (.iload_n 1, 1) := by decide +kernel
theorem ddX12_begin_39 : decode cX12_begin 39 = .ok (.aload_n 0, 1) := by decide +kernel
theorem ddX12_begin_40 : decode cX12_begin 40 = .ok (.getfield 27, 3) := by decide +kernel
theorem ddX12_begin_43 : decode cX12_begin 43 = .ok (.aload_n 0, 1) := by decide +kernel
theorem ddX12_begin_44 : decode cX12_begin 44 = .ok (.getfield 286, 3) := by decide +kernel
theorem ddX12_begin_47 : decode cX12_begin 47 = .ok (.iaload, 1) := by decide +kernel
theorem ddX12_begin_48 : decode cX12_begin 48 = .ok (.if_icmp .ge 85, 3) := by decide +kernel
theorem ddX12_begin_51 : decode cX12_begin 51 = .ok (.aload_n 0, 1) := by decide +kernel
theorem ddX12_begin_52 : decode cX12_begin 52 = .ok (.getfield 98, 3) := by decide +kernel
theorem ddX12_begin_55 : decode cX12_begin 55 = .ok (.iconst 1, 1) := by decide +kernel
theorem ddX12_begin_56 : decode cX12_begin 56 = .ok (.iload_n 1, 1) := by decide +kernel
theorem ddX12_begin_57 : decode cX12_begin 57 = .ok (.iadd, 1) := by decide +kernel
theorem ddX12_begin_58 : decode cX12_begin 58 = .ok (.aload_n 0, 1) := by decide +kernel
theorem ddX12_begin_59 : decode cX12_begin 59 = .ok (.getfield 57, 3) := by decide +kernel
theorem ddX12_begin_62 : decode cX12_begin 62 = .ok (.bipush 12, 2) := by decide +kernel
theorem ddX12_begin_64 : decode cX12_begin 64 = .ok (.aload_n 0, 1) := by decide +kernel
theorem ddX12_begin_65 : decode cX12_begin 65 = .ok (.getfield 286, 3) := by decide +kernel
theorem ddX12_begin_68 : decode cX12_begin 68 = .ok (.imul, 1) := by decide +kernel
theorem ddX12_begin_69 : decode cX12_begin 69 = .ok (.iload_n 1, 1) := by decide +kernel
theorem ddX12_begin_70 : decode cX12_begin 70 = .ok (.iadd, 1) := by decide +kernel
theorem ddX12_begin_71 : decode cX12_begin 71 = .ok (.iaload, 1) := by decide +kernel
theorem ddX12_begin_72 : decode cX12_begin 72 = .ok (.iastore, 1) := by decide +kernel
theorem ddX12_begin_73 : decode cX12_begin 73 = .ok (.aload_n 0, 1) := by decide +kernel
theorem ddX12_begin_74 : decode cX12_begin 74 = .ok (.getfield 98, 3) := by decide +kernel
theorem ddX12_begin_77 : decode cX12_begin 77 = .ok (.bipush 25, 2) := by decide +kernel
theorem ddX12_begin_79 : decode cX12_begin 79 = .ok (.iload_n 1, 1) := by decide +kernel
theorem ddX12_begin_80 : decode cX12_begin 80 = .ok (.iadd, 1) := by decide +kernel
theorem ddX12_begin_81 : decode cX12_begin 81 = .ok (.aload_n 0, 1) := by decide +kernel
theorem ddX12_begin_82 : decode cX12_begin 82 = .ok (.getfield 60, 3) := by decide +kernel
theorem ddX12_begin_85 : decode cX12_begin 85 = .ok (.bipush 12, 2) := by decide +kernel
theorem ddX12_begin_87 : decode cX12_begin 87 = .ok (.aload_n 0, 1) := by decide +kernel
theorem ddX12_begin_88 : decode cX12_begin 88 = .ok (.getfield 286, 3) := by decide +kernel
theorem ddX12_begin_91 : decode cX12_begin 91 = .ok (.imul, 1) := by decide +kernel
theorem ddX12_begin_92 : decode cX12_begin 92 = .ok (.iload_n 1, 1) := by decide +kernel
theorem ddX12_begin_93 : decode cX12_begin 93 = .ok (.iadd, 1) := by decide +kernel
theorem ddX12_begin_94 : decode cX12_begin 94 = .ok (.iaload, 1) := by decide +kernel
theorem ddX12_begin_95 : decode cX12_begin 95 = .ok (.iastore, 1) := by decide +kernel
theorem ddX12_begin_96 : decode cX12_begin 96 = .ok (.aload_n 0, 1) := by decide +kernel
theorem ddX12_begin_97 : decode cX12_begin 97 = .ok (.getfield 98, 3) := by decide +kernel
theorem ddX12_begin_100 : decode cX12_begin 100 = .ok (.bipush 49, 2) := by decide +kernel
theorem ddX12_begin_102 : decode cX12_begin 102 = .ok (.iload_n 1, 1) := by decide +kernel
theorem ddX12_begin_103 : decode cX12_begin 103 = .ok (.iadd, 1) := by decide +kernel
theorem ddX12_begin_104 : decode cX12_begin 104 = .ok (.aload_n 0, 1) := by decide +kernel
theorem ddX12_begin_105 : decode cX12_begin 105 = .ok (.getfield 66, 3) := by decide +kernel
theorem ddX12_begin_108 : decode cX12_begin 108 = .ok (.bipush 12, 2) := by decide +kernel
theorem ddX12_begin_110 : decode cX12_begin 110 = .ok (.aload_n 0, 1) := by decide +kernel
theorem ddX12_begin_111 : decode cX12_begin 111 = .ok (.getfield 286, 3) := by decide +kernel
theorem ddX12_begin_114 : decode cX12_begin 114 = .ok (.imul, 1) := by decide +kernel
theorem ddX12_begin_115 : decode cX12_begin 115 = .ok (.iload_n 1, 1) := by decide +kernel
theorem ddX12_begin_116 : decode cX12_begin 116 = .ok (.iadd, 1) := by decide +kernel
theorem ddX12_begin_117 : decode cX12_begin 117 = .ok (.baload, 1) := by decide +kernel
theorem ddX12_begin_118 : decode cX12_begin 118 = .ok (.ifCond .eq 7, 3) := by decide +kernel
theorem ddX12_begin_121 : decode cX12_begin 121 = .ok (.iconst 0, 1) := by decide +kernel
theorem ddX12_begin_122 : decode cX12_begin 122 = .ok (.goto 4, 3) := by decide +kernel
theorem ddX12_begin_125 : decode cX12_begin 125 = .ok (.iconst 1, 1) := by decide +kernel
theorem ddX12_begin_126 : decode cX12_begin 126 = .ok (.iastore, 1) := by decide +kernel
theorem ddX12_begin_127 : decode cX12_begin 127 = .ok (.iinc 1 1, 3) := by decide +kernel
theorem ddX12_begin_130 : decode cX12_begin 130 = .ok (.goto (-92), 3) := by decide +kernel
theorem ddX12_begin_133 : decode cX12_begin 133 = .ok (.iconst 0, 1) := by decide +kernel
theorem ddX12_begin_134 : decode cX12_begin 134 = .ok (.istore_n 1, 1) := by decide +kernel
theorem ddX12_begin_135 : decode cX12_begin 135 = .ok (.iload_n 1, 1) := by decide +kernel
theorem ddX12_begin_136 : decode cX12_begin 136 = .ok (.aload_n 0, 1) := by decide +kernel
theorem ddX12_begin_137 : decode cX12_begin 137 = .ok (.invokevirtual 363, 3) := by decide +kernel
theorem ddX12_begin_140 : decode cX12_begin 140 = .ok (.if_icmp .ge 31, 3) := by decide +kernel
theorem ddX12_begin_143 : decode cX12_begin 143 = .ok (.aload_n 0, 1) := by decide +kernel
theorem ddX12_begin_144 : decode cX12_begin 144 = .ok (.getfield 98, 3) := by decide +kernel
theorem ddX12_begin_147 : decode cX12_begin 147 = .ok (.bipush 73, 2) := by decide +kernel
theorem ddX12_begin_149 : decode cX12_begin 149 = .ok (.iload_n 1, 1) := by decide +kernel
theorem ddX12_begin_150 : decode cX12_begin 150 = .ok (.iadd, 1) := by decide +kernel
theorem ddX12_begin_151 : decode cX12_begin 151 = .ok (.aload_n 0, 1) := by decide +kernel
theorem ddX12_begin_152 : decode cX12_begin 152 = .ok (.getfield 33, 3) := by decide +kernel
theorem ddX12_begin_155 : decode cX12_begin 155 = .ok (.iconst 5, 1) := by decide +kernel
theorem ddX12_begin_156 : decode cX12_begin 156 = .ok (.aload_n 0, 1) := by decide +kernel
theorem ddX12_begin_157 : decode cX12_begin 157 = .ok (.getfield 286, 3) := by decide +kernel
theorem ddX12_begin_160 : decode cX12_begin 160 = .ok (.imul, 1) := by decide +kernel
theorem ddX12_begin_161 : decode cX12_begin 161 = .ok (.iload_n 1, 1) := by decide +kernel
theorem ddX12_begin_162 : decode cX12_begin 162 = .ok (.iadd, 1) := by decide +kernel
theorem ddX12_begin_163 : decode cX12_begin 163 = .ok (.iaload, 1) := by decide +kernel
theorem ddX12_begin_164 : decode cX12_begin 164 = .ok (.iastore, 1) := by decide +kernel
theorem ddX12_begin_165 : decode cX12_begin 165 = .ok (.iinc 1 1, 3) := by decide +kernel
theorem ddX12_begin_168 : decode cX12_begin 168 = .ok (.goto (-33), 3) := by decide +kernel
theorem ddX12_begin_171 : decode cX12_begin 171 = .ok (.aload_n 0, 1) := by decide +kernel
theorem ddX12_begin_172 : decode cX12_begin 172 = .ok (.iconst 0, 1) := by decide +kernel
theorem ddX12_begin_173 : decode cX12_begin 173 = .ok (.putfield 373, 3) := by decide +kernel
theorem ddX12_begin_176 : decode cX12_begin 176 = .ok (.aload_n 0, 1) := by decide +kernel
theorem ddX12_begin_177 : decode cX12_begin 177 = .ok (.iconst 0, 1) := by decide +kernel
theorem ddX12_begin_178 : decode cX12_begin 178 = .ok (.putfield 376, 3) := by decide +kernel
theorem ddX12_begin_181 : decode cX12_begin 181 = .ok (.return_, 1) := by decide +kernel
def wq_k_X12_begin : List Cond := Cond.code yX12_begin cX12_begin 2 none :: (([Cond.fieldLink RX12 98 "CrowTollModel" "state" "[I", Cond.fieldLink RX12 27 "CrowTollModel" "carts" "[I", Cond.fieldLink RX12 286 "CrowTollModel" "bank" "I", Cond.fieldLink RX12 57 "CrowTollModel" "cartMinute" "[I", Cond.fieldLink RX12 60 "CrowTollModel" "cartSacks" "[I", Cond.fieldLink RX12 66 "CrowTollModel" "isMaybe" "[Z", Cond.methodLink RX12 363 yX12_birdMany, Cond.instanceMethod yX12_birdMany, Cond.selects RX12 yX12_birdMany yX12_birdMany, Cond.initialized RX12, Cond.code yX12_birdMany cX12_birdMany 1 (some .int), Cond.fieldLink RX12 20 "CrowTollModel" "birds" "[I", Cond.fieldLink RX12 33 "CrowTollModel" "countsTold" "[I", Cond.fieldLink RX12 373 "CrowTollModel" "acts" "I", Cond.fieldLink RX12 376 "CrowTollModel" "undone" "I"] : List Cond) ++ wsX120)
set_option maxRecDepth 20000 in
theorem gr_k_X12_begin_k_X12_birdMany : GoodIn wq_k_X12_begin wq_k_X12_birdMany := List.forall_mem_cons.mpr ⟨⟨(List.mem_of_getElem? (i := 11) rfl), good_of_word rfl⟩, List.forall_mem_append.mpr ⟨List.forall_mem_cons.mpr ⟨⟨(List.mem_of_getElem? (i := 12) rfl), good_of_word rfl⟩, List.forall_mem_cons.mpr ⟨⟨(List.mem_of_getElem? (i := 3) rfl), good_of_word rfl⟩, (fun _ h => absurd h List.not_mem_nil)⟩⟩, fun w h => ⟨(fun w h => List.mem_cons_of_mem _ (List.mem_append_right _ h)) w h, good_of_word (List.all_eq_true.mp gw_X12 w h)⟩⟩⟩
set_option maxRecDepth 20000 in
theorem gq_k_X12_begin_k_X12_birdMany_363 : GoodIn wq_k_X12_begin (wsV RX12 363 RX12 yX12_birdMany wq_k_X12_birdMany) := goodIn_app (List.forall_mem_cons.mpr ⟨⟨(List.mem_of_getElem? (i := 7) rfl), good_of_word rfl⟩, List.forall_mem_cons.mpr ⟨⟨(List.mem_of_getElem? (i := 8) rfl), good_of_word rfl⟩, List.forall_mem_cons.mpr ⟨⟨(List.mem_of_getElem? (i := 9) rfl), good_of_word rfl⟩, List.forall_mem_cons.mpr ⟨⟨(List.mem_of_getElem? (i := 10) rfl), good_of_word rfl⟩, (fun _ h => absurd h List.not_mem_nil)⟩⟩⟩⟩) gr_k_X12_begin_k_X12_birdMany
set_option maxHeartbeats 8000000 in
set_option maxRecDepth 100000 in
theorem k_X12_begin (l : Launch) (D : va_G) (cy : Nat → ClassId) (ad : Nat → Nat) (g : Nat → va_E) {u0_0 : Value} {u0_1 : Value} {u0_2 : Value} {u0_3 : Value} {u0_4 : Value} {u0_5 : Value} {u0_6 : Value} {u0_7 : Value} {u0_8 : Value} {u0_9 : Value} {u0_10 : Value} {u0_12 : Value} {u0_14 : Value} {u0_16 : Value} {u0_17 : Value} {u0_18 : Value} {u0_19 : Value} {u0_20 : Value} {u0_21 : Value} {u0_22 : Value} {u0_25 : Value} {u0_27 : Value} {u0_28 : Value} {u0_29 : Value} {u0_30 : Value} {u0_31 : Value} {u0_32 : Value} {u0_33 : Value} {u0_34 : Value} {u0_35 : Value} {x0_36 : Int32} {u0_37 : Value} {u0_38 : Value} {u0_39 : Value} {u0_40 : Value} {u0_42 : Value} {u0_43 : Value} {u0_44 : Value} {u0_45 : Value} {u0_46 : Value} {u0_47 : Value} {u0_48 : Value} {u0_49 : Value} {u0_50 : Value} {u0_51 : Value} {u0_52 : Value} {u0_53 : Value} {u0_54 : Value} {u0_55 : Value} {u0_56 : Value} {u0_57 : Value} {u0_58 : Value} {x0_59 : Int32} {x0_60 : Int32} {u0_61 : Value} {u0_62 : Value} {u0_63 : Value} {u0_64 : Value} {u0_65 : Value} {u0_66 : Value} {u0_67 : Value} {u0_68 : Value} {u0_69 : Value} {u0_70 : Value} {u0_71 : Value} {u0_72 : Value} {u0_73 : Value} {c1 : Nat → Int32} {c2 : Nat → Int32} {c3 : Nat → Int32} {c4 : Nat → Int32} {c5 : Nat → Int32} {c6 : Nat → Int32} {c7 : Nat → Int32} (o0 : g 0 = .inr (12, [u0_0, u0_1, u0_2, u0_3, u0_4, u0_5, u0_6, u0_7, u0_8, u0_9, u0_10, .ref (ad 6), u0_12, .ref (ad 2), u0_14, .ref (ad 7), u0_16, u0_17, u0_18, u0_19, u0_20, u0_21, u0_22, .ref (ad 3), .ref (ad 4), u0_25, .ref (ad 5), u0_27, u0_28, u0_29, u0_30, u0_31, u0_32, u0_33, u0_34, u0_35, .int x0_36, u0_37, u0_38, u0_39, u0_40, .ref (ad 1), u0_42, u0_43, u0_44, u0_45, u0_46, u0_47, u0_48, u0_49, u0_50, u0_51, u0_52, u0_53, u0_54, u0_55, u0_56, u0_57, u0_58, .int x0_59, .int x0_60, u0_61, u0_62, u0_63, u0_64, u0_65, u0_66, u0_67, u0_68, u0_69, u0_70, u0_71, u0_72, u0_73])) (a1 : g 1 = .inl (cy 0, 80, .inl c1)) (a2 : g 2 = .inl (cy 0, 2, .inl c2)) (a3 : g 3 = .inl (cy 0, 24, .inl c3)) (a4 : g 4 = .inl (cy 0, 24, .inl c4)) (a5 : g 5 = .inl (cy 2, 24, .inl c5)) (a6 : g 6 = .inl (cy 0, 2, .inl c6)) (a7 : g 7 = .inl (cy 0, 10, .inl c7)) (b0_36 : zi 0 1 x0_36) (b0_59 : zi 0 40 x0_59) (b0_60 : zi 0 40 x0_60) (ha1 : zs c1) (ha2 : za 0 12 c2) (ha5 : za 0 1 c5) (ha6 : za 0 5 c6) (hw0U : ((x0_59 : Int32).toInt + (x0_60 : Int32).toInt ≤ 40)) : cMv l yX12_begin wq_k_X12_begin { frames := 1, cells := 0, slots := 0, locals := 20 } 8 0 0 0 D cy ad g [.ref (ad 0)] (fun nw lu => ∃ (d1 : Nat → Int32), (zs d1) ∧ (((0 : Int32).toInt + (0 : Int32).toInt ≤ 40)) ∧ (lu = [(0, .inr (12, [u0_0, u0_1, u0_2, u0_3, u0_4, u0_5, u0_6, u0_7, u0_8, u0_9, u0_10, .ref (ad 6), u0_12, .ref (ad 2), u0_14, .ref (ad 7), u0_16, u0_17, u0_18, u0_19, u0_20, u0_21, u0_22, .ref (ad 3), .ref (ad 4), u0_25, .ref (ad 5), u0_27, u0_28, u0_29, u0_30, u0_31, u0_32, u0_33, u0_34, u0_35, .int x0_36, u0_37, u0_38, u0_39, u0_40, .ref (ad 1), u0_42, u0_43, u0_44, u0_45, u0_46, u0_47, u0_48, u0_49, u0_50, u0_51, u0_52, u0_53, u0_54, u0_55, u0_56, u0_57, u0_58, .int 0, .int 0, u0_61, u0_62, u0_63, u0_64, u0_65, u0_66, u0_67, u0_68, u0_69, u0_70, u0_71, u0_72, u0_73])), (1, .inl (cy 0, 80, .inl d1))])) := by
  refine cM_of (Qc := fun A => cQv (fun nw lu => ∃ (d1 : Nat → Int32), (zs d1) ∧ (((0 : Int32).toInt + (0 : Int32).toInt ≤ 40)) ∧ (lu = [(0, .inr (12, [u0_0, u0_1, u0_2, u0_3, u0_4, u0_5, u0_6, u0_7, u0_8, u0_9, u0_10, .ref (ad 6), u0_12, .ref (ad 2), u0_14, .ref (ad 7), u0_16, u0_17, u0_18, u0_19, u0_20, u0_21, u0_22, .ref (ad 3), .ref (ad 4), u0_25, .ref (ad 5), u0_27, u0_28, u0_29, u0_30, u0_31, u0_32, u0_33, u0_34, u0_35, .int x0_36, u0_37, u0_38, u0_39, u0_40, .ref (ad 1), u0_42, u0_43, u0_44, u0_45, u0_46, u0_47, u0_48, u0_49, u0_50, u0_51, u0_52, u0_53, u0_54, u0_55, u0_56, u0_57, u0_58, .int 0, .int 0, u0_61, u0_62, u0_63, u0_64, u0_65, u0_66, u0_67, u0_68, u0_69, u0_70, u0_71, u0_72, u0_73])), (1, .inl (cy 0, 80, .inl d1))])) D 8 0 ad g A) (cc := cX12_begin) (maxL := 2) (ret := none) (by decide) rfl (Nat.le_of_ble_eq_true rfl) ?_
  intro p e s m below meth c A hC hr hlk hnm hO ls hl
  have hC : CallFix p m c cX12_begin 2 s [.ref (ad 0)].toArray wq_k_X12_begin RX12 := hC
  obtain ⟨hx, hb, hml, hown, hts⟩ := id hC
  have hl : lv_has ls 2 [(0, .ref (ad 0))] := hl
  have i_X12 : ∀ w ∈ wsX120, w ∈ wq_k_X12_begin := fun w h => List.mem_cons_of_mem _ (List.mem_append_right _ h)
  have hO := hO.notes [(0, .inr (12, [u0_0, u0_1, u0_2, u0_3, u0_4, u0_5, u0_6, u0_7, u0_8, u0_9, u0_10, .ref (ad 6), u0_12, .ref (ad 2), u0_14, .ref (ad 7), u0_16, u0_17, u0_18, u0_19, u0_20, u0_21, u0_22, .ref (ad 3), .ref (ad 4), u0_25, .ref (ad 5), u0_27, u0_28, u0_29, u0_30, u0_31, u0_32, u0_33, u0_34, u0_35, .int x0_36, u0_37, u0_38, u0_39, u0_40, .ref (ad 1), u0_42, u0_43, u0_44, u0_45, u0_46, u0_47, u0_48, u0_49, u0_50, u0_51, u0_52, u0_53, u0_54, u0_55, u0_56, u0_57, u0_58, .int x0_59, .int x0_60, u0_61, u0_62, u0_63, u0_64, u0_65, u0_66, u0_67, u0_68, u0_69, u0_70, u0_71, u0_72, u0_73])), (1, .inl (cy 0, 80, .inl c1))] (List.forall_mem_cons.mpr ⟨o0, List.forall_mem_cons.mpr ⟨a1, (fun _ h => absurd h List.not_mem_nil)⟩⟩)
  refine lv_iconst (v := 0) hx hb ddX12_begin_0 (by decide) ?_
  refine lv_istore_n (lv' := [(1, .int 0), (0, .ref (ad 0))]) hx hb ddX12_begin_1 rfl hl (by decide) rfl (fun ls hl => ?_)
  have loop_2_23814 : ∀ (d_2_23815 : Nat) (v_2_19897 : Int32) (c_2_19899 : Nat → Int32), zi 0 80 v_2_19897 → zs c_2_19899 → (80 + 1 - v_2_19897.toInt).toNat < d_2_23815 → ∀ (H : Heap) (locs : List Loc), cO D cy A s.heap s 8 ad (cup [(0, .inr (12, [u0_0, u0_1, u0_2, u0_3, u0_4, u0_5, u0_6, u0_7, u0_8, u0_9, u0_10, .ref (ad 6), u0_12, .ref (ad 2), u0_14, .ref (ad 7), u0_16, u0_17, u0_18, u0_19, u0_20, u0_21, u0_22, .ref (ad 3), .ref (ad 4), u0_25, .ref (ad 5), u0_27, u0_28, u0_29, u0_30, u0_31, u0_32, u0_33, u0_34, u0_35, .int x0_36, u0_37, u0_38, u0_39, u0_40, .ref (ad 1), u0_42, u0_43, u0_44, u0_45, u0_46, u0_47, u0_48, u0_49, u0_50, u0_51, u0_52, u0_53, u0_54, u0_55, u0_56, u0_57, u0_58, .int x0_59, .int x0_60, u0_61, u0_62, u0_63, u0_64, u0_65, u0_66, u0_67, u0_68, u0_69, u0_70, u0_71, u0_72, u0_73])), (1, .inl (cy 0, 80, .inl c_2_19899))] g) H locs → ∀ ls : Array Slot, lv_has ls 2 [(1, .int v_2_19897), (0, .ref (ad 0))] → W p l e { frames := 1, cells := 0, slots := 0, locals := 20 } s m [.ref (ad 0)].toArray below meth c H locs 0 0 (MQ below (cQv (fun nw lu => ∃ (d1 : Nat → Int32), (zs d1) ∧ (((0 : Int32).toInt + (0 : Int32).toInt ≤ 40)) ∧ (lu = [(0, .inr (12, [u0_0, u0_1, u0_2, u0_3, u0_4, u0_5, u0_6, u0_7, u0_8, u0_9, u0_10, .ref (ad 6), u0_12, .ref (ad 2), u0_14, .ref (ad 7), u0_16, u0_17, u0_18, u0_19, u0_20, u0_21, u0_22, .ref (ad 3), .ref (ad 4), u0_25, .ref (ad 5), u0_27, u0_28, u0_29, u0_30, u0_31, u0_32, u0_33, u0_34, u0_35, .int x0_36, u0_37, u0_38, u0_39, u0_40, .ref (ad 1), u0_42, u0_43, u0_44, u0_45, u0_46, u0_47, u0_48, u0_49, u0_50, u0_51, u0_52, u0_53, u0_54, u0_55, u0_56, u0_57, u0_58, .int 0, .int 0, u0_61, u0_62, u0_63, u0_64, u0_65, u0_66, u0_67, u0_68, u0_69, u0_70, u0_71, u0_72, u0_73])), (1, .inl (cy 0, 80, .inl d1))])) D 8 0 ad g A) [.ref (ad 0)].toArray s 0 0 A) (F0 m 2 ls [])  := by
    intro d_2_23815
    induction d_2_23815 with
    | zero => intro v_2_19897 c_2_19899 z_2_19898 zc_2_19900 mu_2_23816; exact absurd mu_2_23816 (Nat.not_lt_zero _)
    | succ d_2_23815 ih_2_23817 =>
      intro v_2_19897 c_2_19899 z_2_19898 zc_2_19900 mu_2_23816 H locs hO ls hl
      refine lv_iload_n hx hb ddX12_begin_2 rfl (lv_at hl 0 rfl) ?_
      refine lv_bipush (v := 80) hx hb ddX12_begin_3 (by decide) ?_
      refine lv_icmp_ge (tgt := 21) hx hb ddX12_begin_5 (by decide) (fun h_5_23818 => ?_) (fun h_5_23818 => ?_)
      · have q_5_23830 := zr_le h_5_23818
        have z_5_23831 : zi 80 80 v_2_19897 := zd_le q_5_23830 (zi_k (a := 80) (b := 80) (x := 80) rfl) z_2_19898 (by decide)
        refine lv_aload_n hx hb ddX12_begin_21 rfl (lv_at hl 1 rfl) ?_
        refine cg_get hC hO 0 (by decide) rfl rfl i_X12 41 (by decide) (List.mem_of_getElem? (i := 1) rfl) rfl ddX12_begin_22 ?_
        refine lv_iconst (v := 0) hx hb ddX12_begin_25 (by decide) ?_
        refine lv_aload_n hx hb ddX12_begin_26 rfl (lv_at hl 1 rfl) ?_
        refine cg_get hC hO 0 (by decide) rfl rfl i_X12 13 (by decide) (List.mem_of_getElem? (i := 2) rfl) rfl ddX12_begin_27 ?_
        refine lv_aload_n hx hb ddX12_begin_30 rfl (lv_at hl 1 rfl) ?_
        refine cg_get hC hO 0 (by decide) rfl rfl i_X12 36 (by decide) (List.mem_of_getElem? (i := 3) rfl) rfl ddX12_begin_31 ?_
        refine zg_iald hC hO 2 (by decide) a2 ha2 (zi_in b0_36 (by decide)) ddX12_begin_34 (fun v_34_23832 z_34_23833 => ?_)
        refine zg_iastS hC hO 1 (by decide) rfl zc_2_19900 (fun _ => (zi_w (c := 0) (d := 24) z_34_23833 (by decide))) (cin (by decide)) ddX12_begin_35 (fun H locs c_35_23834 zc_35_23835 el_35_23836 hO => ?_)
        have hO : cO D cy A s.heap s 8 ad (cup [(0, .inr (12, [u0_0, u0_1, u0_2, u0_3, u0_4, u0_5, u0_6, u0_7, u0_8, u0_9, u0_10, .ref (ad 6), u0_12, .ref (ad 2), u0_14, .ref (ad 7), u0_16, u0_17, u0_18, u0_19, u0_20, u0_21, u0_22, .ref (ad 3), .ref (ad 4), u0_25, .ref (ad 5), u0_27, u0_28, u0_29, u0_30, u0_31, u0_32, u0_33, u0_34, u0_35, .int x0_36, u0_37, u0_38, u0_39, u0_40, .ref (ad 1), u0_42, u0_43, u0_44, u0_45, u0_46, u0_47, u0_48, u0_49, u0_50, u0_51, u0_52, u0_53, u0_54, u0_55, u0_56, u0_57, u0_58, .int x0_59, .int x0_60, u0_61, u0_62, u0_63, u0_64, u0_65, u0_66, u0_67, u0_68, u0_69, u0_70, u0_71, u0_72, u0_73])), (1, .inl (cy 0, 80, .inl c_35_23834))] g) _ _ := hO
        refine lv_iconst (v := 0) hx hb ddX12_begin_36 (by decide) ?_
        refine lv_istore_n (lv' := [(1, .int 0), (0, .ref (ad 0))]) hx hb ddX12_begin_37 rfl hl (by decide) rfl (fun ls hl => ?_)
        have loop_38_27722 : ∀ (d_38_27723 : Nat) (v_38_27287 : Int32) (c_38_27289 : Nat → Int32), zi 0 12 v_38_27287 → zs c_38_27289 → (12 + 1 - v_38_27287.toInt).toNat < d_38_27723 → ∀ (H : Heap) (locs : List Loc), cO D cy A s.heap s 8 ad (cup [(0, .inr (12, [u0_0, u0_1, u0_2, u0_3, u0_4, u0_5, u0_6, u0_7, u0_8, u0_9, u0_10, .ref (ad 6), u0_12, .ref (ad 2), u0_14, .ref (ad 7), u0_16, u0_17, u0_18, u0_19, u0_20, u0_21, u0_22, .ref (ad 3), .ref (ad 4), u0_25, .ref (ad 5), u0_27, u0_28, u0_29, u0_30, u0_31, u0_32, u0_33, u0_34, u0_35, .int x0_36, u0_37, u0_38, u0_39, u0_40, .ref (ad 1), u0_42, u0_43, u0_44, u0_45, u0_46, u0_47, u0_48, u0_49, u0_50, u0_51, u0_52, u0_53, u0_54, u0_55, u0_56, u0_57, u0_58, .int x0_59, .int x0_60, u0_61, u0_62, u0_63, u0_64, u0_65, u0_66, u0_67, u0_68, u0_69, u0_70, u0_71, u0_72, u0_73])), (1, .inl (cy 0, 80, .inl c_38_27289))] g) H locs → ∀ ls : Array Slot, lv_has ls 2 [(1, .int v_38_27287), (0, .ref (ad 0))] → W p l e { frames := 1, cells := 0, slots := 0, locals := 20 } s m [.ref (ad 0)].toArray below meth c H locs 0 0 (MQ below (cQv (fun nw lu => ∃ (d1 : Nat → Int32), (zs d1) ∧ (((0 : Int32).toInt + (0 : Int32).toInt ≤ 40)) ∧ (lu = [(0, .inr (12, [u0_0, u0_1, u0_2, u0_3, u0_4, u0_5, u0_6, u0_7, u0_8, u0_9, u0_10, .ref (ad 6), u0_12, .ref (ad 2), u0_14, .ref (ad 7), u0_16, u0_17, u0_18, u0_19, u0_20, u0_21, u0_22, .ref (ad 3), .ref (ad 4), u0_25, .ref (ad 5), u0_27, u0_28, u0_29, u0_30, u0_31, u0_32, u0_33, u0_34, u0_35, .int x0_36, u0_37, u0_38, u0_39, u0_40, .ref (ad 1), u0_42, u0_43, u0_44, u0_45, u0_46, u0_47, u0_48, u0_49, u0_50, u0_51, u0_52, u0_53, u0_54, u0_55, u0_56, u0_57, u0_58, .int 0, .int 0, u0_61, u0_62, u0_63, u0_64, u0_65, u0_66, u0_67, u0_68, u0_69, u0_70, u0_71, u0_72, u0_73])), (1, .inl (cy 0, 80, .inl d1))])) D 8 0 ad g A) [.ref (ad 0)].toArray s 0 0 A) (F0 m 38 ls [])  := by
          intro d_38_27723
          induction d_38_27723 with
          | zero => intro v_38_27287 c_38_27289 z_38_27288 zc_38_27290 mu_38_27724; exact absurd mu_38_27724 (Nat.not_lt_zero _)
          | succ d_38_27723 ih_38_27725 =>
            intro v_38_27287 c_38_27289 z_38_27288 zc_38_27290 mu_38_27724 H locs hO ls hl
            refine lv_iload_n hx hb ddX12_begin_38 rfl (lv_at hl 0 rfl) ?_
            refine lv_aload_n hx hb ddX12_begin_39 rfl (lv_at hl 1 rfl) ?_
            refine cg_get hC hO 0 (by decide) rfl rfl i_X12 13 (by decide) (List.mem_of_getElem? (i := 2) rfl) rfl ddX12_begin_40 ?_
            refine lv_aload_n hx hb ddX12_begin_43 rfl (lv_at hl 1 rfl) ?_
            refine cg_get hC hO 0 (by decide) rfl rfl i_X12 36 (by decide) (List.mem_of_getElem? (i := 3) rfl) rfl ddX12_begin_44 ?_
            refine zg_iald hC hO 2 (by decide) a2 ha2 (zi_in b0_36 (by decide)) ddX12_begin_47 (fun v_47_27726 z_47_27727 => ?_)
            refine lv_icmp_ge (tgt := 133) hx hb ddX12_begin_48 (by decide) (fun h_48_27728 => ?_) (fun h_48_27728 => ?_)
            · have q_48_27790 := zr_le h_48_27728
              refine lv_iconst (v := 0) hx hb ddX12_begin_133 (by decide) ?_
              refine lv_istore_n (lv' := [(1, .int 0), (0, .ref (ad 0))]) hx hb ddX12_begin_134 rfl hl (by decide) rfl (fun ls hl => ?_)
              have loop_135_28097 : ∀ (d_135_28098 : Nat) (v_135_28043 : Int32) (c_135_28045 : Nat → Int32), zi 0 5 v_135_28043 → zs c_135_28045 → (5 + 1 - v_135_28043.toInt).toNat < d_135_28098 → ∀ (H : Heap) (locs : List Loc), cO D cy A s.heap s 8 ad (cup [(0, .inr (12, [u0_0, u0_1, u0_2, u0_3, u0_4, u0_5, u0_6, u0_7, u0_8, u0_9, u0_10, .ref (ad 6), u0_12, .ref (ad 2), u0_14, .ref (ad 7), u0_16, u0_17, u0_18, u0_19, u0_20, u0_21, u0_22, .ref (ad 3), .ref (ad 4), u0_25, .ref (ad 5), u0_27, u0_28, u0_29, u0_30, u0_31, u0_32, u0_33, u0_34, u0_35, .int x0_36, u0_37, u0_38, u0_39, u0_40, .ref (ad 1), u0_42, u0_43, u0_44, u0_45, u0_46, u0_47, u0_48, u0_49, u0_50, u0_51, u0_52, u0_53, u0_54, u0_55, u0_56, u0_57, u0_58, .int x0_59, .int x0_60, u0_61, u0_62, u0_63, u0_64, u0_65, u0_66, u0_67, u0_68, u0_69, u0_70, u0_71, u0_72, u0_73])), (1, .inl (cy 0, 80, .inl c_135_28045))] g) H locs → ∀ ls : Array Slot, lv_has ls 2 [(1, .int v_135_28043), (0, .ref (ad 0))] → W p l e { frames := 1, cells := 0, slots := 0, locals := 20 } s m [.ref (ad 0)].toArray below meth c H locs 0 0 (MQ below (cQv (fun nw lu => ∃ (d1 : Nat → Int32), (zs d1) ∧ (((0 : Int32).toInt + (0 : Int32).toInt ≤ 40)) ∧ (lu = [(0, .inr (12, [u0_0, u0_1, u0_2, u0_3, u0_4, u0_5, u0_6, u0_7, u0_8, u0_9, u0_10, .ref (ad 6), u0_12, .ref (ad 2), u0_14, .ref (ad 7), u0_16, u0_17, u0_18, u0_19, u0_20, u0_21, u0_22, .ref (ad 3), .ref (ad 4), u0_25, .ref (ad 5), u0_27, u0_28, u0_29, u0_30, u0_31, u0_32, u0_33, u0_34, u0_35, .int x0_36, u0_37, u0_38, u0_39, u0_40, .ref (ad 1), u0_42, u0_43, u0_44, u0_45, u0_46, u0_47, u0_48, u0_49, u0_50, u0_51, u0_52, u0_53, u0_54, u0_55, u0_56, u0_57, u0_58, .int 0, .int 0, u0_61, u0_62, u0_63, u0_64, u0_65, u0_66, u0_67, u0_68, u0_69, u0_70, u0_71, u0_72, u0_73])), (1, .inl (cy 0, 80, .inl d1))])) D 8 0 ad g A) [.ref (ad 0)].toArray s 0 0 A) (F0 m 135 ls [])  := by
                intro d_135_28098
                induction d_135_28098 with
                | zero => intro v_135_28043 c_135_28045 z_135_28044 zc_135_28046 mu_135_28099; exact absurd mu_135_28099 (Nat.not_lt_zero _)
                | succ d_135_28098 ih_135_28100 =>
                  intro v_135_28043 c_135_28045 z_135_28044 zc_135_28046 mu_135_28099 H locs hO ls hl
                  refine lv_iload_n hx hb ddX12_begin_135 rfl (lv_at hl 0 rfl) ?_
                  refine lv_aload_n hx hb ddX12_begin_136 rfl (lv_at hl 1 rfl) ?_
                  refine cg_Vi (As := []) (rest := [.int v_135_28043]) (mc := 0) (ms := 0) (rm := { frames := 0, cells := 0, slots := 0, locals := 0 }) hC hl.1 hO [0, 6] (by decide +kernel) (k_X12_birdMany l D cy _ _ (u0_0 := u0_0) (u0_1 := u0_1) (u0_2 := u0_2) (u0_3 := u0_3) (u0_4 := u0_4) (u0_5 := u0_5) (u0_6 := u0_6) (u0_7 := u0_7) (u0_8 := u0_8) (u0_9 := u0_9) (u0_10 := u0_10) (c1 := c6) (u0_12 := u0_12) (u0_13 := .ref (ad 2)) (u0_14 := u0_14) (u0_15 := .ref (ad 7)) (u0_16 := u0_16) (u0_17 := u0_17) (u0_18 := u0_18) (u0_19 := u0_19) (u0_20 := u0_20) (u0_21 := u0_21) (u0_22 := u0_22) (u0_23 := .ref (ad 3)) (u0_24 := .ref (ad 4)) (u0_25 := u0_25) (u0_26 := .ref (ad 5)) (u0_27 := u0_27) (u0_28 := u0_28) (u0_29 := u0_29) (u0_30 := u0_30) (u0_31 := u0_31) (u0_32 := u0_32) (u0_33 := u0_33) (u0_34 := u0_34) (u0_35 := u0_35) (x0_36 := x0_36) (u0_37 := u0_37) (u0_38 := u0_38) (u0_39 := u0_39) (u0_40 := u0_40) (u0_41 := .ref (ad 1)) (u0_42 := u0_42) (u0_43 := u0_43) (u0_44 := u0_44) (u0_45 := u0_45) (u0_46 := u0_46) (u0_47 := u0_47) (u0_48 := u0_48) (u0_49 := u0_49) (u0_50 := u0_50) (u0_51 := u0_51) (u0_52 := u0_52) (u0_53 := u0_53) (u0_54 := u0_54) (u0_55 := u0_55) (u0_56 := u0_56) (u0_57 := u0_57) (u0_58 := u0_58) (u0_59 := .int x0_59) (u0_60 := .int x0_60) (u0_61 := u0_61) (u0_62 := u0_62) (u0_63 := u0_63) (u0_64 := u0_64) (u0_65 := u0_65) (u0_66 := u0_66) (u0_67 := u0_67) (u0_68 := u0_68) (u0_69 := u0_69) (u0_70 := u0_70) (u0_71 := u0_71) (u0_72 := u0_72) (u0_73 := u0_73) rfl a6 b0_36 ha6) gq_k_X12_begin_k_X12_birdMany_363 rfl rfl rfl 0 (by decide +kernel) ⟨Nat.le_of_ble_eq_true rfl, Nat.le_of_ble_eq_true rfl⟩ rfl (by decide) rfl rfl rfl (Nat.le_of_ble_eq_true rfl) ddX12_begin_137 ⟨Nat.le_of_ble_eq_true rfl, Nat.le_of_ble_eq_true rfl⟩ (fun r_137_28103 nw_137_28101 l_137_28102 H locs hw hO => ?_)
                  obtain ⟨z_137_28104, el_137_28105, rfl⟩ := hw
                  have hO : cO D cy A s.heap s 8 ad (cup [(0, .inr (12, [u0_0, u0_1, u0_2, u0_3, u0_4, u0_5, u0_6, u0_7, u0_8, u0_9, u0_10, .ref (ad 6), u0_12, .ref (ad 2), u0_14, .ref (ad 7), u0_16, u0_17, u0_18, u0_19, u0_20, u0_21, u0_22, .ref (ad 3), .ref (ad 4), u0_25, .ref (ad 5), u0_27, u0_28, u0_29, u0_30, u0_31, u0_32, u0_33, u0_34, u0_35, .int x0_36, u0_37, u0_38, u0_39, u0_40, .ref (ad 1), u0_42, u0_43, u0_44, u0_45, u0_46, u0_47, u0_48, u0_49, u0_50, u0_51, u0_52, u0_53, u0_54, u0_55, u0_56, u0_57, u0_58, .int x0_59, .int x0_60, u0_61, u0_62, u0_63, u0_64, u0_65, u0_66, u0_67, u0_68, u0_69, u0_70, u0_71, u0_72, u0_73])), (1, .inl (cy 0, 80, .inl c_135_28045))] g) _ _ := hO
                  refine lv_icmp_ge (tgt := 171) hx hb ddX12_begin_140 (by decide) (fun h_140_28106 => ?_) (fun h_140_28106 => ?_)
                  · have q_140_28129 := zr_le h_140_28106
                    refine lv_aload_n hx hb ddX12_begin_171 rfl (lv_at hl 1 rfl) ?_
                    refine lv_iconst (v := 0) hx hb ddX12_begin_172 (by decide) ?_
                    refine cg_put hC hO 0 (by decide) rfl rfl i_X12 tyX12_ok nmX12 59 (by decide) (List.mem_of_getElem? (i := 14) rfl) rfl rfl rfl (Nat.le_of_ble_eq_true rfl) ddX12_begin_173 (fun H locs hO => ?_)
                    have hO : cO D cy A s.heap s 8 ad (cup [(0, .inr (12, [u0_0, u0_1, u0_2, u0_3, u0_4, u0_5, u0_6, u0_7, u0_8, u0_9, u0_10, .ref (ad 6), u0_12, .ref (ad 2), u0_14, .ref (ad 7), u0_16, u0_17, u0_18, u0_19, u0_20, u0_21, u0_22, .ref (ad 3), .ref (ad 4), u0_25, .ref (ad 5), u0_27, u0_28, u0_29, u0_30, u0_31, u0_32, u0_33, u0_34, u0_35, .int x0_36, u0_37, u0_38, u0_39, u0_40, .ref (ad 1), u0_42, u0_43, u0_44, u0_45, u0_46, u0_47, u0_48, u0_49, u0_50, u0_51, u0_52, u0_53, u0_54, u0_55, u0_56, u0_57, u0_58, .int 0, .int x0_60, u0_61, u0_62, u0_63, u0_64, u0_65, u0_66, u0_67, u0_68, u0_69, u0_70, u0_71, u0_72, u0_73])), (1, .inl (cy 0, 80, .inl c_135_28045))] g) _ _ := hO
                    refine lv_aload_n hx hb ddX12_begin_176 rfl (lv_at hl 1 rfl) ?_
                    refine lv_iconst (v := 0) hx hb ddX12_begin_177 (by decide) ?_
                    refine cg_put hC hO 0 (by decide) rfl rfl i_X12 tyX12_ok nmX12 60 (by decide) (List.mem_of_getElem? (i := 15) rfl) rfl rfl rfl (Nat.le_of_ble_eq_true rfl) ddX12_begin_178 (fun H locs hO => ?_)
                    have hO : cO D cy A s.heap s 8 ad (cup [(0, .inr (12, [u0_0, u0_1, u0_2, u0_3, u0_4, u0_5, u0_6, u0_7, u0_8, u0_9, u0_10, .ref (ad 6), u0_12, .ref (ad 2), u0_14, .ref (ad 7), u0_16, u0_17, u0_18, u0_19, u0_20, u0_21, u0_22, .ref (ad 3), .ref (ad 4), u0_25, .ref (ad 5), u0_27, u0_28, u0_29, u0_30, u0_31, u0_32, u0_33, u0_34, u0_35, .int x0_36, u0_37, u0_38, u0_39, u0_40, .ref (ad 1), u0_42, u0_43, u0_44, u0_45, u0_46, u0_47, u0_48, u0_49, u0_50, u0_51, u0_52, u0_53, u0_54, u0_55, u0_56, u0_57, u0_58, .int 0, .int 0, u0_61, u0_62, u0_63, u0_64, u0_65, u0_66, u0_67, u0_68, u0_69, u0_70, u0_71, u0_72, u0_73])), (1, .inl (cy 0, 80, .inl c_135_28045))] g) _ _ := hO
                    exact cg_vret (nw := fun _ => 0) hC hr hlk hO.same (Nat.le_of_ble_eq_true rfl) (Nat.le_of_ble_eq_true rfl) (⟨c_135_28045, zc_135_28046, (by decide), rfl⟩) ddX12_begin_181
                  · have q_140_28130 := zr_nle h_140_28106
                    have z_140_28131 : zi 0 4 v_135_28043 := zu_lt q_140_28130 z_135_28044 z_137_28104 (by decide)
                    have z_140_28132 : zi 1 5 r_137_28103 := zd_lt q_140_28130 z_135_28044 z_137_28104 (by decide)
                    refine lv_aload_n hx hb ddX12_begin_143 rfl (lv_at hl 1 rfl) ?_
                    refine cg_get hC hO 0 (by decide) rfl rfl i_X12 41 (by decide) (List.mem_of_getElem? (i := 1) rfl) rfl ddX12_begin_144 ?_
                    refine lv_bipush (v := 73) hx hb ddX12_begin_147 (by decide) ?_
                    refine lv_iload_n hx hb ddX12_begin_149 rfl (lv_at hl 0 rfl) ?_
                    refine lv_iadd hx hb ddX12_begin_150 ?_
                    refine zg_top2 (P := fun v => zi 73 77 v) (E := fun v => v.toInt = (73 : Int32).toInt + (v_135_28043 : Int32).toInt) (zi_add (zi_k (a := 73) (b := 73) (x := 73) rfl) z_140_28131 (by decide)) (fun v_150_28133 z_150_28134 q_150_28135 => ?_)
                    refine lv_aload_n hx hb ddX12_begin_151 rfl (lv_at hl 1 rfl) ?_
                    refine cg_get hC hO 0 (by decide) rfl rfl i_X12 15 (by decide) (List.mem_of_getElem? (i := 13) rfl) rfl ddX12_begin_152 ?_
                    refine lv_iconst (v := 5) hx hb ddX12_begin_155 (by decide) ?_
                    refine lv_aload_n hx hb ddX12_begin_156 rfl (lv_at hl 1 rfl) ?_
                    refine cg_get hC hO 0 (by decide) rfl rfl i_X12 36 (by decide) (List.mem_of_getElem? (i := 3) rfl) rfl ddX12_begin_157 ?_
                    refine lv_imul hx hb ddX12_begin_160 ?_
                    refine zg_top2 (P := fun v => zi 0 5 v) (E := fun v => v.toInt = 5 * (x0_36 : Int32).toInt) (zi_mulk (zi_k (a := 5) (b := 5) (x := 5) rfl) b0_36 (n := 5) (by decide) (by decide)) (fun v_160_28136 z_160_28137 q_160_28138 => ?_)
                    refine lv_iload_n hx hb ddX12_begin_161 rfl (lv_at hl 0 rfl) ?_
                    refine lv_iadd hx hb ddX12_begin_162 ?_
                    refine zg_top2 (P := fun v => zi 0 9 v) (E := fun v => v.toInt = (v_160_28136 : Int32).toInt + (v_135_28043 : Int32).toInt) (zi_add z_160_28137 z_140_28131 (by decide)) (fun v_162_28139 z_162_28140 q_162_28141 => ?_)
                    refine zg_iald hC hO 7 (by decide) a7 (za_all _) (zi_in z_162_28140 (by decide)) ddX12_begin_163 (fun v_163_28142 z_163_28143 => ?_)
                    refine zg_iastS hC hO 1 (by decide) rfl zc_135_28046 (fun hm => by have := z_150_28134; omega) (zi_in z_150_28134 (by decide)) ddX12_begin_164 (fun H locs c_164_28144 zc_164_28145 el_164_28146 hO => ?_)
                    have hO : cO D cy A s.heap s 8 ad (cup [(0, .inr (12, [u0_0, u0_1, u0_2, u0_3, u0_4, u0_5, u0_6, u0_7, u0_8, u0_9, u0_10, .ref (ad 6), u0_12, .ref (ad 2), u0_14, .ref (ad 7), u0_16, u0_17, u0_18, u0_19, u0_20, u0_21, u0_22, .ref (ad 3), .ref (ad 4), u0_25, .ref (ad 5), u0_27, u0_28, u0_29, u0_30, u0_31, u0_32, u0_33, u0_34, u0_35, .int x0_36, u0_37, u0_38, u0_39, u0_40, .ref (ad 1), u0_42, u0_43, u0_44, u0_45, u0_46, u0_47, u0_48, u0_49, u0_50, u0_51, u0_52, u0_53, u0_54, u0_55, u0_56, u0_57, u0_58, .int x0_59, .int x0_60, u0_61, u0_62, u0_63, u0_64, u0_65, u0_66, u0_67, u0_68, u0_69, u0_70, u0_71, u0_72, u0_73])), (1, .inl (cy 0, 80, .inl c_164_28144))] g) _ _ := hO
                    obtain ⟨v_165_28147, e_165_28148, z_165_28149, q_165_28150⟩ := zi_inc (e := 1) (f := 5) 1 z_140_28131 (by decide)
                    refine lv_iinc (v := v_165_28147) (lv' := [(1, .int v_165_28147), (0, .ref (ad 0))]) hx hb ddX12_begin_165 hl (k := 0) rfl e_165_28148 (by decide) rfl (fun ls hl => ?_)
                    refine lv_goto (tgt := 135) hx hb ddX12_begin_168 (by decide) ?_
                    exact ih_135_28100 v_165_28147 c_164_28144 (zi_w (c := 0) (d := 5) z_165_28149 (by decide)) zc_164_28145 (zm_up q_165_28150 ((zi_w (c := 0) (d := 5) z_165_28149 (by decide))).2 (by decide) mu_135_28099) _ _ hO ls (lv_sub hl [0, 1] rfl)
              exact loop_135_28097 ((5 + 1 - (0 : Int32).toInt).toNat + 1) 0 c_38_27289 (zi_k (a := 0) (b := 5) (x := 0) rfl) zc_38_27290 (Nat.lt_succ_self _) _ _ hO ls (lv_sub hl [0, 1] rfl)
            · have q_48_28151 := zr_nle h_48_27728
              have z_48_28152 : zi 0 11 v_38_27287 := zu_lt q_48_28151 z_38_27288 z_47_27727 (by decide)
              have z_48_28153 : zi 1 12 v_47_27726 := zd_lt q_48_28151 z_38_27288 z_47_27727 (by decide)
              refine lv_aload_n hx hb ddX12_begin_51 rfl (lv_at hl 1 rfl) ?_
              refine cg_get hC hO 0 (by decide) rfl rfl i_X12 41 (by decide) (List.mem_of_getElem? (i := 1) rfl) rfl ddX12_begin_52 ?_
              refine lv_iconst (v := 1) hx hb ddX12_begin_55 (by decide) ?_
              refine lv_iload_n hx hb ddX12_begin_56 rfl (lv_at hl 0 rfl) ?_
              refine lv_iadd hx hb ddX12_begin_57 ?_
              refine zg_top2 (P := fun v => zi 1 12 v) (E := fun v => v.toInt = (1 : Int32).toInt + (v_38_27287 : Int32).toInt) (zi_add (zi_k (a := 1) (b := 1) (x := 1) rfl) z_48_28152 (by decide)) (fun v_57_28154 z_57_28155 q_57_28156 => ?_)
              refine lv_aload_n hx hb ddX12_begin_58 rfl (lv_at hl 1 rfl) ?_
              refine cg_get hC hO 0 (by decide) rfl rfl i_X12 23 (by decide) (List.mem_of_getElem? (i := 4) rfl) rfl ddX12_begin_59 ?_
              refine lv_bipush (v := 12) hx hb ddX12_begin_62 (by decide) ?_
              refine lv_aload_n hx hb ddX12_begin_64 rfl (lv_at hl 1 rfl) ?_
              refine cg_get hC hO 0 (by decide) rfl rfl i_X12 36 (by decide) (List.mem_of_getElem? (i := 3) rfl) rfl ddX12_begin_65 ?_
              refine lv_imul hx hb ddX12_begin_68 ?_
              refine zg_top2 (P := fun v => zi 0 12 v) (E := fun v => v.toInt = 12 * (x0_36 : Int32).toInt) (zi_mulk (zi_k (a := 12) (b := 12) (x := 12) rfl) b0_36 (n := 12) (by decide) (by decide)) (fun v_68_28157 z_68_28158 q_68_28159 => ?_)
              refine lv_iload_n hx hb ddX12_begin_69 rfl (lv_at hl 0 rfl) ?_
              refine lv_iadd hx hb ddX12_begin_70 ?_
              refine zg_top2 (P := fun v => zi 0 23 v) (E := fun v => v.toInt = (v_68_28157 : Int32).toInt + (v_38_27287 : Int32).toInt) (zi_add z_68_28158 z_48_28152 (by decide)) (fun v_70_28160 z_70_28161 q_70_28162 => ?_)
              refine zg_iald hC hO 3 (by decide) a3 (za_all _) (zi_in z_70_28161 (by decide)) ddX12_begin_71 (fun v_71_28163 z_71_28164 => ?_)
              refine zg_iastS hC hO 1 (by decide) rfl zc_38_27290 (fun hm => by have := z_57_28155; omega) (zi_in z_57_28155 (by decide)) ddX12_begin_72 (fun H locs c_72_28165 zc_72_28166 el_72_28167 hO => ?_)
              have hO : cO D cy A s.heap s 8 ad (cup [(0, .inr (12, [u0_0, u0_1, u0_2, u0_3, u0_4, u0_5, u0_6, u0_7, u0_8, u0_9, u0_10, .ref (ad 6), u0_12, .ref (ad 2), u0_14, .ref (ad 7), u0_16, u0_17, u0_18, u0_19, u0_20, u0_21, u0_22, .ref (ad 3), .ref (ad 4), u0_25, .ref (ad 5), u0_27, u0_28, u0_29, u0_30, u0_31, u0_32, u0_33, u0_34, u0_35, .int x0_36, u0_37, u0_38, u0_39, u0_40, .ref (ad 1), u0_42, u0_43, u0_44, u0_45, u0_46, u0_47, u0_48, u0_49, u0_50, u0_51, u0_52, u0_53, u0_54, u0_55, u0_56, u0_57, u0_58, .int x0_59, .int x0_60, u0_61, u0_62, u0_63, u0_64, u0_65, u0_66, u0_67, u0_68, u0_69, u0_70, u0_71, u0_72, u0_73])), (1, .inl (cy 0, 80, .inl c_72_28165))] g) _ _ := hO
              refine lv_aload_n hx hb ddX12_begin_73 rfl (lv_at hl 1 rfl) ?_
              refine cg_get hC hO 0 (by decide) rfl rfl i_X12 41 (by decide) (List.mem_of_getElem? (i := 1) rfl) rfl ddX12_begin_74 ?_
              refine lv_bipush (v := 25) hx hb ddX12_begin_77 (by decide) ?_
              refine lv_iload_n hx hb ddX12_begin_79 rfl (lv_at hl 0 rfl) ?_
              refine lv_iadd hx hb ddX12_begin_80 ?_
              refine zg_top2 (P := fun v => zi 25 36 v) (E := fun v => v.toInt = (25 : Int32).toInt + (v_38_27287 : Int32).toInt) (zi_add (zi_k (a := 25) (b := 25) (x := 25) rfl) z_48_28152 (by decide)) (fun v_80_28168 z_80_28169 q_80_28170 => ?_)
              refine lv_aload_n hx hb ddX12_begin_81 rfl (lv_at hl 1 rfl) ?_
              refine cg_get hC hO 0 (by decide) rfl rfl i_X12 24 (by decide) (List.mem_of_getElem? (i := 5) rfl) rfl ddX12_begin_82 ?_
              refine lv_bipush (v := 12) hx hb ddX12_begin_85 (by decide) ?_
              refine lv_aload_n hx hb ddX12_begin_87 rfl (lv_at hl 1 rfl) ?_
              refine cg_get hC hO 0 (by decide) rfl rfl i_X12 36 (by decide) (List.mem_of_getElem? (i := 3) rfl) rfl ddX12_begin_88 ?_
              refine lv_imul hx hb ddX12_begin_91 ?_
              refine zg_top2 (P := fun v => zi 0 12 v) (E := fun v => v.toInt = 12 * (x0_36 : Int32).toInt) (zi_mulk (zi_k (a := 12) (b := 12) (x := 12) rfl) b0_36 (n := 12) (by decide) (by decide)) (fun v_91_28171 z_91_28172 q_91_28173 => ?_)
              refine lv_iload_n hx hb ddX12_begin_92 rfl (lv_at hl 0 rfl) ?_
              refine lv_iadd hx hb ddX12_begin_93 ?_
              refine zg_top2 (P := fun v => zi 0 23 v) (E := fun v => v.toInt = (v_91_28171 : Int32).toInt + (v_38_27287 : Int32).toInt) (zi_add z_91_28172 z_48_28152 (by decide)) (fun v_93_28174 z_93_28175 q_93_28176 => ?_)
              refine zg_iald hC hO 4 (by decide) a4 (za_all _) (zi_in z_93_28175 (by decide)) ddX12_begin_94 (fun v_94_28177 z_94_28178 => ?_)
              refine zg_iastS hC hO 1 (by decide) rfl zc_72_28166 (fun hm => by have := z_80_28169; omega) (zi_in z_80_28169 (by decide)) ddX12_begin_95 (fun H locs c_95_28179 zc_95_28180 el_95_28181 hO => ?_)
              have hO : cO D cy A s.heap s 8 ad (cup [(0, .inr (12, [u0_0, u0_1, u0_2, u0_3, u0_4, u0_5, u0_6, u0_7, u0_8, u0_9, u0_10, .ref (ad 6), u0_12, .ref (ad 2), u0_14, .ref (ad 7), u0_16, u0_17, u0_18, u0_19, u0_20, u0_21, u0_22, .ref (ad 3), .ref (ad 4), u0_25, .ref (ad 5), u0_27, u0_28, u0_29, u0_30, u0_31, u0_32, u0_33, u0_34, u0_35, .int x0_36, u0_37, u0_38, u0_39, u0_40, .ref (ad 1), u0_42, u0_43, u0_44, u0_45, u0_46, u0_47, u0_48, u0_49, u0_50, u0_51, u0_52, u0_53, u0_54, u0_55, u0_56, u0_57, u0_58, .int x0_59, .int x0_60, u0_61, u0_62, u0_63, u0_64, u0_65, u0_66, u0_67, u0_68, u0_69, u0_70, u0_71, u0_72, u0_73])), (1, .inl (cy 0, 80, .inl c_95_28179))] g) _ _ := hO
              refine lv_aload_n hx hb ddX12_begin_96 rfl (lv_at hl 1 rfl) ?_
              refine cg_get hC hO 0 (by decide) rfl rfl i_X12 41 (by decide) (List.mem_of_getElem? (i := 1) rfl) rfl ddX12_begin_97 ?_
              refine lv_bipush (v := 49) hx hb ddX12_begin_100 (by decide) ?_
              refine lv_iload_n hx hb ddX12_begin_102 rfl (lv_at hl 0 rfl) ?_
              refine lv_iadd hx hb ddX12_begin_103 ?_
              refine zg_top2 (P := fun v => zi 49 60 v) (E := fun v => v.toInt = (49 : Int32).toInt + (v_38_27287 : Int32).toInt) (zi_add (zi_k (a := 49) (b := 49) (x := 49) rfl) z_48_28152 (by decide)) (fun v_103_28182 z_103_28183 q_103_28184 => ?_)
              refine lv_aload_n hx hb ddX12_begin_104 rfl (lv_at hl 1 rfl) ?_
              refine cg_get hC hO 0 (by decide) rfl rfl i_X12 26 (by decide) (List.mem_of_getElem? (i := 6) rfl) rfl ddX12_begin_105 ?_
              refine lv_bipush (v := 12) hx hb ddX12_begin_108 (by decide) ?_
              refine lv_aload_n hx hb ddX12_begin_110 rfl (lv_at hl 1 rfl) ?_
              refine cg_get hC hO 0 (by decide) rfl rfl i_X12 36 (by decide) (List.mem_of_getElem? (i := 3) rfl) rfl ddX12_begin_111 ?_
              refine lv_imul hx hb ddX12_begin_114 ?_
              refine zg_top2 (P := fun v => zi 0 12 v) (E := fun v => v.toInt = 12 * (x0_36 : Int32).toInt) (zi_mulk (zi_k (a := 12) (b := 12) (x := 12) rfl) b0_36 (n := 12) (by decide) (by decide)) (fun v_114_28185 z_114_28186 q_114_28187 => ?_)
              refine lv_iload_n hx hb ddX12_begin_115 rfl (lv_at hl 0 rfl) ?_
              refine lv_iadd hx hb ddX12_begin_116 ?_
              refine zg_top2 (P := fun v => zi 0 23 v) (E := fun v => v.toInt = (v_114_28185 : Int32).toInt + (v_38_27287 : Int32).toInt) (zi_add z_114_28186 z_48_28152 (by decide)) (fun v_116_28188 z_116_28189 q_116_28190 => ?_)
              refine zg_zald hC hO 5 (by decide) a5 ha5 (zi_in z_116_28189 (by decide)) ddX12_begin_117 (fun v_117_28191 z_117_28192 => ?_)
              have J_126_28200 : ∀ (v_126_28198 : Int32), zi 0 1 v_126_28198 → ∀ (H : Heap) (locs : List Loc), cO D cy A s.heap s 8 ad (cup [(0, .inr (12, [u0_0, u0_1, u0_2, u0_3, u0_4, u0_5, u0_6, u0_7, u0_8, u0_9, u0_10, .ref (ad 6), u0_12, .ref (ad 2), u0_14, .ref (ad 7), u0_16, u0_17, u0_18, u0_19, u0_20, u0_21, u0_22, .ref (ad 3), .ref (ad 4), u0_25, .ref (ad 5), u0_27, u0_28, u0_29, u0_30, u0_31, u0_32, u0_33, u0_34, u0_35, .int x0_36, u0_37, u0_38, u0_39, u0_40, .ref (ad 1), u0_42, u0_43, u0_44, u0_45, u0_46, u0_47, u0_48, u0_49, u0_50, u0_51, u0_52, u0_53, u0_54, u0_55, u0_56, u0_57, u0_58, .int x0_59, .int x0_60, u0_61, u0_62, u0_63, u0_64, u0_65, u0_66, u0_67, u0_68, u0_69, u0_70, u0_71, u0_72, u0_73])), (1, .inl (cy 0, 80, .inl c_95_28179))] g) H locs → ∀ ls : Array Slot, lv_has ls 2 [(1, .int v_38_27287), (0, .ref (ad 0))] → W p l e { frames := 1, cells := 0, slots := 0, locals := 20 } s m [.ref (ad 0)].toArray below meth c H locs 0 0 (MQ below (cQv (fun nw lu => ∃ (d1 : Nat → Int32), (zs d1) ∧ (((0 : Int32).toInt + (0 : Int32).toInt ≤ 40)) ∧ (lu = [(0, .inr (12, [u0_0, u0_1, u0_2, u0_3, u0_4, u0_5, u0_6, u0_7, u0_8, u0_9, u0_10, .ref (ad 6), u0_12, .ref (ad 2), u0_14, .ref (ad 7), u0_16, u0_17, u0_18, u0_19, u0_20, u0_21, u0_22, .ref (ad 3), .ref (ad 4), u0_25, .ref (ad 5), u0_27, u0_28, u0_29, u0_30, u0_31, u0_32, u0_33, u0_34, u0_35, .int x0_36, u0_37, u0_38, u0_39, u0_40, .ref (ad 1), u0_42, u0_43, u0_44, u0_45, u0_46, u0_47, u0_48, u0_49, u0_50, u0_51, u0_52, u0_53, u0_54, u0_55, u0_56, u0_57, u0_58, .int 0, .int 0, u0_61, u0_62, u0_63, u0_64, u0_65, u0_66, u0_67, u0_68, u0_69, u0_70, u0_71, u0_72, u0_73])), (1, .inl (cy 0, 80, .inl d1))])) D 8 0 ad g A) [.ref (ad 0)].toArray s 0 0 A) (F0 m 126 ls [.int v_126_28198, .int v_103_28182, .ref (ad 1)]) := by
                intro v_126_28198 z_126_28199 H locs hO ls hl
                refine zg_iastS hC hO 1 (by decide) rfl zc_95_28180 (fun _ => (zi_w (c := 0) (d := 24) z_126_28199 (by decide))) (zi_in z_103_28183 (by decide)) ddX12_begin_126 (fun H locs c_126_28201 zc_126_28202 el_126_28203 hO => ?_)
                have hO : cO D cy A s.heap s 8 ad (cup [(0, .inr (12, [u0_0, u0_1, u0_2, u0_3, u0_4, u0_5, u0_6, u0_7, u0_8, u0_9, u0_10, .ref (ad 6), u0_12, .ref (ad 2), u0_14, .ref (ad 7), u0_16, u0_17, u0_18, u0_19, u0_20, u0_21, u0_22, .ref (ad 3), .ref (ad 4), u0_25, .ref (ad 5), u0_27, u0_28, u0_29, u0_30, u0_31, u0_32, u0_33, u0_34, u0_35, .int x0_36, u0_37, u0_38, u0_39, u0_40, .ref (ad 1), u0_42, u0_43, u0_44, u0_45, u0_46, u0_47, u0_48, u0_49, u0_50, u0_51, u0_52, u0_53, u0_54, u0_55, u0_56, u0_57, u0_58, .int x0_59, .int x0_60, u0_61, u0_62, u0_63, u0_64, u0_65, u0_66, u0_67, u0_68, u0_69, u0_70, u0_71, u0_72, u0_73])), (1, .inl (cy 0, 80, .inl c_126_28201))] g) _ _ := hO
                obtain ⟨v_127_28204, e_127_28205, z_127_28206, q_127_28207⟩ := zi_inc (e := 1) (f := 12) 1 z_48_28152 (by decide)
                refine lv_iinc (v := v_127_28204) (lv' := [(1, .int v_127_28204), (0, .ref (ad 0))]) hx hb ddX12_begin_127 hl (k := 0) rfl e_127_28205 (by decide) rfl (fun ls hl => ?_)
                refine lv_goto (tgt := 38) hx hb ddX12_begin_130 (by decide) ?_
                exact ih_38_27725 v_127_28204 c_126_28201 (zi_w (c := 0) (d := 12) z_127_28206 (by decide)) zc_126_28202 (zm_up q_127_28207 ((zi_w (c := 0) (d := 12) z_127_28206 (by decide))).2 (by decide) mu_38_27724) _ _ hO ls (lv_sub hl [0, 1] rfl)
              refine lv_if_eq (tgt := 125) hx hb ddX12_begin_118 (by decide) (fun h_118_28193 => ?_) (fun h_118_28193 => ?_)
              · have q_118_28208 := zr_eq h_118_28193
                have z_118_28209 : zi 0 0 v_117_28191 := ze_eq q_118_28208 z_117_28192 (zi_k (a := 0) (b := 0) (x := 0) rfl)
                refine lv_iconst (v := 1) hx hb ddX12_begin_125 (by decide) ?_
                exact J_126_28200 1 (zi_k (a := 0) (b := 1) (x := 1) rfl) _ _ hO ls (lv_sub hl [0, 1] rfl)
              · have q_118_28210 := zr_ne h_118_28193
                have z_118_28211 : zi 1 1 v_117_28191 := zn_lo q_118_28210 z_117_28192 (zi_k (a := 0) (b := 0) (x := 0) rfl) (by decide)
                refine lv_iconst (v := 0) hx hb ddX12_begin_121 (by decide) ?_
                refine lv_goto (tgt := 126) hx hb ddX12_begin_122 (by decide) ?_
                exact J_126_28200 0 (zi_k (a := 0) (b := 1) (x := 0) rfl) _ _ hO ls (lv_sub hl [0, 1] rfl)
        exact loop_38_27722 ((12 + 1 - (0 : Int32).toInt).toNat + 1) 0 c_35_23834 (zi_k (a := 0) (b := 12) (x := 0) rfl) zc_35_23835 (Nat.lt_succ_self _) _ _ hO ls (lv_sub hl [0, 1] rfl)
      · have q_5_28212 := zr_nle h_5_23818
        have z_5_28213 : zi 0 79 v_2_19897 := zu_lt q_5_28212 z_2_19898 (zi_k (a := 80) (b := 80) (x := 80) rfl) (by decide)
        refine lv_aload_n hx hb ddX12_begin_8 rfl (lv_at hl 1 rfl) ?_
        refine cg_get hC hO 0 (by decide) rfl rfl i_X12 41 (by decide) (List.mem_of_getElem? (i := 1) rfl) rfl ddX12_begin_9 ?_
        refine lv_iload_n hx hb ddX12_begin_12 rfl (lv_at hl 0 rfl) ?_
        refine lv_iconst (v := 0) hx hb ddX12_begin_13 (by decide) ?_
        refine zg_iastS hC hO 1 (by decide) rfl zc_2_19900 (fun _ => (zi_k (a := 0) (b := 24) (x := 0) rfl)) (zi_in z_5_28213 (by decide)) ddX12_begin_14 (fun H locs c_14_28214 zc_14_28215 el_14_28216 hO => ?_)
        have hO : cO D cy A s.heap s 8 ad (cup [(0, .inr (12, [u0_0, u0_1, u0_2, u0_3, u0_4, u0_5, u0_6, u0_7, u0_8, u0_9, u0_10, .ref (ad 6), u0_12, .ref (ad 2), u0_14, .ref (ad 7), u0_16, u0_17, u0_18, u0_19, u0_20, u0_21, u0_22, .ref (ad 3), .ref (ad 4), u0_25, .ref (ad 5), u0_27, u0_28, u0_29, u0_30, u0_31, u0_32, u0_33, u0_34, u0_35, .int x0_36, u0_37, u0_38, u0_39, u0_40, .ref (ad 1), u0_42, u0_43, u0_44, u0_45, u0_46, u0_47, u0_48, u0_49, u0_50, u0_51, u0_52, u0_53, u0_54, u0_55, u0_56, u0_57, u0_58, .int x0_59, .int x0_60, u0_61, u0_62, u0_63, u0_64, u0_65, u0_66, u0_67, u0_68, u0_69, u0_70, u0_71, u0_72, u0_73])), (1, .inl (cy 0, 80, .inl c_14_28214))] g) _ _ := hO
        obtain ⟨v_15_28217, e_15_28218, z_15_28219, q_15_28220⟩ := zi_inc (e := 1) (f := 80) 1 z_5_28213 (by decide)
        refine lv_iinc (v := v_15_28217) (lv' := [(1, .int v_15_28217), (0, .ref (ad 0))]) hx hb ddX12_begin_15 hl (k := 0) rfl e_15_28218 (by decide) rfl (fun ls hl => ?_)
        refine lv_goto (tgt := 2) hx hb ddX12_begin_18 (by decide) ?_
        exact ih_2_23817 v_15_28217 c_14_28214 (zi_w (c := 0) (d := 80) z_15_28219 (by decide)) zc_14_28215 (zm_up q_15_28220 ((zi_w (c := 0) (d := 80) z_15_28219 (by decide))).2 (by decide) mu_2_23816) _ _ hO ls (lv_sub hl [0, 1] rfl)
  exact loop_2_23814 ((80 + 1 - (0 : Int32).toInt).toNat + 1) 0 c1 (zi_k (a := 0) (b := 80) (x := 0) rfl) ha1 (Nat.lt_succ_self _) _ _ hO ls (lv_sub hl [0, 1] rfl)

