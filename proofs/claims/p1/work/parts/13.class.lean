theorem dX11_later_0 : decode cX11_later 0 = .ok (.iload_n 1, 1) := by decide +kernel
theorem dX11_later_1 : decode cX11_later 1 = .ok (.iconst 0, 1) := by decide +kernel
theorem dX11_later_2 : decode cX11_later 2 = .ok (.sipush 1000, 3) := by decide +kernel
theorem dX11_later_5 : decode cX11_later 5 = .ok (.invokestatic 107, 3) := by decide +kernel
theorem dX11_later_8 : decode cX11_later 8 = .ok (.ifCond .eq 18, 3) := by decide +kernel
theorem dX11_later_11 : decode cX11_later 11 = .ok (.aload_n 0, 1) := by decide +kernel
theorem dX11_later_12 : decode cX11_later 12 = .ok (.getfield 93, 3) := by decide +kernel
theorem dX11_later_15 : decode cX11_later 15 = .ok (.getfield 266, 3) := by decide +kernel
theorem dX11_later_18 : decode cX11_later 18 = .ok (.iload_n 1, 1) := by decide +kernel
theorem dX11_later_19 : decode cX11_later 19 = .ok (.iadd, 1) := by decide +kernel
theorem dX11_later_20 : decode cX11_later 20 = .ok (.ldc_w 269, 3) := by decide +kernel
theorem dX11_later_23 : decode cX11_later 23 = .ok (.if_icmp .le 5, 3) := by decide +kernel
theorem dX11_later_26 : decode cX11_later 26 = .ok (.iconst (-1), 1) := by decide +kernel
theorem dX11_later_27 : decode cX11_later 27 = .ok (.ireturn, 1) := by decide +kernel
theorem dX11_later_28 : decode cX11_later 28 = .ok (.aload_n 0, 1) := by decide +kernel
theorem dX11_later_29 : decode cX11_later 29 = .ok (.getfield 93, 3) := by decide +kernel
theorem dX11_later_32 : decode cX11_later 32 = .ok (.dup, 1) := by decide +kernel
theorem dX11_later_33 : decode cX11_later 33 = .ok (.getfield 266, 3) := by decide +kernel
theorem dX11_later_36 : decode cX11_later 36 = .ok (.iload_n 1, 1) := by decide +kernel
theorem dX11_later_37 : decode cX11_later 37 = .ok (.iadd, 1) := by decide +kernel
theorem dX11_later_38 : decode cX11_later 38 = .ok (.putfield 266, 3) := by decide +kernel
theorem dX11_later_41 : decode cX11_later 41 = .ok (.aload_n 0, 1) := by decide +kernel
theorem dX11_later_42 : decode cX11_later 42 = .ok (.getfield 93, 3) := by decide +kernel
theorem dX11_later_45 : decode cX11_later 45 = .ok (.getfield 266, 3) := by decide +kernel
theorem dX11_later_48 : decode cX11_later 48 = .ok (.ireturn, 1) := by decide +kernel
def wq_c_X11_later : List Cond := Cond.code yX11_later cX11_later 2 (some .int) :: (([Cond.methodLink RX11 107 yX11_within, Cond.static yX11_within, Cond.initialized RX11, Cond.code yX11_within cX11_within 3 (some .boolean), Cond.fieldLink RX11 93 "CrowToll" "sights" "LCrowToll$Sights;", Cond.fieldLink RX11 266 "CrowToll$Sights" "time" "I", Cond.constant RX11 269 (100000)] : List Cond) ++ wsX80 ++ wsX110)
set_option maxRecDepth 20000 in
theorem gr_c_X11_later_c_X11_within : GoodIn wq_c_X11_later wq_c_X11_within := List.forall_mem_cons.mpr ⟨⟨(List.mem_of_getElem? (i := 4) rfl), good_of_word rfl⟩, (fun _ h => absurd h List.not_mem_nil)⟩
set_option maxRecDepth 20000 in
theorem gq_c_X11_later_c_X11_within_107 : GoodIn wq_c_X11_later (va_wsS RX11 107 yX11_within wq_c_X11_within) := goodIn_app (List.forall_mem_cons.mpr ⟨⟨(List.mem_of_getElem? (i := 1) rfl), good_of_word rfl⟩, List.forall_mem_cons.mpr ⟨⟨(List.mem_of_getElem? (i := 2) rfl), good_of_word rfl⟩, List.forall_mem_cons.mpr ⟨⟨(List.mem_of_getElem? (i := 3) rfl), good_of_word rfl⟩, (fun _ h => absurd h List.not_mem_nil)⟩⟩⟩) gr_c_X11_later_c_X11_within
set_option maxHeartbeats 8000000 in
set_option maxRecDepth 100000 in
theorem c_X11_later (l : Launch) (D : va_G) (cy : Nat → ClassId) (ad : Nat → Nat) (g : Nat → va_E) {f0 : List Value} {f1 : List Value} {n : Int32} (o0 : g 0 = .inr (11, f0)) (f0_11 : f0[11]? = some (.ref (ad 1))) (o1 : g 1 = .inr (8, f1)) (f1_8 : f1[8]? = some (.int 0)) : cMi l yX11_later wq_c_X11_later { frames := 1, cells := 0, slots := 0, locals := 22 } 2 0 0 0 D cy ad g [.ref (ad 0), .int n] (fun r nw lu => r = ans_later n) := by
  refine cM_of (Qc := fun A => cQi (fun r nw lu => r = ans_later n) D 2 0 ad g A) (cc := cX11_later) (maxL := 2) (ret := (some .int)) (by decide) rfl (Nat.le_of_ble_eq_true rfl) ?_
  intro p e s m below meth c A hC hr hlk hnm hO ls hl
  have hC : CallFix p m c cX11_later 2 s [.ref (ad 0), .int n].toArray wq_c_X11_later RX11 := hC
  obtain ⟨hx, hb, hml, hown, hts⟩ := id hC
  have hl : lv_has ls 2 [(0, .ref (ad 0)), (1, .int n)] := hl
  have i_X11 : ∀ w ∈ wsX110, w ∈ wq_c_X11_later := fun w h => List.mem_cons_of_mem _ (List.mem_append_right _ h)
  have i_X8 : ∀ w ∈ wsX80, w ∈ wq_c_X11_later := fun w h => List.mem_cons_of_mem _ (List.mem_append_left _ (List.mem_append_right _ h))
  refine lv_iload_n hx hb dX11_later_0 rfl (lv_at hl 1 rfl) ?_
  refine lv_iconst (v := 0) hx hb dX11_later_1 (by decide) ?_
  refine lv_sipush (v := 1000) hx hb dX11_later_2 (by decide) ?_
  refine cg_Si (As := [.int n, .int 0, .int 1000]) (rest := []) (mc := 0) (ms := 0) (rm := { frames := 0, cells := 0, slots := 0, locals := 0 }) hC hl.1 hO [] rfl (c_X11_within l D cy _ _ (x := n) (y := 0) (z := 1000) ) gq_c_X11_later_c_X11_within_107 rfl rfl rfl 3 (by decide +kernel) ⟨Nat.le_of_ble_eq_true rfl, Nat.le_of_ble_eq_true rfl⟩ rfl rfl (Nat.le_of_ble_eq_true rfl) dX11_later_5 ⟨Nat.le_of_ble_eq_true rfl, Nat.le_of_ble_eq_true rfl⟩ (fun r_5_3 nw_5_1 l_5_2 H locs hw hO => ?_)
  rcases hw with hw | hw
  · obtain ⟨hr_5_4, rfl, rfl⟩ := hw
    have hO : cO D cy A s.heap s 2 ad (cup [] g) _ _ := hO
    refine lv_if_eq (tgt := 26) hx hb dX11_later_8 (by decide) (fun h => absurd h (by decide)) (fun _ => ?_)
    refine lv_aload_n hx hb dX11_later_11 rfl (lv_at hl 0 rfl) ?_
    refine cg_get hC hO 0 (by decide) o0 rfl i_X11 11 (by decide) (List.mem_of_getElem? (i := 5) rfl) f0_11 dX11_later_12 ?_
    refine cg_get hC hO 1 (by decide) o1 rfl i_X8 8 (by decide) (List.mem_of_getElem? (i := 6) rfl) f1_8 dX11_later_15 ?_
    refine lv_iload_n hx hb dX11_later_18 rfl (lv_at hl 1 rfl) ?_
    refine lv_iadd hx hb dX11_later_19 ?_
    refine lv_ldcw (v := 100000) hx hb hown (hts _ (List.mem_of_getElem? (i := 7) rfl)) dX11_later_20 ?_
    refine lv_icmp_le (tgt := 28) hx hb dX11_later_23 (by decide) (fun _ => ?_) (fun h => (show False from h (by rw [Int32.zero_add]; exact Int32.le_trans hr_5_4.2 (by decide))).elim)
    refine lv_aload_n hx hb dX11_later_28 rfl (lv_at hl 0 rfl) ?_
    refine cg_get hC hO 0 (by decide) o0 rfl i_X11 11 (by decide) (List.mem_of_getElem? (i := 5) rfl) f0_11 dX11_later_29 ?_
    refine lv_dup hx hb dX11_later_32 rfl ?_
    refine cg_get hC hO 1 (by decide) o1 rfl i_X8 8 (by decide) (List.mem_of_getElem? (i := 6) rfl) f1_8 dX11_later_33 ?_
    refine lv_iload_n hx hb dX11_later_36 rfl (lv_at hl 1 rfl) ?_
    refine lv_iadd hx hb dX11_later_37 ?_
    refine cg_put hC hO 1 (by decide) o1 rfl i_X8 tyX8_ok nmX8 8 (by decide) (List.mem_of_getElem? (i := 6) rfl) rfl rfl rfl (fs_lt f1_8) dX11_later_38 (fun H locs hO => ?_)
    have hO : cO D cy A s.heap s 2 ad (cup [(1, .inr (8, (f1.set 8 (.int (0 + n)))))] g) _ _ := hO
    refine lv_aload_n hx hb dX11_later_41 rfl (lv_at hl 0 rfl) ?_
    refine cg_get hC hO 0 (by decide) o0 rfl i_X11 11 (by decide) (List.mem_of_getElem? (i := 5) rfl) f0_11 dX11_later_42 ?_
    refine cg_get hC hO 1 (by decide) rfl rfl i_X8 8 (by decide) (List.mem_of_getElem? (i := 6) rfl) (fs_eq f1_8) dX11_later_45 ?_
    exact cg_iret (nw := fun _ => 0) hC hr hlk hO.same rfl (Nat.le_of_ble_eq_true rfl) (Nat.le_of_ble_eq_true rfl) (by rw [Int32.zero_add]; exact (if_pos hr_5_4).symm) dX11_later_48
  · obtain ⟨hr_5_5, rfl, rfl⟩ := hw
    have hO : cO D cy A s.heap s 2 ad (cup [] g) _ _ := hO
    refine lv_if_eq (tgt := 26) hx hb dX11_later_8 (by decide) (fun _ => ?_) (fun h => absurd h (by decide))
    refine lv_iconst (v := (-1)) hx hb dX11_later_26 (by decide) ?_
    exact cg_iret (nw := fun _ => 0) hC hr hlk hO.same rfl (Nat.le_of_ble_eq_true rfl) (Nat.le_of_ble_eq_true rfl) ((if_neg hr_5_5).symm) dX11_later_27

theorem dX11_about_0 : decode cX11_about 0 = .ok (.iload_n 1, 1) := by decide +kernel
theorem dX11_about_1 : decode cX11_about 1 = .ok (.tableswitch 140 0 9 #[55, 63, 71, 79, 87, 103, 111, 119, 124, 135], 55) := by decide +kernel
theorem dX11_about_56 : decode cX11_about 56 = .ok (.aload_n 0, 1) := by decide +kernel
theorem dX11_about_57 : decode cX11_about 57 = .ok (.getfield 27, 3) := by decide +kernel
theorem dX11_about_60 : decode cX11_about 60 = .ok (.getfield 247, 3) := by decide +kernel
theorem dX11_about_63 : decode cX11_about 63 = .ok (.ireturn, 1) := by decide +kernel
theorem dX11_about_64 : decode cX11_about 64 = .ok (.aload_n 0, 1) := by decide +kernel
theorem dX11_about_65 : decode cX11_about 65 = .ok (.getfield 27, 3) := by decide +kernel
theorem dX11_about_68 : decode cX11_about 68 = .ok (.getfield 250, 3) := by decide +kernel
theorem dX11_about_71 : decode cX11_about 71 = .ok (.ireturn, 1) := by decide +kernel
theorem dX11_about_72 : decode cX11_about 72 = .ok (.aload_n 0, 1) := by decide +kernel
theorem dX11_about_73 : decode cX11_about 73 = .ok (.getfield 37, 3) := by decide +kernel
theorem dX11_about_76 : decode cX11_about 76 = .ok (.getfield 49, 3) := by decide +kernel
theorem dX11_about_79 : decode cX11_about 79 = .ok (.ireturn, 1) := by decide +kernel
theorem dX11_about_80 : decode cX11_about 80 = .ok (.aload_n 0, 1) := by decide +kernel
theorem dX11_about_81 : decode cX11_about 81 = .ok (.getfield 55, 3) := by decide +kernel
theorem dX11_about_84 : decode cX11_about 84 = .ok (.getfield 203, 3) := by decide +kernel
theorem dX11_about_87 : decode cX11_about 87 = .ok (.ireturn, 1) := by decide +kernel
theorem dX11_about_88 : decode cX11_about 88 = .ok (.aload_n 0, 1) := by decide +kernel
theorem dX11_about_89 : decode cX11_about 89 = .ok (.getfield 55, 3) := by decide +kernel
theorem dX11_about_92 : decode cX11_about 92 = .ok (.getfield 285, 3) := by decide +kernel
theorem dX11_about_95 : decode cX11_about 95 = .ok (.aload_n 0, 1) := by decide +kernel
theorem dX11_about_96 : decode cX11_about 96 = .ok (.getfield 55, 3) := by decide +kernel
theorem dX11_about_99 : decode cX11_about 99 = .ok (.getfield 203, 3) := by decide +kernel
theorem dX11_about_102 : decode cX11_about 102 = .ok (.isub, 1) := by decide +kernel
theorem dX11_about_103 : decode cX11_about 103 = .ok (.ireturn, 1) := by decide +kernel
theorem dX11_about_104 : decode cX11_about 104 = .ok (.aload_n 0, 1) := by decide +kernel
theorem dX11_about_105 : decode cX11_about 105 = .ok (.getfield 93, 3) := by decide +kernel
theorem dX11_about_108 : decode cX11_about 108 = .ok (.getfield 256, 3) := by decide +kernel
theorem dX11_about_111 : decode cX11_about 111 = .ok (.ireturn, 1) := by decide +kernel
theorem dX11_about_112 : decode cX11_about 112 = .ok (.aload_n 0, 1) := by decide +kernel
theorem dX11_about_113 : decode cX11_about 113 = .ok (.getfield 93, 3) := by decide +kernel
theorem dX11_about_116 : decode cX11_about 116 = .ok (.getfield 266, 3) := by decide +kernel
theorem dX11_about_119 : decode cX11_about 119 = .ok (.ireturn, 1) := by decide +kernel
theorem dX11_about_120 : decode cX11_about 120 = .ok (.aload_n 0, 1) := by decide +kernel
theorem dX11_about_121 : decode cX11_about 121 = .ok (.getfield 13, 3) := by decide +kernel
theorem dX11_about_124 : decode cX11_about 124 = .ok (.ireturn, 1) := by decide +kernel
theorem dX11_about_125 : decode cX11_about 125 = .ok (.aload_n 0, 1) := by decide +kernel
theorem dX11_about_126 : decode cX11_about 126 = .ok (.getfield 27, 3) := by decide +kernel
theorem dX11_about_129 : decode cX11_about 129 = .ok (.getfield 288, 3) := by decide +kernel
theorem dX11_about_132 : decode cX11_about 132 = .ok (.getfield 292, 3) := by decide +kernel
theorem dX11_about_135 : decode cX11_about 135 = .ok (.ireturn, 1) := by decide +kernel
theorem dX11_about_136 : decode cX11_about 136 = .ok (.aload_n 0, 1) := by decide +kernel
theorem dX11_about_137 : decode cX11_about 137 = .ok (.getfield 100, 3) := by decide +kernel
theorem dX11_about_140 : decode cX11_about 140 = .ok (.ireturn, 1) := by decide +kernel
theorem dX11_about_141 : decode cX11_about 141 = .ok (.iconst (-1), 1) := by decide +kernel
theorem dX11_about_142 : decode cX11_about 142 = .ok (.ireturn, 1) := by decide +kernel
def wq_c_X11_about : List Cond := Cond.code yX11_about cX11_about 2 (some .int) :: (([Cond.fieldLink RX11 27 "CrowToll" "told" "LCrowToll$Road;", Cond.fieldLink RX11 247 "CrowToll$Road" "birds" "I", Cond.fieldLink RX11 250 "CrowToll$Road" "posts" "I", Cond.fieldLink RX11 37 "CrowToll" "stand" "LCrowToll$Stand;", Cond.fieldLink RX11 49 "CrowToll$Stand" "carts" "I", Cond.fieldLink RX11 55 "CrowToll" "acts" "LCrowToll$Acts;", Cond.fieldLink RX11 203 "CrowToll$Acts" "done" "I", Cond.fieldLink RX11 285 "CrowToll$Acts" "kept" "I", Cond.fieldLink RX11 93 "CrowToll" "sights" "LCrowToll$Sights;", Cond.fieldLink RX11 256 "CrowToll$Sights" "size" "I", Cond.fieldLink RX11 266 "CrowToll$Sights" "time" "I", Cond.fieldLink RX11 13 "CrowToll" "onTape" "I", Cond.fieldLink RX11 288 "CrowToll$Road" "law" "LCrowToll$Law;", Cond.fieldLink RX11 292 "CrowToll$Law" "units" "I", Cond.fieldLink RX11 100 "CrowToll" "lyingThere" "I"] : List Cond) ++ wsX00 ++ wsX40 ++ wsX70 ++ wsX80 ++ wsX90 ++ wsX110)
set_option maxHeartbeats 8000000 in
set_option maxRecDepth 100000 in
theorem c_X11_about (l : Launch) (D : va_G) (cy : Nat → ClassId) (ad : Nat → Nat) (g : Nat → va_E) {f0 : List Value} {f1 : List Value} {f2 : List Value} {f3 : List Value} {f4 : List Value} {f5 : List Value} {n : Int32} (o0 : g 0 = .inr (11, f0)) (f0_1 : f0[1]? = some (.int 0)) (f0_3 : f0[3]? = some (.ref (ad 1))) (f0_4 : f0[4]? = some (.ref (ad 2))) (f0_6 : f0[6]? = some (.ref (ad 3))) (f0_11 : f0[11]? = some (.ref (ad 4))) (f0_13 : f0[13]? = some (.int 0)) (o1 : g 1 = .inr (7, f1)) (f1_5 : f1[5]? = some (.int 0)) (f1_11 : f1[11]? = some (.int 0)) (f1_17 : f1[17]? = some (.ref (ad 5))) (o2 : g 2 = .inr (9, f2)) (f2_4 : f2[4]? = some (.int 0)) (o3 : g 3 = .inr (0, f3)) (f3_3 : f3[3]? = some (.int 0)) (f3_4 : f3[4]? = some (.int 0)) (o4 : g 4 = .inr (8, f4)) (f4_7 : f4[7]? = some (.int 0)) (f4_8 : f4[8]? = some (.int 0)) (o5 : g 5 = .inr (4, f5)) (f5_2 : f5[2]? = some (.int 0)) : cMi l yX11_about wq_c_X11_about { frames := 0, cells := 0, slots := 0, locals := 0 } 6 0 0 0 D cy ad g [.ref (ad 0), .int n] (fun r nw lu => r = ans_about n) := by
  refine cM_of (Qc := fun A => cQi (fun r nw lu => r = ans_about n) D 6 0 ad g A) (cc := cX11_about) (maxL := 2) (ret := (some .int)) (by decide) rfl (Nat.le_of_ble_eq_true rfl) ?_
  intro p e s m below meth c A hC hr hlk hnm hO ls hl
  have hC : CallFix p m c cX11_about 2 s [.ref (ad 0), .int n].toArray wq_c_X11_about RX11 := hC
  obtain ⟨hx, hb, hml, hown, hts⟩ := id hC
  have hl : lv_has ls 2 [(0, .ref (ad 0)), (1, .int n)] := hl
  have i_X0 : ∀ w ∈ wsX00, w ∈ wq_c_X11_about := fun w h => List.mem_cons_of_mem _ (List.mem_append_left _ (List.mem_append_left _ (List.mem_append_left _ (List.mem_append_left _ (List.mem_append_left _ (List.mem_append_right _ h))))))
  have i_X11 : ∀ w ∈ wsX110, w ∈ wq_c_X11_about := fun w h => List.mem_cons_of_mem _ (List.mem_append_right _ h)
  have i_X4 : ∀ w ∈ wsX40, w ∈ wq_c_X11_about := fun w h => List.mem_cons_of_mem _ (List.mem_append_left _ (List.mem_append_left _ (List.mem_append_left _ (List.mem_append_left _ (List.mem_append_right _ h)))))
  have i_X7 : ∀ w ∈ wsX70, w ∈ wq_c_X11_about := fun w h => List.mem_cons_of_mem _ (List.mem_append_left _ (List.mem_append_left _ (List.mem_append_left _ (List.mem_append_right _ h))))
  have i_X8 : ∀ w ∈ wsX80, w ∈ wq_c_X11_about := fun w h => List.mem_cons_of_mem _ (List.mem_append_left _ (List.mem_append_left _ (List.mem_append_right _ h)))
  have i_X9 : ∀ w ∈ wsX90, w ∈ wq_c_X11_about := fun w h => List.mem_cons_of_mem _ (List.mem_append_left _ (List.mem_append_right _ h))
  refine lv_iload_n hx hb dX11_about_0 rfl (lv_at hl 1 rfl) ?_
  by_cases hs_1_1_0 : n = 0
  · refine lv_tableIn (tgt := 56) hx hb dX11_about_1 (by rw [hs_1_1_0]; decide) (by rw [hs_1_1_0]; decide) (by rw [hs_1_1_0]; rfl) (by decide) ?_
    refine lv_aload_n hx hb dX11_about_56 rfl (lv_at hl 0 rfl) ?_
    refine cg_get hC hO 0 (by decide) o0 rfl i_X11 3 (by decide) (List.mem_of_getElem? (i := 1) rfl) f0_3 dX11_about_57 ?_
    refine cg_get hC hO 1 (by decide) o1 rfl i_X7 5 (by decide) (List.mem_of_getElem? (i := 2) rfl) f1_5 dX11_about_60 ?_
    exact cg_iret (nw := fun _ => 0) hC hr hlk hO.same rfl (Nat.le_of_ble_eq_true rfl) (Nat.le_of_ble_eq_true rfl) (by rw [hs_1_1_0]; rfl) dX11_about_63
  by_cases hs_1_1_1 : n = 1
  · refine lv_tableIn (tgt := 64) hx hb dX11_about_1 (by rw [hs_1_1_1]; decide) (by rw [hs_1_1_1]; decide) (by rw [hs_1_1_1]; rfl) (by decide) ?_
    refine lv_aload_n hx hb dX11_about_64 rfl (lv_at hl 0 rfl) ?_
    refine cg_get hC hO 0 (by decide) o0 rfl i_X11 3 (by decide) (List.mem_of_getElem? (i := 1) rfl) f0_3 dX11_about_65 ?_
    refine cg_get hC hO 1 (by decide) o1 rfl i_X7 11 (by decide) (List.mem_of_getElem? (i := 3) rfl) f1_11 dX11_about_68 ?_
    exact cg_iret (nw := fun _ => 0) hC hr hlk hO.same rfl (Nat.le_of_ble_eq_true rfl) (Nat.le_of_ble_eq_true rfl) (by rw [hs_1_1_1]; rfl) dX11_about_71
  by_cases hs_1_1_2 : n = 2
  · refine lv_tableIn (tgt := 72) hx hb dX11_about_1 (by rw [hs_1_1_2]; decide) (by rw [hs_1_1_2]; decide) (by rw [hs_1_1_2]; rfl) (by decide) ?_
    refine lv_aload_n hx hb dX11_about_72 rfl (lv_at hl 0 rfl) ?_
    refine cg_get hC hO 0 (by decide) o0 rfl i_X11 4 (by decide) (List.mem_of_getElem? (i := 4) rfl) f0_4 dX11_about_73 ?_
    refine cg_get hC hO 2 (by decide) o2 rfl i_X9 4 (by decide) (List.mem_of_getElem? (i := 5) rfl) f2_4 dX11_about_76 ?_
    exact cg_iret (nw := fun _ => 0) hC hr hlk hO.same rfl (Nat.le_of_ble_eq_true rfl) (Nat.le_of_ble_eq_true rfl) (by rw [hs_1_1_2]; rfl) dX11_about_79
  by_cases hs_1_1_3 : n = 3
  · refine lv_tableIn (tgt := 80) hx hb dX11_about_1 (by rw [hs_1_1_3]; decide) (by rw [hs_1_1_3]; decide) (by rw [hs_1_1_3]; rfl) (by decide) ?_
    refine lv_aload_n hx hb dX11_about_80 rfl (lv_at hl 0 rfl) ?_
    refine cg_get hC hO 0 (by decide) o0 rfl i_X11 6 (by decide) (List.mem_of_getElem? (i := 6) rfl) f0_6 dX11_about_81 ?_
    refine cg_get hC hO 3 (by decide) o3 rfl i_X0 3 (by decide) (List.mem_of_getElem? (i := 7) rfl) f3_3 dX11_about_84 ?_
    exact cg_iret (nw := fun _ => 0) hC hr hlk hO.same rfl (Nat.le_of_ble_eq_true rfl) (Nat.le_of_ble_eq_true rfl) (by rw [hs_1_1_3]; rfl) dX11_about_87
  by_cases hs_1_1_4 : n = 4
  · refine lv_tableIn (tgt := 88) hx hb dX11_about_1 (by rw [hs_1_1_4]; decide) (by rw [hs_1_1_4]; decide) (by rw [hs_1_1_4]; rfl) (by decide) ?_
    refine lv_aload_n hx hb dX11_about_88 rfl (lv_at hl 0 rfl) ?_
    refine cg_get hC hO 0 (by decide) o0 rfl i_X11 6 (by decide) (List.mem_of_getElem? (i := 6) rfl) f0_6 dX11_about_89 ?_
    refine cg_get hC hO 3 (by decide) o3 rfl i_X0 4 (by decide) (List.mem_of_getElem? (i := 8) rfl) f3_4 dX11_about_92 ?_
    refine lv_aload_n hx hb dX11_about_95 rfl (lv_at hl 0 rfl) ?_
    refine cg_get hC hO 0 (by decide) o0 rfl i_X11 6 (by decide) (List.mem_of_getElem? (i := 6) rfl) f0_6 dX11_about_96 ?_
    refine cg_get hC hO 3 (by decide) o3 rfl i_X0 3 (by decide) (List.mem_of_getElem? (i := 7) rfl) f3_3 dX11_about_99 ?_
    refine lv_isub hx hb dX11_about_102 ?_
    refine cg_ev (v := 0) (by decide) ?_
    exact cg_iret (nw := fun _ => 0) hC hr hlk hO.same rfl (Nat.le_of_ble_eq_true rfl) (Nat.le_of_ble_eq_true rfl) (by rw [hs_1_1_4]; rfl) dX11_about_103
  by_cases hs_1_1_5 : n = 5
  · refine lv_tableIn (tgt := 104) hx hb dX11_about_1 (by rw [hs_1_1_5]; decide) (by rw [hs_1_1_5]; decide) (by rw [hs_1_1_5]; rfl) (by decide) ?_
    refine lv_aload_n hx hb dX11_about_104 rfl (lv_at hl 0 rfl) ?_
    refine cg_get hC hO 0 (by decide) o0 rfl i_X11 11 (by decide) (List.mem_of_getElem? (i := 9) rfl) f0_11 dX11_about_105 ?_
    refine cg_get hC hO 4 (by decide) o4 rfl i_X8 7 (by decide) (List.mem_of_getElem? (i := 10) rfl) f4_7 dX11_about_108 ?_
    exact cg_iret (nw := fun _ => 0) hC hr hlk hO.same rfl (Nat.le_of_ble_eq_true rfl) (Nat.le_of_ble_eq_true rfl) (by rw [hs_1_1_5]; rfl) dX11_about_111
  by_cases hs_1_1_6 : n = 6
  · refine lv_tableIn (tgt := 112) hx hb dX11_about_1 (by rw [hs_1_1_6]; decide) (by rw [hs_1_1_6]; decide) (by rw [hs_1_1_6]; rfl) (by decide) ?_
    refine lv_aload_n hx hb dX11_about_112 rfl (lv_at hl 0 rfl) ?_
    refine cg_get hC hO 0 (by decide) o0 rfl i_X11 11 (by decide) (List.mem_of_getElem? (i := 9) rfl) f0_11 dX11_about_113 ?_
    refine cg_get hC hO 4 (by decide) o4 rfl i_X8 8 (by decide) (List.mem_of_getElem? (i := 11) rfl) f4_8 dX11_about_116 ?_
    exact cg_iret (nw := fun _ => 0) hC hr hlk hO.same rfl (Nat.le_of_ble_eq_true rfl) (Nat.le_of_ble_eq_true rfl) (by rw [hs_1_1_6]; rfl) dX11_about_119
  by_cases hs_1_1_7 : n = 7
  · refine lv_tableIn (tgt := 120) hx hb dX11_about_1 (by rw [hs_1_1_7]; decide) (by rw [hs_1_1_7]; decide) (by rw [hs_1_1_7]; rfl) (by decide) ?_
    refine lv_aload_n hx hb dX11_about_120 rfl (lv_at hl 0 rfl) ?_
    refine cg_get hC hO 0 (by decide) o0 rfl i_X11 1 (by decide) (List.mem_of_getElem? (i := 12) rfl) f0_1 dX11_about_121 ?_
    exact cg_iret (nw := fun _ => 0) hC hr hlk hO.same rfl (Nat.le_of_ble_eq_true rfl) (Nat.le_of_ble_eq_true rfl) (by rw [hs_1_1_7]; rfl) dX11_about_124
  by_cases hs_1_1_8 : n = 8
  · refine lv_tableIn (tgt := 125) hx hb dX11_about_1 (by rw [hs_1_1_8]; decide) (by rw [hs_1_1_8]; decide) (by rw [hs_1_1_8]; rfl) (by decide) ?_
    refine lv_aload_n hx hb dX11_about_125 rfl (lv_at hl 0 rfl) ?_
    refine cg_get hC hO 0 (by decide) o0 rfl i_X11 3 (by decide) (List.mem_of_getElem? (i := 1) rfl) f0_3 dX11_about_126 ?_
    refine cg_get hC hO 1 (by decide) o1 rfl i_X7 17 (by decide) (List.mem_of_getElem? (i := 13) rfl) f1_17 dX11_about_129 ?_
    refine cg_get hC hO 5 (by decide) o5 rfl i_X4 2 (by decide) (List.mem_of_getElem? (i := 14) rfl) f5_2 dX11_about_132 ?_
    exact cg_iret (nw := fun _ => 0) hC hr hlk hO.same rfl (Nat.le_of_ble_eq_true rfl) (Nat.le_of_ble_eq_true rfl) (by rw [hs_1_1_8]; rfl) dX11_about_135
  by_cases hs_1_1_9 : n = 9
  · refine lv_tableIn (tgt := 136) hx hb dX11_about_1 (by rw [hs_1_1_9]; decide) (by rw [hs_1_1_9]; decide) (by rw [hs_1_1_9]; rfl) (by decide) ?_
    refine lv_aload_n hx hb dX11_about_136 rfl (lv_at hl 0 rfl) ?_
    refine cg_get hC hO 0 (by decide) o0 rfl i_X11 13 (by decide) (List.mem_of_getElem? (i := 15) rfl) f0_13 dX11_about_137 ?_
    exact cg_iret (nw := fun _ => 0) hC hr hlk hO.same rfl (Nat.le_of_ble_eq_true rfl) (Nat.le_of_ble_eq_true rfl) (by rw [hs_1_1_9]; rfl) dX11_about_140
  refine lv_tableOut (tgt := 141) hx hb dX11_about_1 (tsw_out_0_9 n hs_1_1_0 hs_1_1_1 hs_1_1_2 hs_1_1_3 hs_1_1_4 hs_1_1_5 hs_1_1_6 hs_1_1_7 hs_1_1_8 hs_1_1_9) (by decide) ?_
  refine lv_iconst (v := (-1)) hx hb dX11_about_141 (by decide) ?_
  exact cg_iret (nw := fun _ => 0) hC hr hlk hO.same rfl (Nat.le_of_ble_eq_true rfl) (Nat.le_of_ble_eq_true rfl) ((if_neg (fun z => absurd (rng_cases9 z) (by simp [hs_1_1_0, hs_1_1_1, hs_1_1_2, hs_1_1_3, hs_1_1_4, hs_1_1_5, hs_1_1_6, hs_1_1_7, hs_1_1_8, hs_1_1_9]))).symm) dX11_about_142

theorem dX4_becomes_0 : decode cX4_becomes 0 = .ok (.aload_n 0, 1) := by decide +kernel
theorem dX4_becomes_1 : decode cX4_becomes 1 = .ok (.aload_n 1, 1) := by decide +kernel
theorem dX4_becomes_2 : decode cX4_becomes 2 = .ok (.getfield 18, 3) := by decide +kernel
theorem dX4_becomes_5 : decode cX4_becomes 5 = .ok (.putfield 18, 3) := by decide +kernel
theorem dX4_becomes_8 : decode cX4_becomes 8 = .ok (.aload_n 0, 1) := by decide +kernel
theorem dX4_becomes_9 : decode cX4_becomes 9 = .ok (.aload_n 1, 1) := by decide +kernel
theorem dX4_becomes_10 : decode cX4_becomes 10 = .ok (.getfield 22, 3) := by decide +kernel
theorem dX4_becomes_13 : decode cX4_becomes 13 = .ok (.putfield 22, 3) := by decide +kernel
theorem dX4_becomes_16 : decode cX4_becomes 16 = .ok (.aload_n 0, 1) := by decide +kernel
theorem dX4_becomes_17 : decode cX4_becomes 17 = .ok (.aload_n 1, 1) := by decide +kernel
theorem dX4_becomes_18 : decode cX4_becomes 18 = .ok (.getfield 25, 3) := by decide +kernel
theorem dX4_becomes_21 : decode cX4_becomes 21 = .ok (.putfield 25, 3) := by decide +kernel
theorem dX4_becomes_24 : decode cX4_becomes 24 = .ok (.aload_n 1, 1) := by decide +kernel
theorem dX4_becomes_25 : decode cX4_becomes 25 = .ok (.getfield 11, 3) := by decide +kernel
theorem dX4_becomes_28 : decode cX4_becomes 28 = .ok (.iconst 0, 1) := by decide +kernel
theorem dX4_becomes_29 : decode cX4_becomes 29 = .ok (.aload_n 0, 1) := by decide +kernel
theorem dX4_becomes_30 : decode cX4_becomes 30 = .ok (.getfield 11, 3) := by decide +kernel
theorem dX4_becomes_33 : decode cX4_becomes 33 = .ok (.iconst 0, 1) := by decide +kernel
theorem dX4_becomes_34 : decode cX4_becomes 34 = .ok (.aload_n 1, 1) := by decide +kernel
theorem dX4_becomes_35 : decode cX4_becomes 35 = .ok (.getfield 18, 3) := by decide +kernel
theorem dX4_becomes_38 : decode cX4_becomes 38 = .ok (.invokestatic 29, 3) := by decide +kernel
theorem dX4_becomes_41 : decode cX4_becomes 41 = .ok (.return_, 1) := by decide +kernel
def wq_c_X4_becomes : List Cond := Cond.code yX4_becomes cX4_becomes 2 none :: (([Cond.fieldLink RX4 18 "CrowToll$Law" "steps" "I", Cond.fieldLink RX4 22 "CrowToll$Law" "units" "I", Cond.fieldLink RX4 25 "CrowToll$Law" "isTold" "Z", Cond.fieldLink RX4 11 "CrowToll$Law" "step" "[I", Cond.methodLink RX4 29 arraycopyName, Cond.native arraycopyName, Cond.static arraycopyName, Cond.initialized "java/lang/System"] : List Cond) ++ wsX40)
set_option maxHeartbeats 8000000 in
set_option maxRecDepth 100000 in
theorem c_X4_becomes (l : Launch) (D : va_G) (cy : Nat → ClassId) (ad : Nat → Nat) (g : Nat → va_E) {f0 : List Value} {f1 : List Value} {c2 : Nat → Int32} {c3 : Nat → Int32} (o0 : g 0 = .inr (4, f0)) (f0_0 : f0[0]? = some (.ref (ad 3))) (f0_1 : f0[1]? = some (.int 0)) (f0_2 : f0[2]? = some (.int 0)) (f0_3 : f0[3]? = some (.int 0)) (o1 : g 1 = .inr (4, f1)) (f1_0 : f1[0]? = some (.ref (ad 2))) (f1_1 : f1[1]? = some (.int 0)) (f1_2 : f1[2]? = some (.int 0)) (f1_3 : f1[3]? = some (.int 0)) (a2 : g 2 = .inl (cy 0, 300, .inl c2)) (a3 : g 3 = .inl (cy 0, 300, .inl c3)) : cMv l yX4_becomes wq_c_X4_becomes { frames := 1, cells := 0, slots := 0, locals := 60 } 4 0 0 0 D cy ad g [.ref (ad 0), .ref (ad 1)] (fun nw lu => ∃ (c3_38_1 : Nat → Int32), lu = [(0, .inr (4, (((f0.set 1 (.int 0)).set 2 (.int 0)).set 3 (.int 0)))), (3, .inl (cy 0, 300, .inl c3_38_1))]) := by
  refine cM_of (Qc := fun A => cQv (fun nw lu => ∃ (c3_38_1 : Nat → Int32), lu = [(0, .inr (4, (((f0.set 1 (.int 0)).set 2 (.int 0)).set 3 (.int 0)))), (3, .inl (cy 0, 300, .inl c3_38_1))]) D 4 0 ad g A) (cc := cX4_becomes) (maxL := 2) (ret := none) (by decide) rfl (Nat.le_of_ble_eq_true rfl) ?_
  intro p e s m below meth c A hC hr hlk hnm hO ls hl
  have hC : CallFix p m c cX4_becomes 2 s [.ref (ad 0), .ref (ad 1)].toArray wq_c_X4_becomes RX4 := hC
  obtain ⟨hx, hb, hml, hown, hts⟩ := id hC
  have hl : lv_has ls 2 [(0, .ref (ad 0)), (1, .ref (ad 1))] := hl
  have i_X4 : ∀ w ∈ wsX40, w ∈ wq_c_X4_becomes := fun w h => List.mem_cons_of_mem _ (List.mem_append_right _ h)
  refine lv_aload_n hx hb dX4_becomes_0 rfl (lv_at hl 0 rfl) ?_
  refine lv_aload_n hx hb dX4_becomes_1 rfl (lv_at hl 1 rfl) ?_
  refine cg_get hC hO 1 (by decide) o1 rfl i_X4 1 (by decide) (List.mem_of_getElem? (i := 1) rfl) f1_1 dX4_becomes_2 ?_
  refine cg_put hC hO 0 (by decide) o0 rfl i_X4 tyX4_ok nmX4 1 (by decide) (List.mem_of_getElem? (i := 1) rfl) rfl rfl rfl (fs_lt f0_1) dX4_becomes_5 (fun H locs hO => ?_)
  have hO : cO D cy A s.heap s 4 ad (cup [(0, .inr (4, (f0.set 1 (.int 0))))] g) _ _ := hO
  refine lv_aload_n hx hb dX4_becomes_8 rfl (lv_at hl 0 rfl) ?_
  refine lv_aload_n hx hb dX4_becomes_9 rfl (lv_at hl 1 rfl) ?_
  refine cg_get hC hO 1 (by decide) o1 rfl i_X4 2 (by decide) (List.mem_of_getElem? (i := 2) rfl) f1_2 dX4_becomes_10 ?_
  refine cg_put hC hO 0 (by decide) rfl rfl i_X4 tyX4_ok nmX4 2 (by decide) (List.mem_of_getElem? (i := 2) rfl) rfl rfl rfl (fs_lt (fs_ne (by decide) f0_2)) dX4_becomes_13 (fun H locs hO => ?_)
  have hO : cO D cy A s.heap s 4 ad (cup [(0, .inr (4, ((f0.set 1 (.int 0)).set 2 (.int 0))))] g) _ _ := hO
  refine lv_aload_n hx hb dX4_becomes_16 rfl (lv_at hl 0 rfl) ?_
  refine lv_aload_n hx hb dX4_becomes_17 rfl (lv_at hl 1 rfl) ?_
  refine cg_get hC hO 1 (by decide) o1 rfl i_X4 3 (by decide) (List.mem_of_getElem? (i := 3) rfl) f1_3 dX4_becomes_18 ?_
  refine cg_put hC hO 0 (by decide) rfl rfl i_X4 tyX4_ok nmX4 3 (by decide) (List.mem_of_getElem? (i := 3) rfl) rfl rfl rfl (fs_lt (fs_ne (by decide) (fs_ne (by decide) f0_3))) dX4_becomes_21 (fun H locs hO => ?_)
  have hO : cO D cy A s.heap s 4 ad (cup [(0, .inr (4, (((f0.set 1 (.int 0)).set 2 (.int 0)).set 3 (.int 0))))] g) _ _ := hO
  refine lv_aload_n hx hb dX4_becomes_24 rfl (lv_at hl 1 rfl) ?_
  refine cg_get hC hO 1 (by decide) o1 rfl i_X4 0 (by decide) (List.mem_of_getElem? (i := 4) rfl) f1_0 dX4_becomes_25 ?_
  refine lv_iconst (v := 0) hx hb dX4_becomes_28 (by decide) ?_
  refine lv_aload_n hx hb dX4_becomes_29 rfl (lv_at hl 0 rfl) ?_
  refine cg_get hC hO 0 (by decide) rfl rfl i_X4 0 (by decide) (List.mem_of_getElem? (i := 4) rfl) (fs_ne (by decide) (fs_ne (by decide) (fs_ne (by decide) f0_0))) dX4_becomes_30 ?_
  refine lv_iconst (v := 0) hx hb dX4_becomes_33 (by decide) ?_
  refine lv_aload_n hx hb dX4_becomes_34 rfl (lv_at hl 1 rfl) ?_
  refine cg_get hC hO 1 (by decide) o1 rfl i_X4 1 (by decide) (List.mem_of_getElem? (i := 1) rfl) f1_1 dX4_becomes_35 ?_
  refine cg_copy hC hl.1 hO (List.mem_of_getElem? (i := 5) rfl) (List.mem_of_getElem? (i := 6) rfl) (List.mem_of_getElem? (i := 7) rfl) (List.mem_of_getElem? (i := 8) rfl) 2 3 (by decide) (by decide) a2 a3 (by decide) (by decide) (by decide) (by decide) (by decide) (Nat.le_of_ble_eq_true rfl) (Nat.le_of_ble_eq_true rfl) dX4_becomes_38 (fun H locs hO => ?_)
  have hO : cO D cy A s.heap s 4 ad (cup [(0, .inr (4, (((f0.set 1 (.int 0)).set 2 (.int 0)).set 3 (.int 0)))), (3, .inl (cy 0, 300, .inl (va_cpy c2 c3 (0 : Int32).toNatClampNeg (0 : Int32).toNatClampNeg (0 : Int32).toNatClampNeg)))] g) _ _ := hO
  obtain ⟨c3_38_1, ec3_38_1⟩ : ∃ z, z = (va_cpy c2 c3 (0 : Int32).toNatClampNeg (0 : Int32).toNatClampNeg (0 : Int32).toNatClampNeg) := ⟨_, rfl⟩
  rw [← ec3_38_1] at hO
  have hO : cO D cy A s.heap s 4 ad (cup [(0, .inr (4, (((f0.set 1 (.int 0)).set 2 (.int 0)).set 3 (.int 0)))), (3, .inl (cy 0, 300, .inl c3_38_1))] g) _ _ := hO
  exact cg_vret (nw := fun _ => 0) hC hr hlk hO.same (Nat.le_of_ble_eq_true rfl) (Nat.le_of_ble_eq_true rfl) (⟨c3_38_1, rfl⟩) dX4_becomes_41

theorem dX7_becomes_0 : decode cX7_becomes 0 = .ok (.aload_n 0, 1) := by decide +kernel
theorem dX7_becomes_1 : decode cX7_becomes 1 = .ok (.aload_n 1, 1) := by decide +kernel
theorem dX7_becomes_2 : decode cX7_becomes 2 = .ok (.getfield 59, 3) := by decide +kernel
theorem dX7_becomes_5 : decode cX7_becomes 5 = .ok (.putfield 59, 3) := by decide +kernel
theorem dX7_becomes_8 : decode cX7_becomes 8 = .ok (.aload_n 0, 1) := by decide +kernel
theorem dX7_becomes_9 : decode cX7_becomes 9 = .ok (.aload_n 1, 1) := by decide +kernel
theorem dX7_becomes_10 : decode cX7_becomes 10 = .ok (.getfield 63, 3) := by decide +kernel
theorem dX7_becomes_13 : decode cX7_becomes 13 = .ok (.putfield 63, 3) := by decide +kernel
theorem dX7_becomes_16 : decode cX7_becomes 16 = .ok (.aload_n 0, 1) := by decide +kernel
theorem dX7_becomes_17 : decode cX7_becomes 17 = .ok (.aload_n 1, 1) := by decide +kernel
theorem dX7_becomes_18 : decode cX7_becomes 18 = .ok (.getfield 66, 3) := by decide +kernel
theorem dX7_becomes_21 : decode cX7_becomes 21 = .ok (.putfield 66, 3) := by decide +kernel
theorem dX7_becomes_24 : decode cX7_becomes 24 = .ok (.aload_n 0, 1) := by decide +kernel
theorem dX7_becomes_25 : decode cX7_becomes 25 = .ok (.aload_n 1, 1) := by decide +kernel
theorem dX7_becomes_26 : decode cX7_becomes 26 = .ok (.getfield 69, 3) := by decide +kernel
theorem dX7_becomes_29 : decode cX7_becomes 29 = .ok (.putfield 69, 3) := by decide +kernel
theorem dX7_becomes_32 : decode cX7_becomes 32 = .ok (.aload_n 1, 1) := by decide +kernel
theorem dX7_becomes_33 : decode cX7_becomes 33 = .ok (.getfield 15, 3) := by decide +kernel
theorem dX7_becomes_36 : decode cX7_becomes 36 = .ok (.iconst 0, 1) := by decide +kernel
theorem dX7_becomes_37 : decode cX7_becomes 37 = .ok (.aload_n 0, 1) := by decide +kernel
theorem dX7_becomes_38 : decode cX7_becomes 38 = .ok (.getfield 15, 3) := by decide +kernel
theorem dX7_becomes_41 : decode cX7_becomes 41 = .ok (.iconst 0, 1) := by decide +kernel
theorem dX7_becomes_42 : decode cX7_becomes 42 = .ok (.iconst 5, 1) := by decide +kernel
theorem dX7_becomes_43 : decode cX7_becomes 43 = .ok (.invokestatic 81, 3) := by decide +kernel
theorem dX7_becomes_46 : decode cX7_becomes 46 = .ok (.aload_n 1, 1) := by decide +kernel
theorem dX7_becomes_47 : decode cX7_becomes 47 = .ok (.getfield 19, 3) := by decide +kernel
theorem dX7_becomes_50 : decode cX7_becomes 50 = .ok (.iconst 0, 1) := by decide +kernel
theorem dX7_becomes_51 : decode cX7_becomes 51 = .ok (.aload_n 0, 1) := by decide +kernel
theorem dX7_becomes_52 : decode cX7_becomes 52 = .ok (.getfield 19, 3) := by decide +kernel
theorem dX7_becomes_55 : decode cX7_becomes 55 = .ok (.iconst 0, 1) := by decide +kernel
theorem dX7_becomes_56 : decode cX7_becomes 56 = .ok (.iconst 5, 1) := by decide +kernel
theorem dX7_becomes_57 : decode cX7_becomes 57 = .ok (.invokestatic 81, 3) := by decide +kernel
theorem dX7_becomes_60 : decode cX7_becomes 60 = .ok (.aload_n 1, 1) := by decide +kernel
theorem dX7_becomes_61 : decode cX7_becomes 61 = .ok (.getfield 22, 3) := by decide +kernel
theorem dX7_becomes_64 : decode cX7_becomes 64 = .ok (.iconst 0, 1) := by decide +kernel
theorem dX7_becomes_65 : decode cX7_becomes 65 = .ok (.aload_n 0, 1) := by decide +kernel
theorem dX7_becomes_66 : decode cX7_becomes 66 = .ok (.getfield 22, 3) := by decide +kernel
theorem dX7_becomes_69 : decode cX7_becomes 69 = .ok (.iconst 0, 1) := by decide +kernel
theorem dX7_becomes_70 : decode cX7_becomes 70 = .ok (.iconst 5, 1) := by decide +kernel
theorem dX7_becomes_71 : decode cX7_becomes 71 = .ok (.invokestatic 81, 3) := by decide +kernel
theorem dX7_becomes_74 : decode cX7_becomes 74 = .ok (.aload_n 1, 1) := by decide +kernel
theorem dX7_becomes_75 : decode cX7_becomes 75 = .ok (.getfield 25, 3) := by decide +kernel
theorem dX7_becomes_78 : decode cX7_becomes 78 = .ok (.iconst 0, 1) := by decide +kernel
theorem dX7_becomes_79 : decode cX7_becomes 79 = .ok (.aload_n 0, 1) := by decide +kernel
theorem dX7_becomes_80 : decode cX7_becomes 80 = .ok (.getfield 25, 3) := by decide +kernel
theorem dX7_becomes_83 : decode cX7_becomes 83 = .ok (.iconst 0, 1) := by decide +kernel
theorem dX7_becomes_84 : decode cX7_becomes 84 = .ok (.iconst 5, 1) := by decide +kernel
theorem dX7_becomes_85 : decode cX7_becomes 85 = .ok (.invokestatic 81, 3) := by decide +kernel
theorem dX7_becomes_88 : decode cX7_becomes 88 = .ok (.aload_n 1, 1) := by decide +kernel
theorem dX7_becomes_89 : decode cX7_becomes 89 = .ok (.getfield 31, 3) := by decide +kernel
theorem dX7_becomes_92 : decode cX7_becomes 92 = .ok (.iconst 0, 1) := by decide +kernel
theorem dX7_becomes_93 : decode cX7_becomes 93 = .ok (.aload_n 0, 1) := by decide +kernel
theorem dX7_becomes_94 : decode cX7_becomes 94 = .ok (.getfield 31, 3) := by decide +kernel
theorem dX7_becomes_97 : decode cX7_becomes 97 = .ok (.iconst 0, 1) := by decide +kernel
theorem dX7_becomes_98 : decode cX7_becomes 98 = .ok (.iconst 4, 1) := by decide +kernel
theorem dX7_becomes_99 : decode cX7_becomes 99 = .ok (.invokestatic 81, 3) := by decide +kernel
theorem dX7_becomes_102 : decode cX7_becomes 102 = .ok (.aload_n 1, 1) := by decide +kernel
theorem dX7_becomes_103 : decode cX7_becomes 103 = .ok (.getfield 34, 3) := by decide +kernel
theorem dX7_becomes_106 : decode cX7_becomes 106 = .ok (.iconst 0, 1) := by decide +kernel
theorem dX7_becomes_107 : decode cX7_becomes 107 = .ok (.aload_n 0, 1) := by decide +kernel
theorem dX7_becomes_108 : decode cX7_becomes 108 = .ok (.getfield 34, 3) := by decide +kernel
theorem dX7_becomes_111 : decode cX7_becomes 111 = .ok (.iconst 0, 1) := by decide +kernel
theorem dX7_becomes_112 : decode cX7_becomes 112 = .ok (.iconst 4, 1) := by decide +kernel
theorem dX7_becomes_113 : decode cX7_becomes 113 = .ok (.invokestatic 81, 3) := by decide +kernel
theorem dX7_becomes_116 : decode cX7_becomes 116 = .ok (.aload_n 1, 1) := by decide +kernel
theorem dX7_becomes_117 : decode cX7_becomes 117 = .ok (.getfield 37, 3) := by decide +kernel
theorem dX7_becomes_120 : decode cX7_becomes 120 = .ok (.iconst 0, 1) := by decide +kernel
theorem dX7_becomes_121 : decode cX7_becomes 121 = .ok (.aload_n 0, 1) := by decide +kernel
theorem dX7_becomes_122 : decode cX7_becomes 122 = .ok (.getfield 37, 3) := by decide +kernel
theorem dX7_becomes_125 : decode cX7_becomes 125 = .ok (.iconst 0, 1) := by decide +kernel
theorem dX7_becomes_126 : decode cX7_becomes 126 = .ok (.bipush 20, 2) := by decide +kernel
theorem dX7_becomes_128 : decode cX7_becomes 128 = .ok (.invokestatic 81, 3) := by decide +kernel
theorem dX7_becomes_131 : decode cX7_becomes 131 = .ok (.aload_n 1, 1) := by decide +kernel
theorem dX7_becomes_132 : decode cX7_becomes 132 = .ok (.getfield 40, 3) := by decide +kernel
theorem dX7_becomes_135 : decode cX7_becomes 135 = .ok (.iconst 0, 1) := by decide +kernel
theorem dX7_becomes_136 : decode cX7_becomes 136 = .ok (.aload_n 0, 1) := by decide +kernel
theorem dX7_becomes_137 : decode cX7_becomes 137 = .ok (.getfield 40, 3) := by decide +kernel
theorem dX7_becomes_140 : decode cX7_becomes 140 = .ok (.iconst 0, 1) := by decide +kernel
theorem dX7_becomes_141 : decode cX7_becomes 141 = .ok (.iconst 4, 1) := by decide +kernel
theorem dX7_becomes_142 : decode cX7_becomes 142 = .ok (.invokestatic 81, 3) := by decide +kernel
theorem dX7_becomes_145 : decode cX7_becomes 145 = .ok (.aload_n 1, 1) := by decide +kernel
theorem dX7_becomes_146 : decode cX7_becomes 146 = .ok (.getfield 46, 3) := by decide +kernel
theorem dX7_becomes_149 : decode cX7_becomes 149 = .ok (.iconst 0, 1) := by decide +kernel
theorem dX7_becomes_150 : decode cX7_becomes 150 = .ok (.aload_n 0, 1) := by decide +kernel
theorem dX7_becomes_151 : decode cX7_becomes 151 = .ok (.getfield 46, 3) := by decide +kernel
theorem dX7_becomes_154 : decode cX7_becomes 154 = .ok (.iconst 0, 1) := by decide +kernel
theorem dX7_becomes_155 : decode cX7_becomes 155 = .ok (.bipush 12, 2) := by decide +kernel
theorem dX7_becomes_157 : decode cX7_becomes 157 = .ok (.invokestatic 81, 3) := by decide +kernel
theorem dX7_becomes_160 : decode cX7_becomes 160 = .ok (.aload_n 1, 1) := by decide +kernel
theorem dX7_becomes_161 : decode cX7_becomes 161 = .ok (.getfield 49, 3) := by decide +kernel
theorem dX7_becomes_164 : decode cX7_becomes 164 = .ok (.iconst 0, 1) := by decide +kernel
theorem dX7_becomes_165 : decode cX7_becomes 165 = .ok (.aload_n 0, 1) := by decide +kernel
theorem dX7_becomes_166 : decode cX7_becomes 166 = .ok (.getfield 49, 3) := by decide +kernel
theorem dX7_becomes_169 : decode cX7_becomes 169 = .ok (.iconst 0, 1) := by decide +kernel
theorem dX7_becomes_170 : decode cX7_becomes 170 = .ok (.bipush 12, 2) := by decide +kernel
theorem dX7_becomes_172 : decode cX7_becomes 172 = .ok (.invokestatic 81, 3) := by decide +kernel
theorem dX7_becomes_175 : decode cX7_becomes 175 = .ok (.aload_n 0, 1) := by decide +kernel
theorem dX7_becomes_176 : decode cX7_becomes 176 = .ok (.getfield 55, 3) := by decide +kernel
theorem dX7_becomes_179 : decode cX7_becomes 179 = .ok (.aload_n 1, 1) := by decide +kernel
theorem dX7_becomes_180 : decode cX7_becomes 180 = .ok (.getfield 55, 3) := by decide +kernel
theorem dX7_becomes_183 : decode cX7_becomes 183 = .ok (.invokevirtual 87, 3) := by decide +kernel
theorem dX7_becomes_186 : decode cX7_becomes 186 = .ok (.return_, 1) := by decide +kernel
def wq_c_X7_becomes : List Cond := Cond.code yX7_becomes cX7_becomes 2 none :: (([Cond.fieldLink RX7 59 "CrowToll$Road" "birds" "I", Cond.fieldLink RX7 63 "CrowToll$Road" "posts" "I", Cond.fieldLink RX7 66 "CrowToll$Road" "carts" "I", Cond.fieldLink RX7 69 "CrowToll$Road" "maybe" "I", Cond.fieldLink RX7 15 "CrowToll$Road" "counts" "[I", Cond.methodLink RX7 81 arraycopyName, Cond.native arraycopyName, Cond.static arraycopyName, Cond.initialized "java/lang/System", Cond.fieldLink RX7 19 "CrowToll$Road" "gap" "[I", Cond.fieldLink RX7 22 "CrowToll$Road" "takes" "[I", Cond.fieldLink RX7 25 "CrowToll$Road" "seatOf" "[I", Cond.fieldLink RX7 31 "CrowToll$Road" "at" "[I", Cond.fieldLink RX7 34 "CrowToll$Road" "toll" "[I", Cond.fieldLink RX7 37 "CrowToll$Road" "seat" "[I", Cond.fieldLink RX7 40 "CrowToll$Road" "seated" "[I", Cond.fieldLink RX7 46 "CrowToll$Road" "minute" "[I", Cond.fieldLink RX7 49 "CrowToll$Road" "sacks" "[I", Cond.fieldLink RX7 55 "CrowToll$Road" "law" "LCrowToll$Law;", Cond.methodLink RX7 87 yX4_becomes, Cond.instanceMethod yX4_becomes, Cond.selects RX4 yX4_becomes yX4_becomes, Cond.initialized RX4, Cond.code yX4_becomes cX4_becomes 2 none, Cond.fieldLink RX4 18 "CrowToll$Law" "steps" "I", Cond.fieldLink RX4 22 "CrowToll$Law" "units" "I", Cond.fieldLink RX4 25 "CrowToll$Law" "isTold" "Z", Cond.fieldLink RX4 11 "CrowToll$Law" "step" "[I", Cond.methodLink RX4 29 arraycopyName] : List Cond) ++ wsX40 ++ wsX70)
set_option maxRecDepth 20000 in
theorem gr_c_X7_becomes_c_X4_becomes : GoodIn wq_c_X7_becomes wq_c_X4_becomes := List.forall_mem_cons.mpr ⟨⟨(List.mem_of_getElem? (i := 24) rfl), good_of_word rfl⟩, List.forall_mem_append.mpr ⟨List.forall_mem_cons.mpr ⟨⟨(List.mem_of_getElem? (i := 25) rfl), good_of_word rfl⟩, List.forall_mem_cons.mpr ⟨⟨(List.mem_of_getElem? (i := 26) rfl), good_of_word rfl⟩, List.forall_mem_cons.mpr ⟨⟨(List.mem_of_getElem? (i := 27) rfl), good_of_word rfl⟩, List.forall_mem_cons.mpr ⟨⟨(List.mem_of_getElem? (i := 28) rfl), good_of_word rfl⟩, List.forall_mem_cons.mpr ⟨⟨(List.mem_of_getElem? (i := 29) rfl), good_of_word rfl⟩, List.forall_mem_cons.mpr ⟨⟨(List.mem_of_getElem? (i := 7) rfl), good_of_word rfl⟩, List.forall_mem_cons.mpr ⟨⟨(List.mem_of_getElem? (i := 8) rfl), good_of_word rfl⟩, List.forall_mem_cons.mpr ⟨⟨(List.mem_of_getElem? (i := 9) rfl), good_of_word rfl⟩, (fun _ h => absurd h List.not_mem_nil)⟩⟩⟩⟩⟩⟩⟩⟩, fun w h => ⟨(fun w h => List.mem_cons_of_mem _ (List.mem_append_left _ (List.mem_append_right _ h))) w h, good_of_word (List.all_eq_true.mp gw_X4 w h)⟩⟩⟩
set_option maxRecDepth 20000 in
theorem gq_c_X7_becomes_c_X4_becomes_87 : GoodIn wq_c_X7_becomes (wsV RX7 87 RX4 yX4_becomes wq_c_X4_becomes) := goodIn_app (List.forall_mem_cons.mpr ⟨⟨(List.mem_of_getElem? (i := 20) rfl), good_of_word rfl⟩, List.forall_mem_cons.mpr ⟨⟨(List.mem_of_getElem? (i := 21) rfl), good_of_word rfl⟩, List.forall_mem_cons.mpr ⟨⟨(List.mem_of_getElem? (i := 22) rfl), good_of_word rfl⟩, List.forall_mem_cons.mpr ⟨⟨(List.mem_of_getElem? (i := 23) rfl), good_of_word rfl⟩, (fun _ h => absurd h List.not_mem_nil)⟩⟩⟩⟩) gr_c_X7_becomes_c_X4_becomes
set_option maxHeartbeats 8000000 in
set_option maxRecDepth 100000 in
theorem c_X7_becomes (l : Launch) (D : va_G) (cy : Nat → ClassId) (ad : Nat → Nat) (g : Nat → va_E) {f0 : List Value} {f1 : List Value} {c2 : Nat → Int32} {c3 : Nat → Int32} {c4 : Nat → Int32} {c5 : Nat → Int32} {c6 : Nat → Int32} {c7 : Nat → Int32} {c8 : Nat → Int32} {c9 : Nat → Int32} {c10 : Nat → Int32} {c11 : Nat → Int32} {c12 : Nat → Int32} {c13 : Nat → Int32} {c14 : Nat → Int32} {c15 : Nat → Int32} {c16 : Nat → Int32} {c17 : Nat → Int32} {c18 : Nat → Int32} {c19 : Nat → Int32} {c20 : Nat → Int32} {c21 : Nat → Int32} {f22 : List Value} {c23 : Nat → Int32} {f24 : List Value} {c25 : Nat → Int32} (o0 : g 0 = .inr (7, f0)) (f0_1 : f0[1]? = some (.ref (ad 3))) (f0_2 : f0[2]? = some (.ref (ad 5))) (f0_3 : f0[3]? = some (.ref (ad 7))) (f0_4 : f0[4]? = some (.ref (ad 9))) (f0_5 : f0[5]? = some (.int 0)) (f0_7 : f0[7]? = some (.ref (ad 11))) (f0_8 : f0[8]? = some (.ref (ad 13))) (f0_9 : f0[9]? = some (.ref (ad 15))) (f0_10 : f0[10]? = some (.ref (ad 17))) (f0_11 : f0[11]? = some (.int 0)) (f0_13 : f0[13]? = some (.ref (ad 19))) (f0_14 : f0[14]? = some (.ref (ad 21))) (f0_15 : f0[15]? = some (.int 0)) (f0_16 : f0[16]? = some (.int 0)) (f0_17 : f0[17]? = some (.ref (ad 22))) (o1 : g 1 = .inr (7, f1)) (f1_1 : f1[1]? = some (.ref (ad 2))) (f1_2 : f1[2]? = some (.ref (ad 4))) (f1_3 : f1[3]? = some (.ref (ad 6))) (f1_4 : f1[4]? = some (.ref (ad 8))) (f1_5 : f1[5]? = some (.int 0)) (f1_7 : f1[7]? = some (.ref (ad 10))) (f1_8 : f1[8]? = some (.ref (ad 12))) (f1_9 : f1[9]? = some (.ref (ad 14))) (f1_10 : f1[10]? = some (.ref (ad 16))) (f1_11 : f1[11]? = some (.int 0)) (f1_13 : f1[13]? = some (.ref (ad 18))) (f1_14 : f1[14]? = some (.ref (ad 20))) (f1_15 : f1[15]? = some (.int 0)) (f1_16 : f1[16]? = some (.int 0)) (f1_17 : f1[17]? = some (.ref (ad 24))) (a2 : g 2 = .inl (cy 0, 5, .inl c2)) (a3 : g 3 = .inl (cy 0, 5, .inl c3)) (a4 : g 4 = .inl (cy 0, 5, .inl c4)) (a5 : g 5 = .inl (cy 0, 5, .inl c5)) (a6 : g 6 = .inl (cy 0, 5, .inl c6)) (a7 : g 7 = .inl (cy 0, 5, .inl c7)) (a8 : g 8 = .inl (cy 0, 5, .inl c8)) (a9 : g 9 = .inl (cy 0, 5, .inl c9)) (a10 : g 10 = .inl (cy 0, 4, .inl c10)) (a11 : g 11 = .inl (cy 0, 4, .inl c11)) (a12 : g 12 = .inl (cy 0, 4, .inl c12)) (a13 : g 13 = .inl (cy 0, 4, .inl c13)) (a14 : g 14 = .inl (cy 0, 20, .inl c14)) (a15 : g 15 = .inl (cy 0, 20, .inl c15)) (a16 : g 16 = .inl (cy 0, 4, .inl c16)) (a17 : g 17 = .inl (cy 0, 4, .inl c17)) (a18 : g 18 = .inl (cy 0, 12, .inl c18)) (a19 : g 19 = .inl (cy 0, 12, .inl c19)) (a20 : g 20 = .inl (cy 0, 12, .inl c20)) (a21 : g 21 = .inl (cy 0, 12, .inl c21)) (o22 : g 22 = .inr (4, f22)) (f22_0 : f22[0]? = some (.ref (ad 23))) (f22_1 : f22[1]? = some (.int 0)) (f22_2 : f22[2]? = some (.int 0)) (f22_3 : f22[3]? = some (.int 0)) (a23 : g 23 = .inl (cy 0, 300, .inl c23)) (o24 : g 24 = .inr (4, f24)) (f24_0 : f24[0]? = some (.ref (ad 25))) (f24_1 : f24[1]? = some (.int 0)) (f24_2 : f24[2]? = some (.int 0)) (f24_3 : f24[3]? = some (.int 0)) (a25 : g 25 = .inl (cy 0, 300, .inl c25)) : cMv l yX7_becomes wq_c_X7_becomes { frames := 2, cells := 0, slots := 0, locals := 81 } 26 0 0 0 D cy ad g [.ref (ad 0), .ref (ad 1)] (fun nw lu => ∃ (c3_43_1 : Nat → Int32) (c5_57_2 : Nat → Int32) (c7_71_3 : Nat → Int32) (c9_85_4 : Nat → Int32) (c11_99_5 : Nat → Int32) (c13_113_6 : Nat → Int32) (c15_128_7 : Nat → Int32) (c17_142_8 : Nat → Int32) (c19_157_9 : Nat → Int32) (c21_172_10 : Nat → Int32) (c3_183_14 : Nat → Int32), lu = [(0, .inr (7, ((((f0.set 5 (.int 0)).set 11 (.int 0)).set 16 (.int 0)).set 15 (.int 0)))), (3, .inl (cy 0, 5, .inl c3_43_1)), (5, .inl (cy 0, 5, .inl c5_57_2)), (7, .inl (cy 0, 5, .inl c7_71_3)), (9, .inl (cy 0, 5, .inl c9_85_4)), (11, .inl (cy 0, 4, .inl c11_99_5)), (13, .inl (cy 0, 4, .inl c13_113_6)), (15, .inl (cy 0, 20, .inl c15_128_7)), (17, .inl (cy 0, 4, .inl c17_142_8)), (19, .inl (cy 0, 12, .inl c19_157_9)), (21, .inl (cy 0, 12, .inl c21_172_10)), (23, .inl (cy 0, 300, .inl c3_183_14)), (22, .inr (4, (((f22.set 1 (.int 0)).set 2 (.int 0)).set 3 (.int 0))))]) := by
  refine cM_of (Qc := fun A => cQv (fun nw lu => ∃ (c3_43_1 : Nat → Int32) (c5_57_2 : Nat → Int32) (c7_71_3 : Nat → Int32) (c9_85_4 : Nat → Int32) (c11_99_5 : Nat → Int32) (c13_113_6 : Nat → Int32) (c15_128_7 : Nat → Int32) (c17_142_8 : Nat → Int32) (c19_157_9 : Nat → Int32) (c21_172_10 : Nat → Int32) (c3_183_14 : Nat → Int32), lu = [(0, .inr (7, ((((f0.set 5 (.int 0)).set 11 (.int 0)).set 16 (.int 0)).set 15 (.int 0)))), (3, .inl (cy 0, 5, .inl c3_43_1)), (5, .inl (cy 0, 5, .inl c5_57_2)), (7, .inl (cy 0, 5, .inl c7_71_3)), (9, .inl (cy 0, 5, .inl c9_85_4)), (11, .inl (cy 0, 4, .inl c11_99_5)), (13, .inl (cy 0, 4, .inl c13_113_6)), (15, .inl (cy 0, 20, .inl c15_128_7)), (17, .inl (cy 0, 4, .inl c17_142_8)), (19, .inl (cy 0, 12, .inl c19_157_9)), (21, .inl (cy 0, 12, .inl c21_172_10)), (23, .inl (cy 0, 300, .inl c3_183_14)), (22, .inr (4, (((f22.set 1 (.int 0)).set 2 (.int 0)).set 3 (.int 0))))]) D 26 0 ad g A) (cc := cX7_becomes) (maxL := 2) (ret := none) (by decide) rfl (Nat.le_of_ble_eq_true rfl) ?_
  intro p e s m below meth c A hC hr hlk hnm hO ls hl
  have hC : CallFix p m c cX7_becomes 2 s [.ref (ad 0), .ref (ad 1)].toArray wq_c_X7_becomes RX7 := hC
  obtain ⟨hx, hb, hml, hown, hts⟩ := id hC
  have hl : lv_has ls 2 [(0, .ref (ad 0)), (1, .ref (ad 1))] := hl
  have i_X4 : ∀ w ∈ wsX40, w ∈ wq_c_X7_becomes := fun w h => List.mem_cons_of_mem _ (List.mem_append_left _ (List.mem_append_right _ h))
  have i_X7 : ∀ w ∈ wsX70, w ∈ wq_c_X7_becomes := fun w h => List.mem_cons_of_mem _ (List.mem_append_right _ h)
  refine lv_aload_n hx hb dX7_becomes_0 rfl (lv_at hl 0 rfl) ?_
  refine lv_aload_n hx hb dX7_becomes_1 rfl (lv_at hl 1 rfl) ?_
  refine cg_get hC hO 1 (by decide) o1 rfl i_X7 5 (by decide) (List.mem_of_getElem? (i := 1) rfl) f1_5 dX7_becomes_2 ?_
  refine cg_put hC hO 0 (by decide) o0 rfl i_X7 tyX7_ok nmX7 5 (by decide) (List.mem_of_getElem? (i := 1) rfl) rfl rfl rfl (fs_lt f0_5) dX7_becomes_5 (fun H locs hO => ?_)
  have hO : cO D cy A s.heap s 26 ad (cup [(0, .inr (7, (f0.set 5 (.int 0))))] g) _ _ := hO
  refine lv_aload_n hx hb dX7_becomes_8 rfl (lv_at hl 0 rfl) ?_
  refine lv_aload_n hx hb dX7_becomes_9 rfl (lv_at hl 1 rfl) ?_
  refine cg_get hC hO 1 (by decide) o1 rfl i_X7 11 (by decide) (List.mem_of_getElem? (i := 2) rfl) f1_11 dX7_becomes_10 ?_
  refine cg_put hC hO 0 (by decide) rfl rfl i_X7 tyX7_ok nmX7 11 (by decide) (List.mem_of_getElem? (i := 2) rfl) rfl rfl rfl (fs_lt (fs_ne (by decide) f0_11)) dX7_becomes_13 (fun H locs hO => ?_)
  have hO : cO D cy A s.heap s 26 ad (cup [(0, .inr (7, ((f0.set 5 (.int 0)).set 11 (.int 0))))] g) _ _ := hO
  refine lv_aload_n hx hb dX7_becomes_16 rfl (lv_at hl 0 rfl) ?_
  refine lv_aload_n hx hb dX7_becomes_17 rfl (lv_at hl 1 rfl) ?_
  refine cg_get hC hO 1 (by decide) o1 rfl i_X7 16 (by decide) (List.mem_of_getElem? (i := 3) rfl) f1_16 dX7_becomes_18 ?_
  refine cg_put hC hO 0 (by decide) rfl rfl i_X7 tyX7_ok nmX7 16 (by decide) (List.mem_of_getElem? (i := 3) rfl) rfl rfl rfl (fs_lt (fs_ne (by decide) (fs_ne (by decide) f0_16))) dX7_becomes_21 (fun H locs hO => ?_)
  have hO : cO D cy A s.heap s 26 ad (cup [(0, .inr (7, (((f0.set 5 (.int 0)).set 11 (.int 0)).set 16 (.int 0))))] g) _ _ := hO
  refine lv_aload_n hx hb dX7_becomes_24 rfl (lv_at hl 0 rfl) ?_
  refine lv_aload_n hx hb dX7_becomes_25 rfl (lv_at hl 1 rfl) ?_
  refine cg_get hC hO 1 (by decide) o1 rfl i_X7 15 (by decide) (List.mem_of_getElem? (i := 4) rfl) f1_15 dX7_becomes_26 ?_
  refine cg_put hC hO 0 (by decide) rfl rfl i_X7 tyX7_ok nmX7 15 (by decide) (List.mem_of_getElem? (i := 4) rfl) rfl rfl rfl (fs_lt (fs_ne (by decide) (fs_ne (by decide) (fs_ne (by decide) f0_15)))) dX7_becomes_29 (fun H locs hO => ?_)
  have hO : cO D cy A s.heap s 26 ad (cup [(0, .inr (7, ((((f0.set 5 (.int 0)).set 11 (.int 0)).set 16 (.int 0)).set 15 (.int 0))))] g) _ _ := hO
  refine lv_aload_n hx hb dX7_becomes_32 rfl (lv_at hl 1 rfl) ?_
  refine cg_get hC hO 1 (by decide) o1 rfl i_X7 1 (by decide) (List.mem_of_getElem? (i := 5) rfl) f1_1 dX7_becomes_33 ?_
  refine lv_iconst (v := 0) hx hb dX7_becomes_36 (by decide) ?_
  refine lv_aload_n hx hb dX7_becomes_37 rfl (lv_at hl 0 rfl) ?_
  refine cg_get hC hO 0 (by decide) rfl rfl i_X7 1 (by decide) (List.mem_of_getElem? (i := 5) rfl) (fs_ne (by decide) (fs_ne (by decide) (fs_ne (by decide) (fs_ne (by decide) f0_1)))) dX7_becomes_38 ?_
  refine lv_iconst (v := 0) hx hb dX7_becomes_41 (by decide) ?_
  refine lv_iconst (v := 5) hx hb dX7_becomes_42 (by decide) ?_
  refine cg_copy hC hl.1 hO (List.mem_of_getElem? (i := 6) rfl) (List.mem_of_getElem? (i := 7) rfl) (List.mem_of_getElem? (i := 8) rfl) (List.mem_of_getElem? (i := 9) rfl) 2 3 (by decide) (by decide) a2 a3 (by decide) (by decide) (by decide) (by decide) (by decide) (Nat.le_of_ble_eq_true rfl) (Nat.le_of_ble_eq_true rfl) dX7_becomes_43 (fun H locs hO => ?_)
  have hO : cO D cy A s.heap s 26 ad (cup [(0, .inr (7, ((((f0.set 5 (.int 0)).set 11 (.int 0)).set 16 (.int 0)).set 15 (.int 0)))), (3, .inl (cy 0, 5, .inl (va_cpy c2 c3 (0 : Int32).toNatClampNeg (0 : Int32).toNatClampNeg (5 : Int32).toNatClampNeg)))] g) _ _ := hO
  obtain ⟨c3_43_1, ec3_43_1⟩ : ∃ z, z = (va_cpy c2 c3 (0 : Int32).toNatClampNeg (0 : Int32).toNatClampNeg (5 : Int32).toNatClampNeg) := ⟨_, rfl⟩
  rw [← ec3_43_1] at hO
  have hO : cO D cy A s.heap s 26 ad (cup [(0, .inr (7, ((((f0.set 5 (.int 0)).set 11 (.int 0)).set 16 (.int 0)).set 15 (.int 0)))), (3, .inl (cy 0, 5, .inl c3_43_1))] g) _ _ := hO
  refine lv_aload_n hx hb dX7_becomes_46 rfl (lv_at hl 1 rfl) ?_
  refine cg_get hC hO 1 (by decide) o1 rfl i_X7 2 (by decide) (List.mem_of_getElem? (i := 10) rfl) f1_2 dX7_becomes_47 ?_
  refine lv_iconst (v := 0) hx hb dX7_becomes_50 (by decide) ?_
  refine lv_aload_n hx hb dX7_becomes_51 rfl (lv_at hl 0 rfl) ?_
  refine cg_get hC hO 0 (by decide) rfl rfl i_X7 2 (by decide) (List.mem_of_getElem? (i := 10) rfl) (fs_ne (by decide) (fs_ne (by decide) (fs_ne (by decide) (fs_ne (by decide) f0_2)))) dX7_becomes_52 ?_
  refine lv_iconst (v := 0) hx hb dX7_becomes_55 (by decide) ?_
  refine lv_iconst (v := 5) hx hb dX7_becomes_56 (by decide) ?_
  refine cg_copy hC hl.1 hO (List.mem_of_getElem? (i := 6) rfl) (List.mem_of_getElem? (i := 7) rfl) (List.mem_of_getElem? (i := 8) rfl) (List.mem_of_getElem? (i := 9) rfl) 4 5 (by decide) (by decide) a4 a5 (by decide) (by decide) (by decide) (by decide) (by decide) (Nat.le_of_ble_eq_true rfl) (Nat.le_of_ble_eq_true rfl) dX7_becomes_57 (fun H locs hO => ?_)
  have hO : cO D cy A s.heap s 26 ad (cup [(0, .inr (7, ((((f0.set 5 (.int 0)).set 11 (.int 0)).set 16 (.int 0)).set 15 (.int 0)))), (3, .inl (cy 0, 5, .inl c3_43_1)), (5, .inl (cy 0, 5, .inl (va_cpy c4 c5 (0 : Int32).toNatClampNeg (0 : Int32).toNatClampNeg (5 : Int32).toNatClampNeg)))] g) _ _ := hO
  obtain ⟨c5_57_2, ec5_57_2⟩ : ∃ z, z = (va_cpy c4 c5 (0 : Int32).toNatClampNeg (0 : Int32).toNatClampNeg (5 : Int32).toNatClampNeg) := ⟨_, rfl⟩
  rw [← ec5_57_2] at hO
  have hO : cO D cy A s.heap s 26 ad (cup [(0, .inr (7, ((((f0.set 5 (.int 0)).set 11 (.int 0)).set 16 (.int 0)).set 15 (.int 0)))), (3, .inl (cy 0, 5, .inl c3_43_1)), (5, .inl (cy 0, 5, .inl c5_57_2))] g) _ _ := hO
  refine lv_aload_n hx hb dX7_becomes_60 rfl (lv_at hl 1 rfl) ?_
  refine cg_get hC hO 1 (by decide) o1 rfl i_X7 3 (by decide) (List.mem_of_getElem? (i := 11) rfl) f1_3 dX7_becomes_61 ?_
  refine lv_iconst (v := 0) hx hb dX7_becomes_64 (by decide) ?_
  refine lv_aload_n hx hb dX7_becomes_65 rfl (lv_at hl 0 rfl) ?_
  refine cg_get hC hO 0 (by decide) rfl rfl i_X7 3 (by decide) (List.mem_of_getElem? (i := 11) rfl) (fs_ne (by decide) (fs_ne (by decide) (fs_ne (by decide) (fs_ne (by decide) f0_3)))) dX7_becomes_66 ?_
  refine lv_iconst (v := 0) hx hb dX7_becomes_69 (by decide) ?_
  refine lv_iconst (v := 5) hx hb dX7_becomes_70 (by decide) ?_
  refine cg_copy hC hl.1 hO (List.mem_of_getElem? (i := 6) rfl) (List.mem_of_getElem? (i := 7) rfl) (List.mem_of_getElem? (i := 8) rfl) (List.mem_of_getElem? (i := 9) rfl) 6 7 (by decide) (by decide) a6 a7 (by decide) (by decide) (by decide) (by decide) (by decide) (Nat.le_of_ble_eq_true rfl) (Nat.le_of_ble_eq_true rfl) dX7_becomes_71 (fun H locs hO => ?_)
  have hO : cO D cy A s.heap s 26 ad (cup [(0, .inr (7, ((((f0.set 5 (.int 0)).set 11 (.int 0)).set 16 (.int 0)).set 15 (.int 0)))), (3, .inl (cy 0, 5, .inl c3_43_1)), (5, .inl (cy 0, 5, .inl c5_57_2)), (7, .inl (cy 0, 5, .inl (va_cpy c6 c7 (0 : Int32).toNatClampNeg (0 : Int32).toNatClampNeg (5 : Int32).toNatClampNeg)))] g) _ _ := hO
  obtain ⟨c7_71_3, ec7_71_3⟩ : ∃ z, z = (va_cpy c6 c7 (0 : Int32).toNatClampNeg (0 : Int32).toNatClampNeg (5 : Int32).toNatClampNeg) := ⟨_, rfl⟩
  rw [← ec7_71_3] at hO
  have hO : cO D cy A s.heap s 26 ad (cup [(0, .inr (7, ((((f0.set 5 (.int 0)).set 11 (.int 0)).set 16 (.int 0)).set 15 (.int 0)))), (3, .inl (cy 0, 5, .inl c3_43_1)), (5, .inl (cy 0, 5, .inl c5_57_2)), (7, .inl (cy 0, 5, .inl c7_71_3))] g) _ _ := hO
  refine lv_aload_n hx hb dX7_becomes_74 rfl (lv_at hl 1 rfl) ?_
  refine cg_get hC hO 1 (by decide) o1 rfl i_X7 4 (by decide) (List.mem_of_getElem? (i := 12) rfl) f1_4 dX7_becomes_75 ?_
  refine lv_iconst (v := 0) hx hb dX7_becomes_78 (by decide) ?_
  refine lv_aload_n hx hb dX7_becomes_79 rfl (lv_at hl 0 rfl) ?_
  refine cg_get hC hO 0 (by decide) rfl rfl i_X7 4 (by decide) (List.mem_of_getElem? (i := 12) rfl) (fs_ne (by decide) (fs_ne (by decide) (fs_ne (by decide) (fs_ne (by decide) f0_4)))) dX7_becomes_80 ?_
  refine lv_iconst (v := 0) hx hb dX7_becomes_83 (by decide) ?_
  refine lv_iconst (v := 5) hx hb dX7_becomes_84 (by decide) ?_
  refine cg_copy hC hl.1 hO (List.mem_of_getElem? (i := 6) rfl) (List.mem_of_getElem? (i := 7) rfl) (List.mem_of_getElem? (i := 8) rfl) (List.mem_of_getElem? (i := 9) rfl) 8 9 (by decide) (by decide) a8 a9 (by decide) (by decide) (by decide) (by decide) (by decide) (Nat.le_of_ble_eq_true rfl) (Nat.le_of_ble_eq_true rfl) dX7_becomes_85 (fun H locs hO => ?_)
  have hO : cO D cy A s.heap s 26 ad (cup [(0, .inr (7, ((((f0.set 5 (.int 0)).set 11 (.int 0)).set 16 (.int 0)).set 15 (.int 0)))), (3, .inl (cy 0, 5, .inl c3_43_1)), (5, .inl (cy 0, 5, .inl c5_57_2)), (7, .inl (cy 0, 5, .inl c7_71_3)), (9, .inl (cy 0, 5, .inl (va_cpy c8 c9 (0 : Int32).toNatClampNeg (0 : Int32).toNatClampNeg (5 : Int32).toNatClampNeg)))] g) _ _ := hO
  obtain ⟨c9_85_4, ec9_85_4⟩ : ∃ z, z = (va_cpy c8 c9 (0 : Int32).toNatClampNeg (0 : Int32).toNatClampNeg (5 : Int32).toNatClampNeg) := ⟨_, rfl⟩
  rw [← ec9_85_4] at hO
  have hO : cO D cy A s.heap s 26 ad (cup [(0, .inr (7, ((((f0.set 5 (.int 0)).set 11 (.int 0)).set 16 (.int 0)).set 15 (.int 0)))), (3, .inl (cy 0, 5, .inl c3_43_1)), (5, .inl (cy 0, 5, .inl c5_57_2)), (7, .inl (cy 0, 5, .inl c7_71_3)), (9, .inl (cy 0, 5, .inl c9_85_4))] g) _ _ := hO
  refine lv_aload_n hx hb dX7_becomes_88 rfl (lv_at hl 1 rfl) ?_
  refine cg_get hC hO 1 (by decide) o1 rfl i_X7 7 (by decide) (List.mem_of_getElem? (i := 13) rfl) f1_7 dX7_becomes_89 ?_
  refine lv_iconst (v := 0) hx hb dX7_becomes_92 (by decide) ?_
  refine lv_aload_n hx hb dX7_becomes_93 rfl (lv_at hl 0 rfl) ?_
  refine cg_get hC hO 0 (by decide) rfl rfl i_X7 7 (by decide) (List.mem_of_getElem? (i := 13) rfl) (fs_ne (by decide) (fs_ne (by decide) (fs_ne (by decide) (fs_ne (by decide) f0_7)))) dX7_becomes_94 ?_
  refine lv_iconst (v := 0) hx hb dX7_becomes_97 (by decide) ?_
  refine lv_iconst (v := 4) hx hb dX7_becomes_98 (by decide) ?_
  refine cg_copy hC hl.1 hO (List.mem_of_getElem? (i := 6) rfl) (List.mem_of_getElem? (i := 7) rfl) (List.mem_of_getElem? (i := 8) rfl) (List.mem_of_getElem? (i := 9) rfl) 10 11 (by decide) (by decide) a10 a11 (by decide) (by decide) (by decide) (by decide) (by decide) (Nat.le_of_ble_eq_true rfl) (Nat.le_of_ble_eq_true rfl) dX7_becomes_99 (fun H locs hO => ?_)
  have hO : cO D cy A s.heap s 26 ad (cup [(0, .inr (7, ((((f0.set 5 (.int 0)).set 11 (.int 0)).set 16 (.int 0)).set 15 (.int 0)))), (3, .inl (cy 0, 5, .inl c3_43_1)), (5, .inl (cy 0, 5, .inl c5_57_2)), (7, .inl (cy 0, 5, .inl c7_71_3)), (9, .inl (cy 0, 5, .inl c9_85_4)), (11, .inl (cy 0, 4, .inl (va_cpy c10 c11 (0 : Int32).toNatClampNeg (0 : Int32).toNatClampNeg (4 : Int32).toNatClampNeg)))] g) _ _ := hO
  obtain ⟨c11_99_5, ec11_99_5⟩ : ∃ z, z = (va_cpy c10 c11 (0 : Int32).toNatClampNeg (0 : Int32).toNatClampNeg (4 : Int32).toNatClampNeg) := ⟨_, rfl⟩
  rw [← ec11_99_5] at hO
  have hO : cO D cy A s.heap s 26 ad (cup [(0, .inr (7, ((((f0.set 5 (.int 0)).set 11 (.int 0)).set 16 (.int 0)).set 15 (.int 0)))), (3, .inl (cy 0, 5, .inl c3_43_1)), (5, .inl (cy 0, 5, .inl c5_57_2)), (7, .inl (cy 0, 5, .inl c7_71_3)), (9, .inl (cy 0, 5, .inl c9_85_4)), (11, .inl (cy 0, 4, .inl c11_99_5))] g) _ _ := hO
  refine lv_aload_n hx hb dX7_becomes_102 rfl (lv_at hl 1 rfl) ?_
  refine cg_get hC hO 1 (by decide) o1 rfl i_X7 8 (by decide) (List.mem_of_getElem? (i := 14) rfl) f1_8 dX7_becomes_103 ?_
  refine lv_iconst (v := 0) hx hb dX7_becomes_106 (by decide) ?_
  refine lv_aload_n hx hb dX7_becomes_107 rfl (lv_at hl 0 rfl) ?_
  refine cg_get hC hO 0 (by decide) rfl rfl i_X7 8 (by decide) (List.mem_of_getElem? (i := 14) rfl) (fs_ne (by decide) (fs_ne (by decide) (fs_ne (by decide) (fs_ne (by decide) f0_8)))) dX7_becomes_108 ?_
  refine lv_iconst (v := 0) hx hb dX7_becomes_111 (by decide) ?_
  refine lv_iconst (v := 4) hx hb dX7_becomes_112 (by decide) ?_
  refine cg_copy hC hl.1 hO (List.mem_of_getElem? (i := 6) rfl) (List.mem_of_getElem? (i := 7) rfl) (List.mem_of_getElem? (i := 8) rfl) (List.mem_of_getElem? (i := 9) rfl) 12 13 (by decide) (by decide) a12 a13 (by decide) (by decide) (by decide) (by decide) (by decide) (Nat.le_of_ble_eq_true rfl) (Nat.le_of_ble_eq_true rfl) dX7_becomes_113 (fun H locs hO => ?_)
  have hO : cO D cy A s.heap s 26 ad (cup [(0, .inr (7, ((((f0.set 5 (.int 0)).set 11 (.int 0)).set 16 (.int 0)).set 15 (.int 0)))), (3, .inl (cy 0, 5, .inl c3_43_1)), (5, .inl (cy 0, 5, .inl c5_57_2)), (7, .inl (cy 0, 5, .inl c7_71_3)), (9, .inl (cy 0, 5, .inl c9_85_4)), (11, .inl (cy 0, 4, .inl c11_99_5)), (13, .inl (cy 0, 4, .inl (va_cpy c12 c13 (0 : Int32).toNatClampNeg (0 : Int32).toNatClampNeg (4 : Int32).toNatClampNeg)))] g) _ _ := hO
  obtain ⟨c13_113_6, ec13_113_6⟩ : ∃ z, z = (va_cpy c12 c13 (0 : Int32).toNatClampNeg (0 : Int32).toNatClampNeg (4 : Int32).toNatClampNeg) := ⟨_, rfl⟩
  rw [← ec13_113_6] at hO
  have hO : cO D cy A s.heap s 26 ad (cup [(0, .inr (7, ((((f0.set 5 (.int 0)).set 11 (.int 0)).set 16 (.int 0)).set 15 (.int 0)))), (3, .inl (cy 0, 5, .inl c3_43_1)), (5, .inl (cy 0, 5, .inl c5_57_2)), (7, .inl (cy 0, 5, .inl c7_71_3)), (9, .inl (cy 0, 5, .inl c9_85_4)), (11, .inl (cy 0, 4, .inl c11_99_5)), (13, .inl (cy 0, 4, .inl c13_113_6))] g) _ _ := hO
  refine lv_aload_n hx hb dX7_becomes_116 rfl (lv_at hl 1 rfl) ?_
  refine cg_get hC hO 1 (by decide) o1 rfl i_X7 9 (by decide) (List.mem_of_getElem? (i := 15) rfl) f1_9 dX7_becomes_117 ?_
  refine lv_iconst (v := 0) hx hb dX7_becomes_120 (by decide) ?_
  refine lv_aload_n hx hb dX7_becomes_121 rfl (lv_at hl 0 rfl) ?_
  refine cg_get hC hO 0 (by decide) rfl rfl i_X7 9 (by decide) (List.mem_of_getElem? (i := 15) rfl) (fs_ne (by decide) (fs_ne (by decide) (fs_ne (by decide) (fs_ne (by decide) f0_9)))) dX7_becomes_122 ?_
  refine lv_iconst (v := 0) hx hb dX7_becomes_125 (by decide) ?_
  refine lv_bipush (v := 20) hx hb dX7_becomes_126 (by decide) ?_
  refine cg_copy hC hl.1 hO (List.mem_of_getElem? (i := 6) rfl) (List.mem_of_getElem? (i := 7) rfl) (List.mem_of_getElem? (i := 8) rfl) (List.mem_of_getElem? (i := 9) rfl) 14 15 (by decide) (by decide) a14 a15 (by decide) (by decide) (by decide) (by decide) (by decide) (Nat.le_of_ble_eq_true rfl) (Nat.le_of_ble_eq_true rfl) dX7_becomes_128 (fun H locs hO => ?_)
  have hO : cO D cy A s.heap s 26 ad (cup [(0, .inr (7, ((((f0.set 5 (.int 0)).set 11 (.int 0)).set 16 (.int 0)).set 15 (.int 0)))), (3, .inl (cy 0, 5, .inl c3_43_1)), (5, .inl (cy 0, 5, .inl c5_57_2)), (7, .inl (cy 0, 5, .inl c7_71_3)), (9, .inl (cy 0, 5, .inl c9_85_4)), (11, .inl (cy 0, 4, .inl c11_99_5)), (13, .inl (cy 0, 4, .inl c13_113_6)), (15, .inl (cy 0, 20, .inl (va_cpy c14 c15 (0 : Int32).toNatClampNeg (0 : Int32).toNatClampNeg (20 : Int32).toNatClampNeg)))] g) _ _ := hO
  obtain ⟨c15_128_7, ec15_128_7⟩ : ∃ z, z = (va_cpy c14 c15 (0 : Int32).toNatClampNeg (0 : Int32).toNatClampNeg (20 : Int32).toNatClampNeg) := ⟨_, rfl⟩
  rw [← ec15_128_7] at hO
  have hO : cO D cy A s.heap s 26 ad (cup [(0, .inr (7, ((((f0.set 5 (.int 0)).set 11 (.int 0)).set 16 (.int 0)).set 15 (.int 0)))), (3, .inl (cy 0, 5, .inl c3_43_1)), (5, .inl (cy 0, 5, .inl c5_57_2)), (7, .inl (cy 0, 5, .inl c7_71_3)), (9, .inl (cy 0, 5, .inl c9_85_4)), (11, .inl (cy 0, 4, .inl c11_99_5)), (13, .inl (cy 0, 4, .inl c13_113_6)), (15, .inl (cy 0, 20, .inl c15_128_7))] g) _ _ := hO
  refine lv_aload_n hx hb dX7_becomes_131 rfl (lv_at hl 1 rfl) ?_
  refine cg_get hC hO 1 (by decide) o1 rfl i_X7 10 (by decide) (List.mem_of_getElem? (i := 16) rfl) f1_10 dX7_becomes_132 ?_
  refine lv_iconst (v := 0) hx hb dX7_becomes_135 (by decide) ?_
  refine lv_aload_n hx hb dX7_becomes_136 rfl (lv_at hl 0 rfl) ?_
  refine cg_get hC hO 0 (by decide) rfl rfl i_X7 10 (by decide) (List.mem_of_getElem? (i := 16) rfl) (fs_ne (by decide) (fs_ne (by decide) (fs_ne (by decide) (fs_ne (by decide) f0_10)))) dX7_becomes_137 ?_
  refine lv_iconst (v := 0) hx hb dX7_becomes_140 (by decide) ?_
  refine lv_iconst (v := 4) hx hb dX7_becomes_141 (by decide) ?_
  refine cg_copy hC hl.1 hO (List.mem_of_getElem? (i := 6) rfl) (List.mem_of_getElem? (i := 7) rfl) (List.mem_of_getElem? (i := 8) rfl) (List.mem_of_getElem? (i := 9) rfl) 16 17 (by decide) (by decide) a16 a17 (by decide) (by decide) (by decide) (by decide) (by decide) (Nat.le_of_ble_eq_true rfl) (Nat.le_of_ble_eq_true rfl) dX7_becomes_142 (fun H locs hO => ?_)
  have hO : cO D cy A s.heap s 26 ad (cup [(0, .inr (7, ((((f0.set 5 (.int 0)).set 11 (.int 0)).set 16 (.int 0)).set 15 (.int 0)))), (3, .inl (cy 0, 5, .inl c3_43_1)), (5, .inl (cy 0, 5, .inl c5_57_2)), (7, .inl (cy 0, 5, .inl c7_71_3)), (9, .inl (cy 0, 5, .inl c9_85_4)), (11, .inl (cy 0, 4, .inl c11_99_5)), (13, .inl (cy 0, 4, .inl c13_113_6)), (15, .inl (cy 0, 20, .inl c15_128_7)), (17, .inl (cy 0, 4, .inl (va_cpy c16 c17 (0 : Int32).toNatClampNeg (0 : Int32).toNatClampNeg (4 : Int32).toNatClampNeg)))] g) _ _ := hO
  obtain ⟨c17_142_8, ec17_142_8⟩ : ∃ z, z = (va_cpy c16 c17 (0 : Int32).toNatClampNeg (0 : Int32).toNatClampNeg (4 : Int32).toNatClampNeg) := ⟨_, rfl⟩
  rw [← ec17_142_8] at hO
  have hO : cO D cy A s.heap s 26 ad (cup [(0, .inr (7, ((((f0.set 5 (.int 0)).set 11 (.int 0)).set 16 (.int 0)).set 15 (.int 0)))), (3, .inl (cy 0, 5, .inl c3_43_1)), (5, .inl (cy 0, 5, .inl c5_57_2)), (7, .inl (cy 0, 5, .inl c7_71_3)), (9, .inl (cy 0, 5, .inl c9_85_4)), (11, .inl (cy 0, 4, .inl c11_99_5)), (13, .inl (cy 0, 4, .inl c13_113_6)), (15, .inl (cy 0, 20, .inl c15_128_7)), (17, .inl (cy 0, 4, .inl c17_142_8))] g) _ _ := hO
  refine lv_aload_n hx hb dX7_becomes_145 rfl (lv_at hl 1 rfl) ?_
  refine cg_get hC hO 1 (by decide) o1 rfl i_X7 13 (by decide) (List.mem_of_getElem? (i := 17) rfl) f1_13 dX7_becomes_146 ?_
  refine lv_iconst (v := 0) hx hb dX7_becomes_149 (by decide) ?_
  refine lv_aload_n hx hb dX7_becomes_150 rfl (lv_at hl 0 rfl) ?_
  refine cg_get hC hO 0 (by decide) rfl rfl i_X7 13 (by decide) (List.mem_of_getElem? (i := 17) rfl) (fs_ne (by decide) (fs_ne (by decide) (fs_ne (by decide) (fs_ne (by decide) f0_13)))) dX7_becomes_151 ?_
  refine lv_iconst (v := 0) hx hb dX7_becomes_154 (by decide) ?_
  refine lv_bipush (v := 12) hx hb dX7_becomes_155 (by decide) ?_
  refine cg_copy hC hl.1 hO (List.mem_of_getElem? (i := 6) rfl) (List.mem_of_getElem? (i := 7) rfl) (List.mem_of_getElem? (i := 8) rfl) (List.mem_of_getElem? (i := 9) rfl) 18 19 (by decide) (by decide) a18 a19 (by decide) (by decide) (by decide) (by decide) (by decide) (Nat.le_of_ble_eq_true rfl) (Nat.le_of_ble_eq_true rfl) dX7_becomes_157 (fun H locs hO => ?_)
  have hO : cO D cy A s.heap s 26 ad (cup [(0, .inr (7, ((((f0.set 5 (.int 0)).set 11 (.int 0)).set 16 (.int 0)).set 15 (.int 0)))), (3, .inl (cy 0, 5, .inl c3_43_1)), (5, .inl (cy 0, 5, .inl c5_57_2)), (7, .inl (cy 0, 5, .inl c7_71_3)), (9, .inl (cy 0, 5, .inl c9_85_4)), (11, .inl (cy 0, 4, .inl c11_99_5)), (13, .inl (cy 0, 4, .inl c13_113_6)), (15, .inl (cy 0, 20, .inl c15_128_7)), (17, .inl (cy 0, 4, .inl c17_142_8)), (19, .inl (cy 0, 12, .inl (va_cpy c18 c19 (0 : Int32).toNatClampNeg (0 : Int32).toNatClampNeg (12 : Int32).toNatClampNeg)))] g) _ _ := hO
  obtain ⟨c19_157_9, ec19_157_9⟩ : ∃ z, z = (va_cpy c18 c19 (0 : Int32).toNatClampNeg (0 : Int32).toNatClampNeg (12 : Int32).toNatClampNeg) := ⟨_, rfl⟩
  rw [← ec19_157_9] at hO
  have hO : cO D cy A s.heap s 26 ad (cup [(0, .inr (7, ((((f0.set 5 (.int 0)).set 11 (.int 0)).set 16 (.int 0)).set 15 (.int 0)))), (3, .inl (cy 0, 5, .inl c3_43_1)), (5, .inl (cy 0, 5, .inl c5_57_2)), (7, .inl (cy 0, 5, .inl c7_71_3)), (9, .inl (cy 0, 5, .inl c9_85_4)), (11, .inl (cy 0, 4, .inl c11_99_5)), (13, .inl (cy 0, 4, .inl c13_113_6)), (15, .inl (cy 0, 20, .inl c15_128_7)), (17, .inl (cy 0, 4, .inl c17_142_8)), (19, .inl (cy 0, 12, .inl c19_157_9))] g) _ _ := hO
  refine lv_aload_n hx hb dX7_becomes_160 rfl (lv_at hl 1 rfl) ?_
  refine cg_get hC hO 1 (by decide) o1 rfl i_X7 14 (by decide) (List.mem_of_getElem? (i := 18) rfl) f1_14 dX7_becomes_161 ?_
  refine lv_iconst (v := 0) hx hb dX7_becomes_164 (by decide) ?_
  refine lv_aload_n hx hb dX7_becomes_165 rfl (lv_at hl 0 rfl) ?_
  refine cg_get hC hO 0 (by decide) rfl rfl i_X7 14 (by decide) (List.mem_of_getElem? (i := 18) rfl) (fs_ne (by decide) (fs_ne (by decide) (fs_ne (by decide) (fs_ne (by decide) f0_14)))) dX7_becomes_166 ?_
  refine lv_iconst (v := 0) hx hb dX7_becomes_169 (by decide) ?_
  refine lv_bipush (v := 12) hx hb dX7_becomes_170 (by decide) ?_
  refine cg_copy hC hl.1 hO (List.mem_of_getElem? (i := 6) rfl) (List.mem_of_getElem? (i := 7) rfl) (List.mem_of_getElem? (i := 8) rfl) (List.mem_of_getElem? (i := 9) rfl) 20 21 (by decide) (by decide) a20 a21 (by decide) (by decide) (by decide) (by decide) (by decide) (Nat.le_of_ble_eq_true rfl) (Nat.le_of_ble_eq_true rfl) dX7_becomes_172 (fun H locs hO => ?_)
  have hO : cO D cy A s.heap s 26 ad (cup [(0, .inr (7, ((((f0.set 5 (.int 0)).set 11 (.int 0)).set 16 (.int 0)).set 15 (.int 0)))), (3, .inl (cy 0, 5, .inl c3_43_1)), (5, .inl (cy 0, 5, .inl c5_57_2)), (7, .inl (cy 0, 5, .inl c7_71_3)), (9, .inl (cy 0, 5, .inl c9_85_4)), (11, .inl (cy 0, 4, .inl c11_99_5)), (13, .inl (cy 0, 4, .inl c13_113_6)), (15, .inl (cy 0, 20, .inl c15_128_7)), (17, .inl (cy 0, 4, .inl c17_142_8)), (19, .inl (cy 0, 12, .inl c19_157_9)), (21, .inl (cy 0, 12, .inl (va_cpy c20 c21 (0 : Int32).toNatClampNeg (0 : Int32).toNatClampNeg (12 : Int32).toNatClampNeg)))] g) _ _ := hO
  obtain ⟨c21_172_10, ec21_172_10⟩ : ∃ z, z = (va_cpy c20 c21 (0 : Int32).toNatClampNeg (0 : Int32).toNatClampNeg (12 : Int32).toNatClampNeg) := ⟨_, rfl⟩
  rw [← ec21_172_10] at hO
  have hO : cO D cy A s.heap s 26 ad (cup [(0, .inr (7, ((((f0.set 5 (.int 0)).set 11 (.int 0)).set 16 (.int 0)).set 15 (.int 0)))), (3, .inl (cy 0, 5, .inl c3_43_1)), (5, .inl (cy 0, 5, .inl c5_57_2)), (7, .inl (cy 0, 5, .inl c7_71_3)), (9, .inl (cy 0, 5, .inl c9_85_4)), (11, .inl (cy 0, 4, .inl c11_99_5)), (13, .inl (cy 0, 4, .inl c13_113_6)), (15, .inl (cy 0, 20, .inl c15_128_7)), (17, .inl (cy 0, 4, .inl c17_142_8)), (19, .inl (cy 0, 12, .inl c19_157_9)), (21, .inl (cy 0, 12, .inl c21_172_10))] g) _ _ := hO
  refine lv_aload_n hx hb dX7_becomes_175 rfl (lv_at hl 0 rfl) ?_
  refine cg_get hC hO 0 (by decide) rfl rfl i_X7 17 (by decide) (List.mem_of_getElem? (i := 19) rfl) (fs_ne (by decide) (fs_ne (by decide) (fs_ne (by decide) (fs_ne (by decide) f0_17)))) dX7_becomes_176 ?_
  refine lv_aload_n hx hb dX7_becomes_179 rfl (lv_at hl 1 rfl) ?_
  refine cg_get hC hO 1 (by decide) o1 rfl i_X7 17 (by decide) (List.mem_of_getElem? (i := 19) rfl) f1_17 dX7_becomes_180 ?_
  refine cg_Vv (As := [.ref (ad 24)]) (rest := []) (mc := 0) (ms := 0) (rm := { frames := 1, cells := 0, slots := 0, locals := 60 }) hC hl.1 hO [22, 24, 25, 23] rfl (c_X4_becomes l D cy _ _ (f0 := f22) (c3 := c23) (f1 := f24) (c2 := c25) o22 f22_0 f22_1 f22_2 f22_3 o24 f24_0 f24_1 f24_2 f24_3 a25 a23) gq_c_X7_becomes_c_X4_becomes_87 rfl rfl rfl 1 (by decide +kernel) ⟨Nat.le_of_ble_eq_true rfl, Nat.le_of_ble_eq_true rfl⟩ rfl (by decide) o22 rfl rfl (Nat.le_of_ble_eq_true rfl) dX7_becomes_183 ⟨Nat.le_of_ble_eq_true rfl, Nat.le_of_ble_eq_true rfl⟩ (fun nw_183_11 l_183_12 H locs hw hO => ?_)
  obtain ⟨c3_183_14, rfl⟩ := hw
  have hO : cO D cy A s.heap s 26 ad (cup [(0, .inr (7, ((((f0.set 5 (.int 0)).set 11 (.int 0)).set 16 (.int 0)).set 15 (.int 0)))), (3, .inl (cy 0, 5, .inl c3_43_1)), (5, .inl (cy 0, 5, .inl c5_57_2)), (7, .inl (cy 0, 5, .inl c7_71_3)), (9, .inl (cy 0, 5, .inl c9_85_4)), (11, .inl (cy 0, 4, .inl c11_99_5)), (13, .inl (cy 0, 4, .inl c13_113_6)), (15, .inl (cy 0, 20, .inl c15_128_7)), (17, .inl (cy 0, 4, .inl c17_142_8)), (19, .inl (cy 0, 12, .inl c19_157_9)), (21, .inl (cy 0, 12, .inl c21_172_10)), (23, .inl (cy 0, 300, .inl c3_183_14)), (22, .inr (4, (((f22.set 1 (.int 0)).set 2 (.int 0)).set 3 (.int 0))))] g) _ _ := hO
  exact cg_vret (nw := fun _ => 0) hC hr hlk hO.same (Nat.le_of_ble_eq_true rfl) (Nat.le_of_ble_eq_true rfl) (⟨c3_43_1, c5_57_2, c7_71_3, c9_85_4, c11_99_5, c13_113_6, c15_128_7, c17_142_8, c19_157_9, c21_172_10, c3_183_14, rfl⟩) dX7_becomes_186

theorem dX6_next_0 : decode cX6_next 0 = .ok (.aload_n 0, 1) := by decide +kernel
theorem dX6_next_1 : decode cX6_next 1 = .ok (.getfield 35, 3) := by decide +kernel
theorem dX6_next_4 : decode cX6_next 4 = .ok (.aload_n 0, 1) := by decide +kernel
theorem dX6_next_5 : decode cX6_next 5 = .ok (.getfield 32, 3) := by decide +kernel
theorem dX6_next_8 : decode cX6_next 8 = .ok (.if_icmp .ge 44, 3) := by decide +kernel
theorem dX6_next_52 : decode cX6_next 52 = .ok (.aload_n 0, 1) := by decide +kernel
theorem dX6_next_53 : decode cX6_next 53 = .ok (.aload_n 0, 1) := by decide +kernel
theorem dX6_next_54 : decode cX6_next 54 = .ok (.getfield 35, 3) := by decide +kernel
theorem dX6_next_57 : decode cX6_next 57 = .ok (.putfield 212, 3) := by decide +kernel
theorem dX6_next_60 : decode cX6_next 60 = .ok (.aload_n 0, 1) := by decide +kernel
theorem dX6_next_61 : decode cX6_next 61 = .ok (.getfield 35, 3) := by decide +kernel
theorem dX6_next_64 : decode cX6_next 64 = .ok (.aload_n 0, 1) := by decide +kernel
theorem dX6_next_65 : decode cX6_next 65 = .ok (.getfield 32, 3) := by decide +kernel
theorem dX6_next_68 : decode cX6_next 68 = .ok (.if_icmp .lt 11, 3) := by decide +kernel
theorem dX6_next_71 : decode cX6_next 71 = .ok (.aload_n 0, 1) := by decide +kernel
theorem dX6_next_72 : decode cX6_next 72 = .ok (.iconst 0, 1) := by decide +kernel
theorem dX6_next_73 : decode cX6_next 73 = .ok (.putfield 47, 3) := by decide +kernel
theorem dX6_next_76 : decode cX6_next 76 = .ok (.goto 118, 3) := by decide +kernel
theorem dX6_next_194 : decode cX6_next 194 = .ok (.return_, 1) := by decide +kernel
def wq_c_X6_next : List Cond := Cond.code yX6_next cX6_next 1 none :: (([Cond.fieldLink RX6 35 "CrowToll$Reader" "at" "I", Cond.fieldLink RX6 32 "CrowToll$Reader" "length" "I", Cond.fieldLink RX6 212 "CrowToll$Reader" "place" "I", Cond.fieldLink RX6 47 "CrowToll$Reader" "kind" "I"] : List Cond) ++ wsX60)
set_option maxHeartbeats 8000000 in
set_option maxRecDepth 100000 in
theorem c_X6_next (l : Launch) (D : va_G) (cy : Nat → ClassId) (ad : Nat → Nat) (g : Nat → va_E) {f0 : List Value} (o0 : g 0 = .inr (6, f0)) (f0_4 : f0[4]? = some (.int 0)) (f0_5 : f0[5]? = some (.int 0)) (f0_6 : f0[6]? = some (.int 0)) (f0_7 : f0[7]? = some (.int 0)) : cMv l yX6_next wq_c_X6_next { frames := 0, cells := 0, slots := 0, locals := 0 } 1 0 0 0 D cy ad g [.ref (ad 0)] (fun nw lu => lu = [(0, .inr (6, ((f0.set 7 (.int 0)).set 6 (.int 0))))]) := by
  refine cM_of (Qc := fun A => cQv (fun nw lu => lu = [(0, .inr (6, ((f0.set 7 (.int 0)).set 6 (.int 0))))]) D 1 0 ad g A) (cc := cX6_next) (maxL := 1) (ret := none) (by decide) rfl (Nat.le_of_ble_eq_true rfl) ?_
  intro p e s m below meth c A hC hr hlk hnm hO ls hl
  have hC : CallFix p m c cX6_next 1 s [.ref (ad 0)].toArray wq_c_X6_next RX6 := hC
  obtain ⟨hx, hb, hml, hown, hts⟩ := id hC
  have hl : lv_has ls 1 [(0, .ref (ad 0))] := hl
  have i_X6 : ∀ w ∈ wsX60, w ∈ wq_c_X6_next := fun w h => List.mem_cons_of_mem _ (List.mem_append_right _ h)
  refine lv_aload_n hx hb dX6_next_0 rfl (lv_at hl 0 rfl) ?_
  refine cg_get hC hO 0 (by decide) o0 rfl i_X6 5 (by decide) (List.mem_of_getElem? (i := 1) rfl) f0_5 dX6_next_1 ?_
  refine lv_aload_n hx hb dX6_next_4 rfl (lv_at hl 0 rfl) ?_
  refine cg_get hC hO 0 (by decide) o0 rfl i_X6 4 (by decide) (List.mem_of_getElem? (i := 2) rfl) f0_4 dX6_next_5 ?_
  refine lv_icmp_ge (tgt := 52) hx hb dX6_next_8 (by decide) (fun _ => ?_) (fun h => absurd h (by decide))
  refine lv_aload_n hx hb dX6_next_52 rfl (lv_at hl 0 rfl) ?_
  refine lv_aload_n hx hb dX6_next_53 rfl (lv_at hl 0 rfl) ?_
  refine cg_get hC hO 0 (by decide) o0 rfl i_X6 5 (by decide) (List.mem_of_getElem? (i := 1) rfl) f0_5 dX6_next_54 ?_
  refine cg_put hC hO 0 (by decide) o0 rfl i_X6 tyX6_ok nmX6 7 (by decide) (List.mem_of_getElem? (i := 3) rfl) rfl rfl rfl (fs_lt f0_7) dX6_next_57 (fun H locs hO => ?_)
  have hO : cO D cy A s.heap s 1 ad (cup [(0, .inr (6, (f0.set 7 (.int 0))))] g) _ _ := hO
  refine lv_aload_n hx hb dX6_next_60 rfl (lv_at hl 0 rfl) ?_
  refine cg_get hC hO 0 (by decide) rfl rfl i_X6 5 (by decide) (List.mem_of_getElem? (i := 1) rfl) (fs_ne (by decide) f0_5) dX6_next_61 ?_
  refine lv_aload_n hx hb dX6_next_64 rfl (lv_at hl 0 rfl) ?_
  refine cg_get hC hO 0 (by decide) rfl rfl i_X6 4 (by decide) (List.mem_of_getElem? (i := 2) rfl) (fs_ne (by decide) f0_4) dX6_next_65 ?_
  refine lv_icmp_lt (tgt := 79) hx hb dX6_next_68 (by decide) (fun h => absurd h (by decide)) (fun _ => ?_)
  refine lv_aload_n hx hb dX6_next_71 rfl (lv_at hl 0 rfl) ?_
  refine lv_iconst (v := 0) hx hb dX6_next_72 (by decide) ?_
  refine cg_put hC hO 0 (by decide) rfl rfl i_X6 tyX6_ok nmX6 6 (by decide) (List.mem_of_getElem? (i := 4) rfl) rfl rfl rfl (fs_lt (fs_ne (by decide) f0_6)) dX6_next_73 (fun H locs hO => ?_)
  have hO : cO D cy A s.heap s 1 ad (cup [(0, .inr (6, ((f0.set 7 (.int 0)).set 6 (.int 0))))] g) _ _ := hO
  refine lv_goto (tgt := 194) hx hb dX6_next_76 (by decide) ?_
  exact cg_vret (nw := fun _ => 0) hC hr hlk hO.same (Nat.le_of_ble_eq_true rfl) (Nat.le_of_ble_eq_true rfl) rfl dX6_next_194

theorem dX6_read_0 : decode cX6_read 0 = .ok (.aload_n 0, 1) := by decide +kernel
theorem dX6_read_1 : decode cX6_read 1 = .ok (.aload_n 1, 1) := by decide +kernel
theorem dX6_read_2 : decode cX6_read 2 = .ok (.putfield 22, 3) := by decide +kernel
theorem dX6_read_5 : decode cX6_read 5 = .ok (.aload_n 0, 1) := by decide +kernel
theorem dX6_read_6 : decode cX6_read 6 = .ok (.iload_n 2, 1) := by decide +kernel
theorem dX6_read_7 : decode cX6_read 7 = .ok (.aload_n 1, 1) := by decide +kernel
theorem dX6_read_8 : decode cX6_read 8 = .ok (.arraylength, 1) := by decide +kernel
theorem dX6_read_9 : decode cX6_read 9 = .ok (.invokestatic 26, 3) := by decide +kernel
theorem dX6_read_12 : decode cX6_read 12 = .ok (.putfield 32, 3) := by decide +kernel
theorem dX6_read_15 : decode cX6_read 15 = .ok (.aload_n 0, 1) := by decide +kernel
theorem dX6_read_16 : decode cX6_read 16 = .ok (.iconst 0, 1) := by decide +kernel
theorem dX6_read_17 : decode cX6_read 17 = .ok (.putfield 35, 3) := by decide +kernel
theorem dX6_read_20 : decode cX6_read 20 = .ok (.aload_n 0, 1) := by decide +kernel
theorem dX6_read_21 : decode cX6_read 21 = .ok (.iconst 0, 1) := by decide +kernel
theorem dX6_read_22 : decode cX6_read 22 = .ok (.putfield 38, 3) := by decide +kernel
theorem dX6_read_25 : decode cX6_read 25 = .ok (.aload_n 0, 1) := by decide +kernel
theorem dX6_read_26 : decode cX6_read 26 = .ok (.iconst (-1), 1) := by decide +kernel
theorem dX6_read_27 : decode cX6_read 27 = .ok (.putfield 18, 3) := by decide +kernel
theorem dX6_read_30 : decode cX6_read 30 = .ok (.aload_n 0, 1) := by decide +kernel
theorem dX6_read_31 : decode cX6_read 31 = .ok (.getfield 12, 3) := by decide +kernel
theorem dX6_read_34 : decode cX6_read 34 = .ok (.invokevirtual 41, 3) := by decide +kernel
theorem dX6_read_37 : decode cX6_read 37 = .ok (.aload_n 0, 1) := by decide +kernel
theorem dX6_read_38 : decode cX6_read 38 = .ok (.invokevirtual 44, 3) := by decide +kernel
theorem dX6_read_41 : decode cX6_read 41 = .ok (.iconst 1, 1) := by decide +kernel
theorem dX6_read_42 : decode cX6_read 42 = .ok (.istore_n 3, 1) := by decide +kernel
theorem dX6_read_43 : decode cX6_read 43 = .ok (.iconst 0, 1) := by decide +kernel
theorem dX6_read_44 : decode cX6_read 44 = .ok (.istore 4, 2) := by decide +kernel
theorem dX6_read_46 : decode cX6_read 46 = .ok (.iload 4, 2) := by decide +kernel
theorem dX6_read_48 : decode cX6_read 48 = .ok (.aload_n 0, 1) := by decide +kernel
theorem dX6_read_49 : decode cX6_read 49 = .ok (.getfield 32, 3) := by decide +kernel
theorem dX6_read_52 : decode cX6_read 52 = .ok (.if_icmp .gt 93, 3) := by decide +kernel
theorem dX6_read_55 : decode cX6_read 55 = .ok (.iload_n 3, 1) := by decide +kernel
theorem dX6_read_56 : decode cX6_read 56 = .ok (.ifCond .eq 89, 3) := by decide +kernel
theorem dX6_read_59 : decode cX6_read 59 = .ok (.aload_n 0, 1) := by decide +kernel
theorem dX6_read_60 : decode cX6_read 60 = .ok (.getfield 47, 3) := by decide +kernel
theorem dX6_read_63 : decode cX6_read 63 = .ok (.ifCond .eq 82, 3) := by decide +kernel
theorem dX6_read_145 : decode cX6_read 145 = .ok (.iload_n 3, 1) := by decide +kernel
theorem dX6_read_146 : decode cX6_read 146 = .ok (.ireturn, 1) := by decide +kernel
def wq_c_X6_read : List Cond := Cond.code yX6_read cX6_read 5 (some .boolean) :: (([Cond.fieldLink RX6 22 "CrowToll$Reader" "text" "[I", Cond.methodLink RX6 26 Lib.Math.min.name, Cond.static Lib.Math.min.name, Cond.initialized "java/lang/Math", Cond.code Lib.Math.min.name Lib.Math.min.code 2 (some .int), Cond.fieldLink RX6 32 "CrowToll$Reader" "length" "I", Cond.fieldLink RX6 35 "CrowToll$Reader" "at" "I", Cond.fieldLink RX6 38 "CrowToll$Reader" "fault" "I", Cond.fieldLink RX6 18 "CrowToll$Reader" "faultPlace" "I", Cond.fieldLink RX6 12 "CrowToll$Reader" "draft" "LCrowToll$Road;", Cond.methodLink RX6 41 yX7_clear, Cond.instanceMethod yX7_clear, Cond.selects RX7 yX7_clear yX7_clear, Cond.initialized RX7, Cond.code yX7_clear cX7_clear 1 none, Cond.fieldLink RX7 59 "CrowToll$Road" "birds" "I", Cond.fieldLink RX7 63 "CrowToll$Road" "posts" "I", Cond.fieldLink RX7 66 "CrowToll$Road" "carts" "I", Cond.fieldLink RX7 69 "CrowToll$Road" "maybe" "I", Cond.fieldLink RX7 25 "CrowToll$Road" "seatOf" "[I", Cond.methodLink RX7 72 yJ7_fill_53178, Cond.static yJ7_fill_53178, Cond.initialized RJ7, Cond.code yJ7_fill_53178 cJ7_fill_53178 4 none, Cond.fieldLink RX7 40 "CrowToll$Road" "seated" "[I", Cond.fieldLink RX7 55 "CrowToll$Road" "law" "LCrowToll$Law;", Cond.methodLink RX7 78 yX4_clear, Cond.instanceMethod yX4_clear, Cond.selects RX4 yX4_clear yX4_clear, Cond.initialized RX4, Cond.code yX4_clear cX4_clear 1 none, Cond.fieldLink RX4 18 "CrowToll$Law" "steps" "I", Cond.fieldLink RX4 22 "CrowToll$Law" "units" "I", Cond.fieldLink RX4 25 "CrowToll$Law" "isTold" "Z", Cond.methodLink RX6 44 yX6_next, Cond.instanceMethod yX6_next, Cond.selects RX6 yX6_next yX6_next, Cond.initialized RX6, Cond.code yX6_next cX6_next 1 none, Cond.fieldLink RX6 212 "CrowToll$Reader" "place" "I", Cond.fieldLink RX6 47 "CrowToll$Reader" "kind" "I"] : List Cond) ++ wsX40 ++ wsX60 ++ wsX70)
set_option maxRecDepth 20000 in
theorem gr_c_X6_read_c_X7_clear : GoodIn wq_c_X6_read wq_c_X7_clear := List.forall_mem_cons.mpr ⟨⟨(List.mem_of_getElem? (i := 15) rfl), good_of_word rfl⟩, List.forall_mem_append.mpr ⟨List.forall_mem_append.mpr ⟨List.forall_mem_cons.mpr ⟨⟨(List.mem_of_getElem? (i := 16) rfl), good_of_word rfl⟩, List.forall_mem_cons.mpr ⟨⟨(List.mem_of_getElem? (i := 17) rfl), good_of_word rfl⟩, List.forall_mem_cons.mpr ⟨⟨(List.mem_of_getElem? (i := 18) rfl), good_of_word rfl⟩, List.forall_mem_cons.mpr ⟨⟨(List.mem_of_getElem? (i := 19) rfl), good_of_word rfl⟩, List.forall_mem_cons.mpr ⟨⟨(List.mem_of_getElem? (i := 20) rfl), good_of_word rfl⟩, List.forall_mem_cons.mpr ⟨⟨(List.mem_of_getElem? (i := 21) rfl), good_of_word rfl⟩, List.forall_mem_cons.mpr ⟨⟨(List.mem_of_getElem? (i := 22) rfl), good_of_word rfl⟩, List.forall_mem_cons.mpr ⟨⟨(List.mem_of_getElem? (i := 23) rfl), good_of_word rfl⟩, List.forall_mem_cons.mpr ⟨⟨(List.mem_of_getElem? (i := 24) rfl), good_of_word rfl⟩, List.forall_mem_cons.mpr ⟨⟨(List.mem_of_getElem? (i := 25) rfl), good_of_word rfl⟩, List.forall_mem_cons.mpr ⟨⟨(List.mem_of_getElem? (i := 26) rfl), good_of_word rfl⟩, List.forall_mem_cons.mpr ⟨⟨(List.mem_of_getElem? (i := 27) rfl), good_of_word rfl⟩, List.forall_mem_cons.mpr ⟨⟨(List.mem_of_getElem? (i := 28) rfl), good_of_word rfl⟩, List.forall_mem_cons.mpr ⟨⟨(List.mem_of_getElem? (i := 29) rfl), good_of_word rfl⟩, List.forall_mem_cons.mpr ⟨⟨(List.mem_of_getElem? (i := 30) rfl), good_of_word rfl⟩, List.forall_mem_cons.mpr ⟨⟨(List.mem_of_getElem? (i := 31) rfl), good_of_word rfl⟩, List.forall_mem_cons.mpr ⟨⟨(List.mem_of_getElem? (i := 32) rfl), good_of_word rfl⟩, List.forall_mem_cons.mpr ⟨⟨(List.mem_of_getElem? (i := 33) rfl), good_of_word rfl⟩, List.forall_mem_cons.mpr ⟨⟨(List.mem_of_getElem? (i := 34) rfl), good_of_word rfl⟩, (fun _ h => absurd h List.not_mem_nil)⟩⟩⟩⟩⟩⟩⟩⟩⟩⟩⟩⟩⟩⟩⟩⟩⟩⟩⟩, fun w h => ⟨(fun w h => List.mem_cons_of_mem _ (List.mem_append_left _ (List.mem_append_left _ (List.mem_append_right _ h)))) w h, good_of_word (List.all_eq_true.mp gw_X4 w h)⟩⟩, fun w h => ⟨(fun w h => List.mem_cons_of_mem _ (List.mem_append_right _ h)) w h, good_of_word (List.all_eq_true.mp gw_X7 w h)⟩⟩⟩
set_option maxRecDepth 20000 in
theorem gq_c_X6_read_c_X7_clear_41 : GoodIn wq_c_X6_read (wsV RX6 41 RX7 yX7_clear wq_c_X7_clear) := goodIn_app (List.forall_mem_cons.mpr ⟨⟨(List.mem_of_getElem? (i := 11) rfl), good_of_word rfl⟩, List.forall_mem_cons.mpr ⟨⟨(List.mem_of_getElem? (i := 12) rfl), good_of_word rfl⟩, List.forall_mem_cons.mpr ⟨⟨(List.mem_of_getElem? (i := 13) rfl), good_of_word rfl⟩, List.forall_mem_cons.mpr ⟨⟨(List.mem_of_getElem? (i := 14) rfl), good_of_word rfl⟩, (fun _ h => absurd h List.not_mem_nil)⟩⟩⟩⟩) gr_c_X6_read_c_X7_clear
set_option maxRecDepth 20000 in
theorem gr_c_X6_read_c_X6_next : GoodIn wq_c_X6_read wq_c_X6_next := List.forall_mem_cons.mpr ⟨⟨(List.mem_of_getElem? (i := 39) rfl), good_of_word rfl⟩, List.forall_mem_append.mpr ⟨List.forall_mem_cons.mpr ⟨⟨(List.mem_of_getElem? (i := 7) rfl), good_of_word rfl⟩, List.forall_mem_cons.mpr ⟨⟨(List.mem_of_getElem? (i := 6) rfl), good_of_word rfl⟩, List.forall_mem_cons.mpr ⟨⟨(List.mem_of_getElem? (i := 40) rfl), good_of_word rfl⟩, List.forall_mem_cons.mpr ⟨⟨(List.mem_of_getElem? (i := 41) rfl), good_of_word rfl⟩, (fun _ h => absurd h List.not_mem_nil)⟩⟩⟩⟩, fun w h => ⟨(fun w h => List.mem_cons_of_mem _ (List.mem_append_left _ (List.mem_append_right _ h))) w h, good_of_word (List.all_eq_true.mp gw_X6 w h)⟩⟩⟩
set_option maxRecDepth 20000 in
theorem gq_c_X6_read_c_X6_next_44 : GoodIn wq_c_X6_read (wsV RX6 44 RX6 yX6_next wq_c_X6_next) := goodIn_app (List.forall_mem_cons.mpr ⟨⟨(List.mem_of_getElem? (i := 35) rfl), good_of_word rfl⟩, List.forall_mem_cons.mpr ⟨⟨(List.mem_of_getElem? (i := 36) rfl), good_of_word rfl⟩, List.forall_mem_cons.mpr ⟨⟨(List.mem_of_getElem? (i := 37) rfl), good_of_word rfl⟩, List.forall_mem_cons.mpr ⟨⟨(List.mem_of_getElem? (i := 38) rfl), good_of_word rfl⟩, (fun _ h => absurd h List.not_mem_nil)⟩⟩⟩⟩) gr_c_X6_read_c_X6_next
set_option maxHeartbeats 8000000 in
set_option maxRecDepth 100000 in
theorem c_X6_read (l : Launch) (D : va_G) (cy : Nat → ClassId) (ad : Nat → Nat) (g : Nat → va_E) {f0 : List Value} {c1 : Nat → Int32} {f2 : List Value} {c3 : Nat → Int32} {c4 : Nat → Int32} {f5 : List Value} {c6 : Nat → Int32} (o0 : g 0 = .inr (6, f0)) (f0_0 : f0[0]? = some (.ref (ad 2))) (f0_1 : f0[1]? = some (.int 0)) (f0_2 : f0[2]? = some (.int (-1))) (f0_3 : f0[3]? = some (.ref (ad 6))) (f0_4 : f0[4]? = some (.int 0)) (f0_5 : f0[5]? = some (.int 0)) (f0_6 : f0[6]? = some (.int 0)) (f0_7 : f0[7]? = some (.int 0)) (a1 : g 1 = .inl (cy 0, 1600, .inl c1)) (o2 : g 2 = .inr (7, f2)) (f2_4 : f2[4]? = some (.ref (ad 3))) (f2_5 : f2[5]? = some (.int 0)) (f2_10 : f2[10]? = some (.ref (ad 4))) (f2_11 : f2[11]? = some (.int 0)) (f2_15 : f2[15]? = some (.int 0)) (f2_16 : f2[16]? = some (.int 0)) (f2_17 : f2[17]? = some (.ref (ad 5))) (a3 : g 3 = .inl (cy 0, 5, .inl c3)) (a4 : g 4 = .inl (cy 0, 4, .inl c4)) (o5 : g 5 = .inr (4, f5)) (f5_1 : f5[1]? = some (.int 0)) (f5_2 : f5[2]? = some (.int 0)) (f5_3 : f5[3]? = some (.int 0)) (a6 : g 6 = .inl (cy 0, 0, .inl c6)) : cMi l yX6_read wq_c_X6_read { frames := 2, cells := 0, slots := 0, locals := 43 } 7 0 0 0 D cy ad g [.ref (ad 0), .ref (ad 1), .int 0] (fun r nw lu => ∃ (cz_34_4 : Nat → Int32) (cz_34_5 : Nat → Int32), (r = 1) ∧ (lu = [(0, .inr (6, (((((((f0.set 3 (.ref (ad 1))).set 4 (.int 0)).set 5 (.int 0)).set 1 (.int 0)).set 2 (.int (-1))).set 7 (.int 0)).set 6 (.int 0)))), (5, .inr (4, (((f5.set 1 (.int 0)).set 2 (.int 0)).set 3 (.int 0)))), (4, .inl (cy 0, 4, .inl cz_34_5)), (3, .inl (cy 0, 5, .inl cz_34_4)), (2, .inr (7, ((((f2.set 5 (.int 0)).set 11 (.int 0)).set 16 (.int 0)).set 15 (.int 0))))])) := by
  refine cM_of (Qc := fun A => cQi (fun r nw lu => ∃ (cz_34_4 : Nat → Int32) (cz_34_5 : Nat → Int32), (r = 1) ∧ (lu = [(0, .inr (6, (((((((f0.set 3 (.ref (ad 1))).set 4 (.int 0)).set 5 (.int 0)).set 1 (.int 0)).set 2 (.int (-1))).set 7 (.int 0)).set 6 (.int 0)))), (5, .inr (4, (((f5.set 1 (.int 0)).set 2 (.int 0)).set 3 (.int 0)))), (4, .inl (cy 0, 4, .inl cz_34_5)), (3, .inl (cy 0, 5, .inl cz_34_4)), (2, .inr (7, ((((f2.set 5 (.int 0)).set 11 (.int 0)).set 16 (.int 0)).set 15 (.int 0))))])) D 7 0 ad g A) (cc := cX6_read) (maxL := 5) (ret := (some .boolean)) (by decide) rfl (Nat.le_of_ble_eq_true rfl) ?_
  intro p e s m below meth c A hC hr hlk hnm hO ls hl
  have hC : CallFix p m c cX6_read 5 s [.ref (ad 0), .ref (ad 1), .int 0].toArray wq_c_X6_read RX6 := hC
  obtain ⟨hx, hb, hml, hown, hts⟩ := id hC
  have hl : lv_has ls 5 [(0, .ref (ad 0)), (1, .ref (ad 1)), (2, .int 0)] := hl
  have i_X4 : ∀ w ∈ wsX40, w ∈ wq_c_X6_read := fun w h => List.mem_cons_of_mem _ (List.mem_append_left _ (List.mem_append_left _ (List.mem_append_right _ h)))
  have i_X6 : ∀ w ∈ wsX60, w ∈ wq_c_X6_read := fun w h => List.mem_cons_of_mem _ (List.mem_append_left _ (List.mem_append_right _ h))
  have i_X7 : ∀ w ∈ wsX70, w ∈ wq_c_X6_read := fun w h => List.mem_cons_of_mem _ (List.mem_append_right _ h)
  refine lv_aload_n hx hb dX6_read_0 rfl (lv_at hl 0 rfl) ?_
  refine lv_aload_n hx hb dX6_read_1 rfl (lv_at hl 1 rfl) ?_
  refine cg_put hC hO 0 (by decide) o0 rfl i_X6 tyX6_ok nmX6 3 (by decide) (List.mem_of_getElem? (i := 1) rfl) rfl rfl rfl (fs_lt f0_3) dX6_read_2 (fun H locs hO => ?_)
  have hO : cO D cy A s.heap s 7 ad (cup [(0, .inr (6, (f0.set 3 (.ref (ad 1)))))] g) _ _ := hO
  refine lv_aload_n hx hb dX6_read_5 rfl (lv_at hl 0 rfl) ?_
  refine lv_iload_n hx hb dX6_read_6 rfl (lv_at hl 2 rfl) ?_
  refine lv_aload_n hx hb dX6_read_7 rfl (lv_at hl 1 rfl) ?_
  refine cg_alen hC hO 1 0 (by decide) rfl a1 (v := 1600) rfl dX6_read_8 ?_
  refine cg_min hC hl.1 (List.mem_of_getElem? (i := 2) rfl) (List.mem_of_getElem? (i := 3) rfl) (List.mem_of_getElem? (i := 4) rfl) (List.mem_of_getElem? (i := 5) rfl) (Nat.le_of_ble_eq_true rfl) (Nat.le_of_ble_eq_true rfl) (Nat.le_of_ble_eq_true rfl) (Nat.le_of_ble_eq_true rfl) dX6_read_9 ?_
  refine cg_ev (v := 0) (by decide) ?_
  refine cg_put hC hO 0 (by decide) rfl rfl i_X6 tyX6_ok nmX6 4 (by decide) (List.mem_of_getElem? (i := 6) rfl) rfl rfl rfl (fs_lt (fs_ne (by decide) f0_4)) dX6_read_12 (fun H locs hO => ?_)
  have hO : cO D cy A s.heap s 7 ad (cup [(0, .inr (6, ((f0.set 3 (.ref (ad 1))).set 4 (.int 0))))] g) _ _ := hO
  refine lv_aload_n hx hb dX6_read_15 rfl (lv_at hl 0 rfl) ?_
  refine lv_iconst (v := 0) hx hb dX6_read_16 (by decide) ?_
  refine cg_put hC hO 0 (by decide) rfl rfl i_X6 tyX6_ok nmX6 5 (by decide) (List.mem_of_getElem? (i := 7) rfl) rfl rfl rfl (fs_lt (fs_ne (by decide) (fs_ne (by decide) f0_5))) dX6_read_17 (fun H locs hO => ?_)
  have hO : cO D cy A s.heap s 7 ad (cup [(0, .inr (6, (((f0.set 3 (.ref (ad 1))).set 4 (.int 0)).set 5 (.int 0))))] g) _ _ := hO
  refine lv_aload_n hx hb dX6_read_20 rfl (lv_at hl 0 rfl) ?_
  refine lv_iconst (v := 0) hx hb dX6_read_21 (by decide) ?_
  refine cg_put hC hO 0 (by decide) rfl rfl i_X6 tyX6_ok nmX6 1 (by decide) (List.mem_of_getElem? (i := 8) rfl) rfl rfl rfl (fs_lt (fs_ne (by decide) (fs_ne (by decide) (fs_ne (by decide) f0_1)))) dX6_read_22 (fun H locs hO => ?_)
  have hO : cO D cy A s.heap s 7 ad (cup [(0, .inr (6, ((((f0.set 3 (.ref (ad 1))).set 4 (.int 0)).set 5 (.int 0)).set 1 (.int 0))))] g) _ _ := hO
  refine lv_aload_n hx hb dX6_read_25 rfl (lv_at hl 0 rfl) ?_
  refine lv_iconst (v := (-1)) hx hb dX6_read_26 (by decide) ?_
  refine cg_put hC hO 0 (by decide) rfl rfl i_X6 tyX6_ok nmX6 2 (by decide) (List.mem_of_getElem? (i := 9) rfl) rfl rfl rfl (fs_lt (fs_ne (by decide) (fs_ne (by decide) (fs_ne (by decide) (fs_ne (by decide) f0_2))))) dX6_read_27 (fun H locs hO => ?_)
  have hO : cO D cy A s.heap s 7 ad (cup [(0, .inr (6, (((((f0.set 3 (.ref (ad 1))).set 4 (.int 0)).set 5 (.int 0)).set 1 (.int 0)).set 2 (.int (-1)))))] g) _ _ := hO
  refine lv_aload_n hx hb dX6_read_30 rfl (lv_at hl 0 rfl) ?_
  refine cg_get hC hO 0 (by decide) rfl rfl i_X6 0 (by decide) (List.mem_of_getElem? (i := 10) rfl) (fs_ne (by decide) (fs_ne (by decide) (fs_ne (by decide) (fs_ne (by decide) (fs_ne (by decide) f0_0))))) dX6_read_31 ?_
  refine cg_Vv (As := []) (rest := []) (mc := 0) (ms := 0) (rm := { frames := 1, cells := 0, slots := 0, locals := 23 }) hC hl.1 hO [2, 3, 4, 5] rfl (c_X7_clear l D cy _ _ (f0 := f2) (x1 := 0) (x2 := 0) (x3 := 0) (x4 := 0) (c1 := c3) (c2 := c4) (f3 := f5) (x := 0) (y := 0) (z := 0) o2 f2_5 f2_11 f2_16 f2_15 f2_4 f2_10 f2_17 a3 a4 o5 f5_1 f5_2 f5_3) gq_c_X6_read_c_X7_clear_41 rfl rfl rfl 0 (by decide +kernel) ⟨Nat.le_of_ble_eq_true rfl, Nat.le_of_ble_eq_true rfl⟩ rfl (by decide) o2 rfl rfl (Nat.le_of_ble_eq_true rfl) dX6_read_34 ⟨Nat.le_of_ble_eq_true rfl, Nat.le_of_ble_eq_true rfl⟩ (fun nw_34_1 l_34_2 H locs hw hO => ?_)
  obtain ⟨cz_34_4, cz_34_5, rfl⟩ := hw
  have hO : cO D cy A s.heap s 7 ad (cup [(0, .inr (6, (((((f0.set 3 (.ref (ad 1))).set 4 (.int 0)).set 5 (.int 0)).set 1 (.int 0)).set 2 (.int (-1))))), (5, .inr (4, (((f5.set 1 (.int 0)).set 2 (.int 0)).set 3 (.int 0)))), (4, .inl (cy 0, 4, .inl cz_34_5)), (3, .inl (cy 0, 5, .inl cz_34_4)), (2, .inr (7, ((((f2.set 5 (.int 0)).set 11 (.int 0)).set 16 (.int 0)).set 15 (.int 0))))] g) _ _ := hO
  refine lv_aload_n hx hb dX6_read_37 rfl (lv_at hl 0 rfl) ?_
  refine cg_Vv (As := []) (rest := []) (mc := 0) (ms := 0) (rm := { frames := 0, cells := 0, slots := 0, locals := 0 }) hC hl.1 hO [0] rfl (c_X6_next l D cy _ _ (f0 := (((((f0.set 3 (.ref (ad 1))).set 4 (.int 0)).set 5 (.int 0)).set 1 (.int 0)).set 2 (.int (-1)))) rfl (fs_ne (by decide) (fs_ne (by decide) (fs_ne (by decide) (fs_eq (fs_ne (by decide) f0_4))))) (fs_ne (by decide) (fs_ne (by decide) (fs_eq (fs_ne (by decide) (fs_ne (by decide) f0_5))))) (fs_ne (by decide) (fs_ne (by decide) (fs_ne (by decide) (fs_ne (by decide) (fs_ne (by decide) f0_6))))) (fs_ne (by decide) (fs_ne (by decide) (fs_ne (by decide) (fs_ne (by decide) (fs_ne (by decide) f0_7)))))) gq_c_X6_read_c_X6_next_44 rfl rfl rfl 0 (by decide +kernel) ⟨Nat.le_of_ble_eq_true rfl, Nat.le_of_ble_eq_true rfl⟩ rfl (by decide) rfl rfl rfl (Nat.le_of_ble_eq_true rfl) dX6_read_38 ⟨Nat.le_of_ble_eq_true rfl, Nat.le_of_ble_eq_true rfl⟩ (fun nw_38_6 l_38_7 H locs hw hO => ?_)
  obtain rfl := hw
  have hO : cO D cy A s.heap s 7 ad (cup [(0, .inr (6, (((((((f0.set 3 (.ref (ad 1))).set 4 (.int 0)).set 5 (.int 0)).set 1 (.int 0)).set 2 (.int (-1))).set 7 (.int 0)).set 6 (.int 0)))), (5, .inr (4, (((f5.set 1 (.int 0)).set 2 (.int 0)).set 3 (.int 0)))), (4, .inl (cy 0, 4, .inl cz_34_5)), (3, .inl (cy 0, 5, .inl cz_34_4)), (2, .inr (7, ((((f2.set 5 (.int 0)).set 11 (.int 0)).set 16 (.int 0)).set 15 (.int 0))))] g) _ _ := hO
  refine lv_iconst (v := 1) hx hb dX6_read_41 (by decide) ?_
  refine lv_istore_n (lv' := [(3, .int 1), (0, .ref (ad 0)), (1, .ref (ad 1)), (2, .int 0)]) hx hb dX6_read_42 rfl hl (by decide) rfl (fun ls hl => ?_)
  refine lv_iconst (v := 0) hx hb dX6_read_43 (by decide) ?_
  refine lv_istore (lv' := [(4, .int 0), (3, .int 1), (0, .ref (ad 0)), (1, .ref (ad 1)), (2, .int 0)]) hx hb dX6_read_44 hl (by decide) rfl (fun ls hl => ?_)
  refine lv_iload hx hb dX6_read_46 (lv_at hl 0 rfl) ?_
  refine lv_aload_n hx hb dX6_read_48 rfl (lv_at hl 2 rfl) ?_
  refine cg_get hC hO 0 (by decide) rfl rfl i_X6 4 (by decide) (List.mem_of_getElem? (i := 6) rfl) (fs_ne (by decide) (fs_ne (by decide) (fs_ne (by decide) (fs_ne (by decide) (fs_ne (by decide) (fs_eq (fs_ne (by decide) f0_4))))))) dX6_read_49 ?_
  refine lv_icmp_gt (tgt := 145) hx hb dX6_read_52 (by decide) (fun h => absurd h (by decide)) (fun _ => ?_)
  refine lv_iload_n hx hb dX6_read_55 rfl (lv_at hl 1 rfl) ?_
  refine lv_if_eq (tgt := 145) hx hb dX6_read_56 (by decide) (fun h => absurd h (by decide)) (fun _ => ?_)
  refine lv_aload_n hx hb dX6_read_59 rfl (lv_at hl 2 rfl) ?_
  refine cg_get hC hO 0 (by decide) rfl rfl i_X6 6 (by decide) (List.mem_of_getElem? (i := 41) rfl) (fs_eq (fs_ne (by decide) (fs_ne (by decide) (fs_ne (by decide) (fs_ne (by decide) (fs_ne (by decide) (fs_ne (by decide) f0_6))))))) dX6_read_60 ?_
  refine lv_if_eq (tgt := 145) hx hb dX6_read_63 (by decide) (fun _ => ?_) (fun h => absurd h (by decide))
  refine lv_iload_n hx hb dX6_read_145 rfl (lv_at hl 1 rfl) ?_
  exact cg_iret (nw := fun _ => 0) hC hr hlk hO.same rfl (Nat.le_of_ble_eq_true rfl) (Nat.le_of_ble_eq_true rfl) (⟨cz_34_4, cz_34_5, rfl, rfl⟩) dX6_read_146

theorem dX5_forget_0 : decode cX5_forget 0 = .ok (.aload_n 0, 1) := by decide +kernel
theorem dX5_forget_1 : decode cX5_forget 1 = .ok (.getfield 9, 3) := by decide +kernel
theorem dX5_forget_4 : decode cX5_forget 4 = .ok (.iconst 0, 1) := by decide +kernel
theorem dX5_forget_5 : decode cX5_forget 5 = .ok (.invokestatic 22, 3) := by decide +kernel
theorem dX5_forget_8 : decode cX5_forget 8 = .ok (.return_, 1) := by decide +kernel
def wq_c_X5_forget : List Cond := Cond.code yX5_forget cX5_forget 1 none :: (([Cond.fieldLink RX5 9 "CrowToll$Prices" "sacksKnown" "[I", Cond.methodLink RX5 22 yJ7_fill_53178, Cond.static yJ7_fill_53178, Cond.initialized RJ7, Cond.code yJ7_fill_53178 cJ7_fill_53178 4 none] : List Cond) ++ wsX50)
set_option maxRecDepth 20000 in
theorem gr_c_X5_forget_c_J7_fill_53178 : GoodIn wq_c_X5_forget wq_c_J7_fill_53178 := List.forall_mem_cons.mpr ⟨⟨(List.mem_of_getElem? (i := 5) rfl), good_of_word rfl⟩, (fun _ h => absurd h List.not_mem_nil)⟩
set_option maxRecDepth 20000 in
theorem gq_c_X5_forget_c_J7_fill_53178_22 : GoodIn wq_c_X5_forget (va_wsS RX5 22 yJ7_fill_53178 wq_c_J7_fill_53178) := goodIn_app (List.forall_mem_cons.mpr ⟨⟨(List.mem_of_getElem? (i := 2) rfl), good_of_word rfl⟩, List.forall_mem_cons.mpr ⟨⟨(List.mem_of_getElem? (i := 3) rfl), good_of_word rfl⟩, List.forall_mem_cons.mpr ⟨⟨(List.mem_of_getElem? (i := 4) rfl), good_of_word rfl⟩, (fun _ h => absurd h List.not_mem_nil)⟩⟩⟩) gr_c_X5_forget_c_J7_fill_53178
set_option maxHeartbeats 8000000 in
set_option maxRecDepth 100000 in
theorem c_X5_forget (l : Launch) (D : va_G) (cy : Nat → ClassId) (ad : Nat → Nat) (g : Nat → va_E) {f0 : List Value} {c1 : Nat → Int32} (o0 : g 0 = .inr (5, f0)) (f0_1 : f0[1]? = some (.ref (ad 1))) (a1 : g 1 = .inl (cy 0, 80, .inl c1)) : cMv l yX5_forget wq_c_X5_forget { frames := 1, cells := 0, slots := 0, locals := 23 } 2 0 0 0 D cy ad g [.ref (ad 0)] (fun nw lu => ∃ (cz_5_4 : Nat → Int32), lu = [(1, .inl (cy 0, 80, .inl cz_5_4))]) := by
  refine cM_of (Qc := fun A => cQv (fun nw lu => ∃ (cz_5_4 : Nat → Int32), lu = [(1, .inl (cy 0, 80, .inl cz_5_4))]) D 2 0 ad g A) (cc := cX5_forget) (maxL := 1) (ret := none) (by decide) rfl (Nat.le_of_ble_eq_true rfl) ?_
  intro p e s m below meth c A hC hr hlk hnm hO ls hl
  have hC : CallFix p m c cX5_forget 1 s [.ref (ad 0)].toArray wq_c_X5_forget RX5 := hC
  obtain ⟨hx, hb, hml, hown, hts⟩ := id hC
  have hl : lv_has ls 1 [(0, .ref (ad 0))] := hl
  have i_X5 : ∀ w ∈ wsX50, w ∈ wq_c_X5_forget := fun w h => List.mem_cons_of_mem _ (List.mem_append_right _ h)
  refine lv_aload_n hx hb dX5_forget_0 rfl (lv_at hl 0 rfl) ?_
  refine cg_get hC hO 0 (by decide) o0 rfl i_X5 1 (by decide) (List.mem_of_getElem? (i := 1) rfl) f0_1 dX5_forget_1 ?_
  refine lv_iconst (v := 0) hx hb dX5_forget_4 (by decide) ?_
  refine cg_Sv (As := [.ref (ad 1), .int 0]) (rest := []) (mc := 0) (ms := 0) (rm := { frames := 0, cells := 0, slots := 0, locals := 0 }) hC hl.1 hO [1] rfl (c_J7_fill_53178 l D cy _ _ (n := 80) (c0 := c1) (x := 0) a1 (by decide)) gq_c_X5_forget_c_J7_fill_53178_22 rfl rfl rfl 2 (by decide +kernel) ⟨Nat.le_of_ble_eq_true rfl, Nat.le_of_ble_eq_true rfl⟩ rfl rfl (Nat.le_of_ble_eq_true rfl) dX5_forget_5 ⟨Nat.le_of_ble_eq_true rfl, Nat.le_of_ble_eq_true rfl⟩ (fun nw_5_1 l_5_2 H locs hw hO => ?_)
  obtain ⟨cz_5_4, rfl⟩ := hw
  have hO : cO D cy A s.heap s 2 ad (cup [(1, .inl (cy 0, 80, .inl cz_5_4))] g) _ _ := hO
  exact cg_vret (nw := fun _ => 0) hC hr hlk hO.same (Nat.le_of_ble_eq_true rfl) (Nat.le_of_ble_eq_true rfl) (⟨cz_5_4, rfl⟩) dX5_forget_8

theorem dX0_forget_0 : decode cX0_forget 0 = .ok (.aload_n 0, 1) := by decide +kernel
theorem dX0_forget_1 : decode cX0_forget 1 = .ok (.iconst 0, 1) := by decide +kernel
theorem dX0_forget_2 : decode cX0_forget 2 = .ok (.putfield 21, 3) := by decide +kernel
theorem dX0_forget_5 : decode cX0_forget 5 = .ok (.aload_n 0, 1) := by decide +kernel
theorem dX0_forget_6 : decode cX0_forget 6 = .ok (.iconst 0, 1) := by decide +kernel
theorem dX0_forget_7 : decode cX0_forget 7 = .ok (.putfield 25, 3) := by decide +kernel
theorem dX0_forget_10 : decode cX0_forget 10 = .ok (.return_, 1) := by decide +kernel
def wq_c_X0_forget : List Cond := Cond.code yX0_forget cX0_forget 1 none :: (([Cond.fieldLink RX0 21 "CrowToll$Acts" "done" "I", Cond.fieldLink RX0 25 "CrowToll$Acts" "kept" "I"] : List Cond) ++ wsX00)
set_option maxHeartbeats 8000000 in
set_option maxRecDepth 100000 in
theorem c_X0_forget (l : Launch) (D : va_G) (cy : Nat → ClassId) (ad : Nat → Nat) (g : Nat → va_E) {f0 : List Value} (o0 : g 0 = .inr (0, f0)) (f0_3 : f0[3]? = some (.int 0)) (f0_4 : f0[4]? = some (.int 0)) : cMv l yX0_forget wq_c_X0_forget { frames := 0, cells := 0, slots := 0, locals := 0 } 1 0 0 0 D cy ad g [.ref (ad 0)] (fun nw lu => lu = [(0, .inr (0, ((f0.set 3 (.int 0)).set 4 (.int 0))))]) := by
  refine cM_of (Qc := fun A => cQv (fun nw lu => lu = [(0, .inr (0, ((f0.set 3 (.int 0)).set 4 (.int 0))))]) D 1 0 ad g A) (cc := cX0_forget) (maxL := 1) (ret := none) (by decide) rfl (Nat.le_of_ble_eq_true rfl) ?_
  intro p e s m below meth c A hC hr hlk hnm hO ls hl
  have hC : CallFix p m c cX0_forget 1 s [.ref (ad 0)].toArray wq_c_X0_forget RX0 := hC
  obtain ⟨hx, hb, hml, hown, hts⟩ := id hC
  have hl : lv_has ls 1 [(0, .ref (ad 0))] := hl
  have i_X0 : ∀ w ∈ wsX00, w ∈ wq_c_X0_forget := fun w h => List.mem_cons_of_mem _ (List.mem_append_right _ h)
  refine lv_aload_n hx hb dX0_forget_0 rfl (lv_at hl 0 rfl) ?_
  refine lv_iconst (v := 0) hx hb dX0_forget_1 (by decide) ?_
  refine cg_put hC hO 0 (by decide) o0 rfl i_X0 tyX0_ok nmX0 3 (by decide) (List.mem_of_getElem? (i := 1) rfl) rfl rfl rfl (fs_lt f0_3) dX0_forget_2 (fun H locs hO => ?_)
  have hO : cO D cy A s.heap s 1 ad (cup [(0, .inr (0, (f0.set 3 (.int 0))))] g) _ _ := hO
  refine lv_aload_n hx hb dX0_forget_5 rfl (lv_at hl 0 rfl) ?_
  refine lv_iconst (v := 0) hx hb dX0_forget_6 (by decide) ?_
  refine cg_put hC hO 0 (by decide) rfl rfl i_X0 tyX0_ok nmX0 4 (by decide) (List.mem_of_getElem? (i := 2) rfl) rfl rfl rfl (fs_lt (fs_ne (by decide) f0_4)) dX0_forget_7 (fun H locs hO => ?_)
  have hO : cO D cy A s.heap s 1 ad (cup [(0, .inr (0, ((f0.set 3 (.int 0)).set 4 (.int 0))))] g) _ _ := hO
  exact cg_vret (nw := fun _ => 0) hC hr hlk hO.same (Nat.le_of_ble_eq_true rfl) (Nat.le_of_ble_eq_true rfl) rfl dX0_forget_10

theorem dX8_forget_0 : decode cX8_forget 0 = .ok (.aload_n 0, 1) := by decide +kernel
theorem dX8_forget_1 : decode cX8_forget 1 = .ok (.iconst 0, 1) := by decide +kernel
theorem dX8_forget_2 : decode cX8_forget 2 = .ok (.putfield 49, 3) := by decide +kernel
theorem dX8_forget_5 : decode cX8_forget 5 = .ok (.return_, 1) := by decide +kernel
def wq_c_X8_forget : List Cond := Cond.code yX8_forget cX8_forget 1 none :: (([Cond.fieldLink RX8 49 "CrowToll$Sights" "size" "I"] : List Cond) ++ wsX80)
set_option maxHeartbeats 8000000 in
set_option maxRecDepth 100000 in
theorem c_X8_forget (l : Launch) (D : va_G) (cy : Nat → ClassId) (ad : Nat → Nat) (g : Nat → va_E) {f0 : List Value} (o0 : g 0 = .inr (8, f0)) (f0_7 : f0[7]? = some (.int 0)) : cMv l yX8_forget wq_c_X8_forget { frames := 0, cells := 0, slots := 0, locals := 0 } 1 0 0 0 D cy ad g [.ref (ad 0)] (fun nw lu => lu = [(0, .inr (8, (f0.set 7 (.int 0))))]) := by
  refine cM_of (Qc := fun A => cQv (fun nw lu => lu = [(0, .inr (8, (f0.set 7 (.int 0))))]) D 1 0 ad g A) (cc := cX8_forget) (maxL := 1) (ret := none) (by decide) rfl (Nat.le_of_ble_eq_true rfl) ?_
  intro p e s m below meth c A hC hr hlk hnm hO ls hl
  have hC : CallFix p m c cX8_forget 1 s [.ref (ad 0)].toArray wq_c_X8_forget RX8 := hC
  obtain ⟨hx, hb, hml, hown, hts⟩ := id hC
  have hl : lv_has ls 1 [(0, .ref (ad 0))] := hl
  have i_X8 : ∀ w ∈ wsX80, w ∈ wq_c_X8_forget := fun w h => List.mem_cons_of_mem _ (List.mem_append_right _ h)
  refine lv_aload_n hx hb dX8_forget_0 rfl (lv_at hl 0 rfl) ?_
  refine lv_iconst (v := 0) hx hb dX8_forget_1 (by decide) ?_
  refine cg_put hC hO 0 (by decide) o0 rfl i_X8 tyX8_ok nmX8 7 (by decide) (List.mem_of_getElem? (i := 1) rfl) rfl rfl rfl (fs_lt f0_7) dX8_forget_2 (fun H locs hO => ?_)
  have hO : cO D cy A s.heap s 1 ad (cup [(0, .inr (8, (f0.set 7 (.int 0))))] g) _ _ := hO
  exact cg_vret (nw := fun _ => 0) hC hr hlk hO.same (Nat.le_of_ble_eq_true rfl) (Nat.le_of_ble_eq_true rfl) rfl dX8_forget_5

theorem dX11_road_0 : decode cX11_road 0 = .ok (.aload_n 0, 1) := by decide +kernel
theorem dX11_road_1 : decode cX11_road 1 = .ok (.getfield 20, 3) := by decide +kernel
theorem dX11_road_4 : decode cX11_road 4 = .ok (.aload_n 0, 1) := by decide +kernel
theorem dX11_road_5 : decode cX11_road 5 = .ok (.getfield 9, 3) := by decide +kernel
theorem dX11_road_8 : decode cX11_road 8 = .ok (.aload_n 0, 1) := by decide +kernel
theorem dX11_road_9 : decode cX11_road 9 = .ok (.getfield 13, 3) := by decide +kernel
theorem dX11_road_12 : decode cX11_road 12 = .ok (.invokevirtual 111, 3) := by decide +kernel
theorem dX11_road_15 : decode cX11_road 15 = .ok (.ifCond .ne 5, 3) := by decide +kernel
theorem dX11_road_20 : decode cX11_road 20 = .ok (.aload_n 0, 1) := by decide +kernel
theorem dX11_road_21 : decode cX11_road 21 = .ok (.iconst 0, 1) := by decide +kernel
theorem dX11_road_22 : decode cX11_road 22 = .ok (.putfield 13, 3) := by decide +kernel
theorem dX11_road_25 : decode cX11_road 25 = .ok (.aload_n 0, 1) := by decide +kernel
theorem dX11_road_26 : decode cX11_road 26 = .ok (.getfield 27, 3) := by decide +kernel
theorem dX11_road_29 : decode cX11_road 29 = .ok (.aload_n 0, 1) := by decide +kernel
theorem dX11_road_30 : decode cX11_road 30 = .ok (.getfield 20, 3) := by decide +kernel
theorem dX11_road_33 : decode cX11_road 33 = .ok (.getfield 115, 3) := by decide +kernel
theorem dX11_road_36 : decode cX11_road 36 = .ok (.invokevirtual 118, 3) := by decide +kernel
theorem dX11_road_39 : decode cX11_road 39 = .ok (.aload_n 0, 1) := by decide +kernel
theorem dX11_road_40 : decode cX11_road 40 = .ok (.getfield 63, 3) := by decide +kernel
theorem dX11_road_43 : decode cX11_road 43 = .ok (.invokevirtual 121, 3) := by decide +kernel
theorem dX11_road_46 : decode cX11_road 46 = .ok (.aload_n 0, 1) := by decide +kernel
theorem dX11_road_47 : decode cX11_road 47 = .ok (.getfield 37, 3) := by decide +kernel
theorem dX11_road_50 : decode cX11_road 50 = .ok (.aload_n 0, 1) := by decide +kernel
theorem dX11_road_51 : decode cX11_road 51 = .ok (.getfield 27, 3) := by decide +kernel
theorem dX11_road_54 : decode cX11_road 54 = .ok (.invokevirtual 41, 3) := by decide +kernel
theorem dX11_road_57 : decode cX11_road 57 = .ok (.aload_n 0, 1) := by decide +kernel
theorem dX11_road_58 : decode cX11_road 58 = .ok (.getfield 55, 3) := by decide +kernel
theorem dX11_road_61 : decode cX11_road 61 = .ok (.invokevirtual 124, 3) := by decide +kernel
theorem dX11_road_64 : decode cX11_road 64 = .ok (.aload_n 0, 1) := by decide +kernel
theorem dX11_road_65 : decode cX11_road 65 = .ok (.getfield 93, 3) := by decide +kernel
theorem dX11_road_68 : decode cX11_road 68 = .ok (.invokevirtual 125, 3) := by decide +kernel
theorem dX11_road_71 : decode cX11_road 71 = .ok (.aload_n 0, 1) := by decide +kernel
theorem dX11_road_72 : decode cX11_road 72 = .ok (.iconst 0, 1) := by decide +kernel
theorem dX11_road_73 : decode cX11_road 73 = .ok (.putfield 100, 3) := by decide +kernel
theorem dX11_road_76 : decode cX11_road 76 = .ok (.iconst 0, 1) := by decide +kernel
theorem dX11_road_77 : decode cX11_road 77 = .ok (.istore_n 1, 1) := by decide +kernel
theorem dX11_road_78 : decode cX11_road 78 = .ok (.iload_n 1, 1) := by decide +kernel
theorem dX11_road_79 : decode cX11_road 79 = .ok (.iconst 3, 1) := by decide +kernel
theorem dX11_road_80 : decode cX11_road 80 = .ok (.if_icmp .ge 19, 3) := by decide +kernel
theorem dX11_road_83 : decode cX11_road 83 = .ok (.aload_n 0, 1) := by decide +kernel
theorem dX11_road_84 : decode cX11_road 84 = .ok (.getfield 45, 3) := by decide +kernel
theorem dX11_road_87 : decode cX11_road 87 = .ok (.iload_n 1, 1) := by decide +kernel
theorem dX11_road_88 : decode cX11_road 88 = .ok (.aaload, 1) := by decide +kernel
theorem dX11_road_89 : decode cX11_road 89 = .ok (.iconst (-1), 1) := by decide +kernel
theorem dX11_road_90 : decode cX11_road 90 = .ok (.putfield 49, 3) := by decide +kernel
theorem dX11_road_93 : decode cX11_road 93 = .ok (.iinc 1 1, 3) := by decide +kernel
theorem dX11_road_96 : decode cX11_road 96 = .ok (.goto (-18), 3) := by decide +kernel
theorem dX11_road_99 : decode cX11_road 99 = .ok (.aload_n 0, 1) := by decide +kernel
theorem dX11_road_100 : decode cX11_road 100 = .ok (.getfield 72, 3) := by decide +kernel
theorem dX11_road_103 : decode cX11_road 103 = .ok (.invokevirtual 126, 3) := by decide +kernel
theorem dX11_road_106 : decode cX11_road 106 = .ok (.aload_n 0, 1) := by decide +kernel
theorem dX11_road_107 : decode cX11_road 107 = .ok (.getfield 37, 3) := by decide +kernel
theorem dX11_road_110 : decode cX11_road 110 = .ok (.getfield 49, 3) := by decide +kernel
theorem dX11_road_113 : decode cX11_road 113 = .ok (.ireturn, 1) := by decide +kernel
def wq_c_X11_road : List Cond := Cond.code yX11_road cX11_road 2 (some .int) :: (([Cond.fieldLink RX11 20 "CrowToll" "reader" "LCrowToll$Reader;", Cond.fieldLink RX11 9 "CrowToll" "tape" "[I", Cond.fieldLink RX11 13 "CrowToll" "onTape" "I", Cond.methodLink RX11 111 yX6_read, Cond.instanceMethod yX6_read, Cond.selects RX6 yX6_read yX6_read, Cond.initialized RX6, Cond.code yX6_read cX6_read 5 (some .boolean), Cond.fieldLink RX6 22 "CrowToll$Reader" "text" "[I", Cond.methodLink RX6 26 Lib.Math.min.name, Cond.static Lib.Math.min.name, Cond.initialized "java/lang/Math", Cond.code Lib.Math.min.name Lib.Math.min.code 2 (some .int), Cond.fieldLink RX6 32 "CrowToll$Reader" "length" "I", Cond.fieldLink RX6 35 "CrowToll$Reader" "at" "I", Cond.fieldLink RX6 38 "CrowToll$Reader" "fault" "I", Cond.fieldLink RX6 18 "CrowToll$Reader" "faultPlace" "I", Cond.fieldLink RX6 12 "CrowToll$Reader" "draft" "LCrowToll$Road;", Cond.methodLink RX6 41 yX7_clear, Cond.instanceMethod yX7_clear, Cond.selects RX7 yX7_clear yX7_clear, Cond.initialized RX7, Cond.code yX7_clear cX7_clear 1 none, Cond.fieldLink RX7 59 "CrowToll$Road" "birds" "I", Cond.fieldLink RX7 63 "CrowToll$Road" "posts" "I", Cond.fieldLink RX7 66 "CrowToll$Road" "carts" "I", Cond.fieldLink RX7 69 "CrowToll$Road" "maybe" "I", Cond.fieldLink RX7 25 "CrowToll$Road" "seatOf" "[I", Cond.methodLink RX7 72 yJ7_fill_53178, Cond.static yJ7_fill_53178, Cond.initialized RJ7, Cond.code yJ7_fill_53178 cJ7_fill_53178 4 none, Cond.fieldLink RX7 40 "CrowToll$Road" "seated" "[I", Cond.fieldLink RX7 55 "CrowToll$Road" "law" "LCrowToll$Law;", Cond.methodLink RX7 78 yX4_clear, Cond.instanceMethod yX4_clear, Cond.selects RX4 yX4_clear yX4_clear, Cond.initialized RX4, Cond.code yX4_clear cX4_clear 1 none, Cond.fieldLink RX4 18 "CrowToll$Law" "steps" "I", Cond.fieldLink RX4 22 "CrowToll$Law" "units" "I", Cond.fieldLink RX4 25 "CrowToll$Law" "isTold" "Z", Cond.methodLink RX6 44 yX6_next, Cond.instanceMethod yX6_next, Cond.selects RX6 yX6_next yX6_next, Cond.code yX6_next cX6_next 1 none, Cond.fieldLink RX6 212 "CrowToll$Reader" "place" "I", Cond.fieldLink RX6 47 "CrowToll$Reader" "kind" "I", Cond.fieldLink RX11 27 "CrowToll" "told" "LCrowToll$Road;", Cond.fieldLink RX11 115 "CrowToll$Reader" "draft" "LCrowToll$Road;", Cond.methodLink RX11 118 yX7_becomes, Cond.instanceMethod yX7_becomes, Cond.selects RX7 yX7_becomes yX7_becomes, Cond.code yX7_becomes cX7_becomes 2 none, Cond.fieldLink RX7 15 "CrowToll$Road" "counts" "[I", Cond.methodLink RX7 81 arraycopyName, Cond.native arraycopyName, Cond.static arraycopyName, Cond.initialized "java/lang/System", Cond.fieldLink RX7 19 "CrowToll$Road" "gap" "[I", Cond.fieldLink RX7 22 "CrowToll$Road" "takes" "[I", Cond.fieldLink RX7 31 "CrowToll$Road" "at" "[I", Cond.fieldLink RX7 34 "CrowToll$Road" "toll" "[I", Cond.fieldLink RX7 37 "CrowToll$Road" "seat" "[I", Cond.fieldLink RX7 46 "CrowToll$Road" "minute" "[I", Cond.fieldLink RX7 49 "CrowToll$Road" "sacks" "[I", Cond.methodLink RX7 87 yX4_becomes, Cond.instanceMethod yX4_becomes, Cond.selects RX4 yX4_becomes yX4_becomes, Cond.code yX4_becomes cX4_becomes 2 none, Cond.fieldLink RX4 11 "CrowToll$Law" "step" "[I", Cond.methodLink RX4 29 arraycopyName, Cond.fieldLink RX11 63 "CrowToll" "prices" "LCrowToll$Prices;", Cond.methodLink RX11 121 yX5_forget, Cond.instanceMethod yX5_forget, Cond.selects RX5 yX5_forget yX5_forget, Cond.initialized RX5, Cond.code yX5_forget cX5_forget 1 none, Cond.fieldLink RX5 9 "CrowToll$Prices" "sacksKnown" "[I", Cond.methodLink RX5 22 yJ7_fill_53178, Cond.fieldLink RX11 37 "CrowToll" "stand" "LCrowToll$Stand;", Cond.methodLink RX11 41 yX9_asTold, Cond.instanceMethod yX9_asTold, Cond.selects RX9 yX9_asTold yX9_asTold, Cond.initialized RX9, Cond.code yX9_asTold cX9_asTold 3 none, Cond.fieldLink RX9 21 "CrowToll$Stand" "carts" "I", Cond.fieldLink RX9 25 "CrowToll$Road" "carts" "I", Cond.fieldLink RX9 34 "CrowToll$Road" "maybe" "I", Cond.fieldLink RX9 37 "CrowToll$Stand" "comes" "I", Cond.fieldLink RX9 40 "CrowToll$Road" "counts" "[I", Cond.fieldLink RX9 18 "CrowToll$Stand" "counts" "[I", Cond.methodLink RX9 41 arraycopyName, Cond.fieldLink RX11 55 "CrowToll" "acts" "LCrowToll$Acts;", Cond.methodLink RX11 124 yX0_forget, Cond.instanceMethod yX0_forget, Cond.selects RX0 yX0_forget yX0_forget, Cond.initialized RX0, Cond.code yX0_forget cX0_forget 1 none, Cond.fieldLink RX0 21 "CrowToll$Acts" "done" "I", Cond.fieldLink RX0 25 "CrowToll$Acts" "kept" "I", Cond.fieldLink RX11 93 "CrowToll" "sights" "LCrowToll$Sights;", Cond.methodLink RX11 125 yX8_forget, Cond.instanceMethod yX8_forget, Cond.selects RX8 yX8_forget yX8_forget, Cond.initialized RX8, Cond.code yX8_forget cX8_forget 1 none, Cond.fieldLink RX8 49 "CrowToll$Sights" "size" "I", Cond.fieldLink RX11 100 "CrowToll" "lyingThere" "I", Cond.fieldLink RX11 45 "CrowToll" "boxes" "[LCrowToll$Stand;", Cond.fieldLink RX11 49 "CrowToll$Stand" "carts" "I", Cond.fieldLink RX11 72 "CrowToll" "day" "LCrowToll$Day;", Cond.methodLink RX11 126 yX1_workOut, Cond.instanceMethod yX1_workOut, Cond.selects RX1 yX1_workOut yX1_workOut, Cond.initialized RX1, Cond.code yX1_workOut cX1_workOut 6 none, Cond.fieldLink RX1 25 "CrowToll$Day" "stand" "LCrowToll$Stand;", Cond.fieldLink RX1 18 "CrowToll$Day" "order" "[I", Cond.methodLink RX1 48 yX9_coming, Cond.instanceMethod yX9_coming, Cond.selects RX9 yX9_coming yX9_coming, Cond.code yX9_coming cX9_coming 4 (some .int), Cond.fieldLink RX1 54 "CrowToll$Stand" "minute" "[I", Cond.code yX11_putByMinutes cX11_putByMinutes 6 none, Cond.static yX11_putByMinutes, Cond.initialized RX11, Cond.fieldLink RX1 9 "CrowToll$Day" "counter" "[I", Cond.methodLink RX1 42 yJ7_fill_53178, Cond.fieldLink RX1 15 "CrowToll$Day" "paid" "[I", Cond.fieldLink RX1 38 "CrowToll$Day" "watch" "LCrowToll$Watch;", Cond.fieldLink RX1 61 "CrowToll$Stand" "counts" "[I", Cond.methodLink RX1 64 yX10_sit, Cond.instanceMethod yX10_sit, Cond.selects RX10 yX10_sit yX10_sit, Cond.initialized RX10, Cond.code yX10_sit cX10_sit 2 none, Cond.fieldLink RX10 9 "CrowToll$Watch" "limit" "[I", Cond.methodLink RX10 37 arraycopyName, Cond.fieldLink RX10 33 "CrowToll$Watch" "road" "LCrowToll$Road;", Cond.fieldLink RX10 43 "CrowToll$Road" "seat" "[I", Cond.fieldLink RX10 15 "CrowToll$Watch" "seat" "[I", Cond.fieldLink RX10 46 "CrowToll$Road" "seated" "[I", Cond.fieldLink RX10 18 "CrowToll$Watch" "seated" "[I", Cond.methodLink RX10 47 yX10_begin, Cond.instanceMethod yX10_begin, Cond.selects RX10 yX10_begin yX10_begin, Cond.code yX10_begin cX10_begin 1 none, Cond.fieldLink RX10 21 "CrowToll$Watch" "count" "[I", Cond.methodLink RX10 54 yJ7_fill_53178, Cond.fieldLink RX10 24 "CrowToll$Watch" "total" "[I", Cond.fieldLink RX10 27 "CrowToll$Watch" "lookedAt" "[I", Cond.fieldLink RX10 30 "CrowToll$Watch" "countedAt" "[I", Cond.fieldLink RX1 21 "CrowToll$Day" "road" "LCrowToll$Road;", Cond.fieldLink RX1 68 "CrowToll$Road" "posts" "I"] : List Cond) ++ wsX00 ++ wsX10 ++ wsX40 ++ wsX50 ++ wsX60 ++ wsX70 ++ wsX80 ++ wsX90 ++ wsX100 ++ wsX110)
set_option maxRecDepth 20000 in
theorem gr_c_X11_road_c_X6_read : GoodIn wq_c_X11_road wq_c_X6_read := List.forall_mem_cons.mpr ⟨⟨(List.mem_of_getElem? (i := 8) rfl), good_of_word rfl⟩, List.forall_mem_append.mpr ⟨List.forall_mem_append.mpr ⟨List.forall_mem_append.mpr ⟨List.forall_mem_cons.mpr ⟨⟨(List.mem_of_getElem? (i := 9) rfl), good_of_word rfl⟩, List.forall_mem_cons.mpr ⟨⟨(List.mem_of_getElem? (i := 10) rfl), good_of_word rfl⟩, List.forall_mem_cons.mpr ⟨⟨(List.mem_of_getElem? (i := 11) rfl), good_of_word rfl⟩, List.forall_mem_cons.mpr ⟨⟨(List.mem_of_getElem? (i := 12) rfl), good_of_word rfl⟩, List.forall_mem_cons.mpr ⟨⟨(List.mem_of_getElem? (i := 13) rfl), good_of_word rfl⟩, List.forall_mem_cons.mpr ⟨⟨(List.mem_of_getElem? (i := 14) rfl), good_of_word rfl⟩, List.forall_mem_cons.mpr ⟨⟨(List.mem_of_getElem? (i := 15) rfl), good_of_word rfl⟩, List.forall_mem_cons.mpr ⟨⟨(List.mem_of_getElem? (i := 16) rfl), good_of_word rfl⟩, List.forall_mem_cons.mpr ⟨⟨(List.mem_of_getElem? (i := 17) rfl), good_of_word rfl⟩, List.forall_mem_cons.mpr ⟨⟨(List.mem_of_getElem? (i := 18) rfl), good_of_word rfl⟩, List.forall_mem_cons.mpr ⟨⟨(List.mem_of_getElem? (i := 19) rfl), good_of_word rfl⟩, List.forall_mem_cons.mpr ⟨⟨(List.mem_of_getElem? (i := 20) rfl), good_of_word rfl⟩, List.forall_mem_cons.mpr ⟨⟨(List.mem_of_getElem? (i := 21) rfl), good_of_word rfl⟩, List.forall_mem_cons.mpr ⟨⟨(List.mem_of_getElem? (i := 22) rfl), good_of_word rfl⟩, List.forall_mem_cons.mpr ⟨⟨(List.mem_of_getElem? (i := 23) rfl), good_of_word rfl⟩, List.forall_mem_cons.mpr ⟨⟨(List.mem_of_getElem? (i := 24) rfl), good_of_word rfl⟩, List.forall_mem_cons.mpr ⟨⟨(List.mem_of_getElem? (i := 25) rfl), good_of_word rfl⟩, List.forall_mem_cons.mpr ⟨⟨(List.mem_of_getElem? (i := 26) rfl), good_of_word rfl⟩, List.forall_mem_cons.mpr ⟨⟨(List.mem_of_getElem? (i := 27) rfl), good_of_word rfl⟩, List.forall_mem_cons.mpr ⟨⟨(List.mem_of_getElem? (i := 28) rfl), good_of_word rfl⟩, List.forall_mem_cons.mpr ⟨⟨(List.mem_of_getElem? (i := 29) rfl), good_of_word rfl⟩, List.forall_mem_cons.mpr ⟨⟨(List.mem_of_getElem? (i := 30) rfl), good_of_word rfl⟩, List.forall_mem_cons.mpr ⟨⟨(List.mem_of_getElem? (i := 31) rfl), good_of_word rfl⟩, List.forall_mem_cons.mpr ⟨⟨(List.mem_of_getElem? (i := 32) rfl), good_of_word rfl⟩, List.forall_mem_cons.mpr ⟨⟨(List.mem_of_getElem? (i := 33) rfl), good_of_word rfl⟩, List.forall_mem_cons.mpr ⟨⟨(List.mem_of_getElem? (i := 34) rfl), good_of_word rfl⟩, List.forall_mem_cons.mpr ⟨⟨(List.mem_of_getElem? (i := 35) rfl), good_of_word rfl⟩, List.forall_mem_cons.mpr ⟨⟨(List.mem_of_getElem? (i := 36) rfl), good_of_word rfl⟩, List.forall_mem_cons.mpr ⟨⟨(List.mem_of_getElem? (i := 37) rfl), good_of_word rfl⟩, List.forall_mem_cons.mpr ⟨⟨(List.mem_of_getElem? (i := 38) rfl), good_of_word rfl⟩, List.forall_mem_cons.mpr ⟨⟨(List.mem_of_getElem? (i := 39) rfl), good_of_word rfl⟩, List.forall_mem_cons.mpr ⟨⟨(List.mem_of_getElem? (i := 40) rfl), good_of_word rfl⟩, List.forall_mem_cons.mpr ⟨⟨(List.mem_of_getElem? (i := 41) rfl), good_of_word rfl⟩, List.forall_mem_cons.mpr ⟨⟨(List.mem_of_getElem? (i := 42) rfl), good_of_word rfl⟩, List.forall_mem_cons.mpr ⟨⟨(List.mem_of_getElem? (i := 43) rfl), good_of_word rfl⟩, List.forall_mem_cons.mpr ⟨⟨(List.mem_of_getElem? (i := 44) rfl), good_of_word rfl⟩, List.forall_mem_cons.mpr ⟨⟨(List.mem_of_getElem? (i := 45) rfl), good_of_word rfl⟩, List.forall_mem_cons.mpr ⟨⟨(List.mem_of_getElem? (i := 7) rfl), good_of_word rfl⟩, List.forall_mem_cons.mpr ⟨⟨(List.mem_of_getElem? (i := 46) rfl), good_of_word rfl⟩, List.forall_mem_cons.mpr ⟨⟨(List.mem_of_getElem? (i := 47) rfl), good_of_word rfl⟩, List.forall_mem_cons.mpr ⟨⟨(List.mem_of_getElem? (i := 48) rfl), good_of_word rfl⟩, (fun _ h => absurd h List.not_mem_nil)⟩⟩⟩⟩⟩⟩⟩⟩⟩⟩⟩⟩⟩⟩⟩⟩⟩⟩⟩⟩⟩⟩⟩⟩⟩⟩⟩⟩⟩⟩⟩⟩⟩⟩⟩⟩⟩⟩⟩⟩⟩, fun w h => ⟨(fun w h => List.mem_cons_of_mem _ (List.mem_append_left _ (List.mem_append_left _ (List.mem_append_left _ (List.mem_append_left _ (List.mem_append_left _ (List.mem_append_left _ (List.mem_append_left _ (List.mem_append_right _ h))))))))) w h, good_of_word (List.all_eq_true.mp gw_X4 w h)⟩⟩, fun w h => ⟨(fun w h => List.mem_cons_of_mem _ (List.mem_append_left _ (List.mem_append_left _ (List.mem_append_left _ (List.mem_append_left _ (List.mem_append_left _ (List.mem_append_right _ h))))))) w h, good_of_word (List.all_eq_true.mp gw_X6 w h)⟩⟩, fun w h => ⟨(fun w h => List.mem_cons_of_mem _ (List.mem_append_left _ (List.mem_append_left _ (List.mem_append_left _ (List.mem_append_left _ (List.mem_append_right _ h)))))) w h, good_of_word (List.all_eq_true.mp gw_X7 w h)⟩⟩⟩
set_option maxRecDepth 20000 in
theorem gq_c_X11_road_c_X6_read_111 : GoodIn wq_c_X11_road (wsV RX11 111 RX6 yX6_read wq_c_X6_read) := goodIn_app (List.forall_mem_cons.mpr ⟨⟨(List.mem_of_getElem? (i := 4) rfl), good_of_word rfl⟩, List.forall_mem_cons.mpr ⟨⟨(List.mem_of_getElem? (i := 5) rfl), good_of_word rfl⟩, List.forall_mem_cons.mpr ⟨⟨(List.mem_of_getElem? (i := 6) rfl), good_of_word rfl⟩, List.forall_mem_cons.mpr ⟨⟨(List.mem_of_getElem? (i := 7) rfl), good_of_word rfl⟩, (fun _ h => absurd h List.not_mem_nil)⟩⟩⟩⟩) gr_c_X11_road_c_X6_read
set_option maxRecDepth 20000 in
theorem gr_c_X11_road_c_X7_becomes : GoodIn wq_c_X11_road wq_c_X7_becomes := List.forall_mem_cons.mpr ⟨⟨(List.mem_of_getElem? (i := 54) rfl), good_of_word rfl⟩, List.forall_mem_append.mpr ⟨List.forall_mem_append.mpr ⟨List.forall_mem_cons.mpr ⟨⟨(List.mem_of_getElem? (i := 24) rfl), good_of_word rfl⟩, List.forall_mem_cons.mpr ⟨⟨(List.mem_of_getElem? (i := 25) rfl), good_of_word rfl⟩, List.forall_mem_cons.mpr ⟨⟨(List.mem_of_getElem? (i := 26) rfl), good_of_word rfl⟩, List.forall_mem_cons.mpr ⟨⟨(List.mem_of_getElem? (i := 27) rfl), good_of_word rfl⟩, List.forall_mem_cons.mpr ⟨⟨(List.mem_of_getElem? (i := 55) rfl), good_of_word rfl⟩, List.forall_mem_cons.mpr ⟨⟨(List.mem_of_getElem? (i := 56) rfl), good_of_word rfl⟩, List.forall_mem_cons.mpr ⟨⟨(List.mem_of_getElem? (i := 57) rfl), good_of_word rfl⟩, List.forall_mem_cons.mpr ⟨⟨(List.mem_of_getElem? (i := 58) rfl), good_of_word rfl⟩, List.forall_mem_cons.mpr ⟨⟨(List.mem_of_getElem? (i := 59) rfl), good_of_word rfl⟩, List.forall_mem_cons.mpr ⟨⟨(List.mem_of_getElem? (i := 60) rfl), good_of_word rfl⟩, List.forall_mem_cons.mpr ⟨⟨(List.mem_of_getElem? (i := 61) rfl), good_of_word rfl⟩, List.forall_mem_cons.mpr ⟨⟨(List.mem_of_getElem? (i := 28) rfl), good_of_word rfl⟩, List.forall_mem_cons.mpr ⟨⟨(List.mem_of_getElem? (i := 62) rfl), good_of_word rfl⟩, List.forall_mem_cons.mpr ⟨⟨(List.mem_of_getElem? (i := 63) rfl), good_of_word rfl⟩, List.forall_mem_cons.mpr ⟨⟨(List.mem_of_getElem? (i := 64) rfl), good_of_word rfl⟩, List.forall_mem_cons.mpr ⟨⟨(List.mem_of_getElem? (i := 33) rfl), good_of_word rfl⟩, List.forall_mem_cons.mpr ⟨⟨(List.mem_of_getElem? (i := 65) rfl), good_of_word rfl⟩, List.forall_mem_cons.mpr ⟨⟨(List.mem_of_getElem? (i := 66) rfl), good_of_word rfl⟩, List.forall_mem_cons.mpr ⟨⟨(List.mem_of_getElem? (i := 34) rfl), good_of_word rfl⟩, List.forall_mem_cons.mpr ⟨⟨(List.mem_of_getElem? (i := 67) rfl), good_of_word rfl⟩, List.forall_mem_cons.mpr ⟨⟨(List.mem_of_getElem? (i := 68) rfl), good_of_word rfl⟩, List.forall_mem_cons.mpr ⟨⟨(List.mem_of_getElem? (i := 69) rfl), good_of_word rfl⟩, List.forall_mem_cons.mpr ⟨⟨(List.mem_of_getElem? (i := 38) rfl), good_of_word rfl⟩, List.forall_mem_cons.mpr ⟨⟨(List.mem_of_getElem? (i := 70) rfl), good_of_word rfl⟩, List.forall_mem_cons.mpr ⟨⟨(List.mem_of_getElem? (i := 40) rfl), good_of_word rfl⟩, List.forall_mem_cons.mpr ⟨⟨(List.mem_of_getElem? (i := 41) rfl), good_of_word rfl⟩, List.forall_mem_cons.mpr ⟨⟨(List.mem_of_getElem? (i := 42) rfl), good_of_word rfl⟩, List.forall_mem_cons.mpr ⟨⟨(List.mem_of_getElem? (i := 71) rfl), good_of_word rfl⟩, List.forall_mem_cons.mpr ⟨⟨(List.mem_of_getElem? (i := 72) rfl), good_of_word rfl⟩, (fun _ h => absurd h List.not_mem_nil)⟩⟩⟩⟩⟩⟩⟩⟩⟩⟩⟩⟩⟩⟩⟩⟩⟩⟩⟩⟩⟩⟩⟩⟩⟩⟩⟩⟩⟩, fun w h => ⟨(fun w h => List.mem_cons_of_mem _ (List.mem_append_left _ (List.mem_append_left _ (List.mem_append_left _ (List.mem_append_left _ (List.mem_append_left _ (List.mem_append_left _ (List.mem_append_left _ (List.mem_append_right _ h))))))))) w h, good_of_word (List.all_eq_true.mp gw_X4 w h)⟩⟩, fun w h => ⟨(fun w h => List.mem_cons_of_mem _ (List.mem_append_left _ (List.mem_append_left _ (List.mem_append_left _ (List.mem_append_left _ (List.mem_append_right _ h)))))) w h, good_of_word (List.all_eq_true.mp gw_X7 w h)⟩⟩⟩
set_option maxRecDepth 20000 in
theorem gq_c_X11_road_c_X7_becomes_118 : GoodIn wq_c_X11_road (wsV RX11 118 RX7 yX7_becomes wq_c_X7_becomes) := goodIn_app (List.forall_mem_cons.mpr ⟨⟨(List.mem_of_getElem? (i := 51) rfl), good_of_word rfl⟩, List.forall_mem_cons.mpr ⟨⟨(List.mem_of_getElem? (i := 52) rfl), good_of_word rfl⟩, List.forall_mem_cons.mpr ⟨⟨(List.mem_of_getElem? (i := 53) rfl), good_of_word rfl⟩, List.forall_mem_cons.mpr ⟨⟨(List.mem_of_getElem? (i := 22) rfl), good_of_word rfl⟩, (fun _ h => absurd h List.not_mem_nil)⟩⟩⟩⟩) gr_c_X11_road_c_X7_becomes
set_option maxRecDepth 20000 in
theorem gr_c_X11_road_c_X5_forget : GoodIn wq_c_X11_road wq_c_X5_forget := List.forall_mem_cons.mpr ⟨⟨(List.mem_of_getElem? (i := 78) rfl), good_of_word rfl⟩, List.forall_mem_append.mpr ⟨List.forall_mem_cons.mpr ⟨⟨(List.mem_of_getElem? (i := 79) rfl), good_of_word rfl⟩, List.forall_mem_cons.mpr ⟨⟨(List.mem_of_getElem? (i := 80) rfl), good_of_word rfl⟩, List.forall_mem_cons.mpr ⟨⟨(List.mem_of_getElem? (i := 30) rfl), good_of_word rfl⟩, List.forall_mem_cons.mpr ⟨⟨(List.mem_of_getElem? (i := 31) rfl), good_of_word rfl⟩, List.forall_mem_cons.mpr ⟨⟨(List.mem_of_getElem? (i := 32) rfl), good_of_word rfl⟩, (fun _ h => absurd h List.not_mem_nil)⟩⟩⟩⟩⟩, fun w h => ⟨(fun w h => List.mem_cons_of_mem _ (List.mem_append_left _ (List.mem_append_left _ (List.mem_append_left _ (List.mem_append_left _ (List.mem_append_left _ (List.mem_append_left _ (List.mem_append_right _ h)))))))) w h, good_of_word (List.all_eq_true.mp gw_X5 w h)⟩⟩⟩
set_option maxRecDepth 20000 in
theorem gq_c_X11_road_c_X5_forget_121 : GoodIn wq_c_X11_road (wsV RX11 121 RX5 yX5_forget wq_c_X5_forget) := goodIn_app (List.forall_mem_cons.mpr ⟨⟨(List.mem_of_getElem? (i := 74) rfl), good_of_word rfl⟩, List.forall_mem_cons.mpr ⟨⟨(List.mem_of_getElem? (i := 75) rfl), good_of_word rfl⟩, List.forall_mem_cons.mpr ⟨⟨(List.mem_of_getElem? (i := 76) rfl), good_of_word rfl⟩, List.forall_mem_cons.mpr ⟨⟨(List.mem_of_getElem? (i := 77) rfl), good_of_word rfl⟩, (fun _ h => absurd h List.not_mem_nil)⟩⟩⟩⟩) gr_c_X11_road_c_X5_forget
set_option maxRecDepth 20000 in
theorem gr_c_X11_road_c_X9_asTold : GoodIn wq_c_X11_road wq_c_X9_asTold := List.forall_mem_cons.mpr ⟨⟨(List.mem_of_getElem? (i := 86) rfl), good_of_word rfl⟩, List.forall_mem_append.mpr ⟨List.forall_mem_append.mpr ⟨List.forall_mem_cons.mpr ⟨⟨(List.mem_of_getElem? (i := 87) rfl), good_of_word rfl⟩, List.forall_mem_cons.mpr ⟨⟨(List.mem_of_getElem? (i := 88) rfl), good_of_word rfl⟩, List.forall_mem_cons.mpr ⟨⟨(List.mem_of_getElem? (i := 89) rfl), good_of_word rfl⟩, List.forall_mem_cons.mpr ⟨⟨(List.mem_of_getElem? (i := 90) rfl), good_of_word rfl⟩, List.forall_mem_cons.mpr ⟨⟨(List.mem_of_getElem? (i := 91) rfl), good_of_word rfl⟩, List.forall_mem_cons.mpr ⟨⟨(List.mem_of_getElem? (i := 92) rfl), good_of_word rfl⟩, List.forall_mem_cons.mpr ⟨⟨(List.mem_of_getElem? (i := 93) rfl), good_of_word rfl⟩, List.forall_mem_cons.mpr ⟨⟨(List.mem_of_getElem? (i := 57) rfl), good_of_word rfl⟩, List.forall_mem_cons.mpr ⟨⟨(List.mem_of_getElem? (i := 58) rfl), good_of_word rfl⟩, List.forall_mem_cons.mpr ⟨⟨(List.mem_of_getElem? (i := 59) rfl), good_of_word rfl⟩, (fun _ h => absurd h List.not_mem_nil)⟩⟩⟩⟩⟩⟩⟩⟩⟩⟩, fun w h => ⟨(fun w h => List.mem_cons_of_mem _ (List.mem_append_left _ (List.mem_append_left _ (List.mem_append_left _ (List.mem_append_left _ (List.mem_append_right _ h)))))) w h, good_of_word (List.all_eq_true.mp gw_X7 w h)⟩⟩, fun w h => ⟨(fun w h => List.mem_cons_of_mem _ (List.mem_append_left _ (List.mem_append_left _ (List.mem_append_right _ h)))) w h, good_of_word (List.all_eq_true.mp gw_X9 w h)⟩⟩⟩
set_option maxRecDepth 20000 in
theorem gq_c_X11_road_c_X9_asTold_41 : GoodIn wq_c_X11_road (wsV RX11 41 RX9 yX9_asTold wq_c_X9_asTold) := goodIn_app (List.forall_mem_cons.mpr ⟨⟨(List.mem_of_getElem? (i := 82) rfl), good_of_word rfl⟩, List.forall_mem_cons.mpr ⟨⟨(List.mem_of_getElem? (i := 83) rfl), good_of_word rfl⟩, List.forall_mem_cons.mpr ⟨⟨(List.mem_of_getElem? (i := 84) rfl), good_of_word rfl⟩, List.forall_mem_cons.mpr ⟨⟨(List.mem_of_getElem? (i := 85) rfl), good_of_word rfl⟩, (fun _ h => absurd h List.not_mem_nil)⟩⟩⟩⟩) gr_c_X11_road_c_X9_asTold
set_option maxRecDepth 20000 in
theorem gr_c_X11_road_c_X0_forget : GoodIn wq_c_X11_road wq_c_X0_forget := List.forall_mem_cons.mpr ⟨⟨(List.mem_of_getElem? (i := 99) rfl), good_of_word rfl⟩, List.forall_mem_append.mpr ⟨List.forall_mem_cons.mpr ⟨⟨(List.mem_of_getElem? (i := 100) rfl), good_of_word rfl⟩, List.forall_mem_cons.mpr ⟨⟨(List.mem_of_getElem? (i := 101) rfl), good_of_word rfl⟩, (fun _ h => absurd h List.not_mem_nil)⟩⟩, fun w h => ⟨(fun w h => List.mem_cons_of_mem _ (List.mem_append_left _ (List.mem_append_left _ (List.mem_append_left _ (List.mem_append_left _ (List.mem_append_left _ (List.mem_append_left _ (List.mem_append_left _ (List.mem_append_left _ (List.mem_append_left _ (List.mem_append_right _ h))))))))))) w h, good_of_word (List.all_eq_true.mp gw_X0 w h)⟩⟩⟩
set_option maxRecDepth 20000 in
theorem gq_c_X11_road_c_X0_forget_124 : GoodIn wq_c_X11_road (wsV RX11 124 RX0 yX0_forget wq_c_X0_forget) := goodIn_app (List.forall_mem_cons.mpr ⟨⟨(List.mem_of_getElem? (i := 95) rfl), good_of_word rfl⟩, List.forall_mem_cons.mpr ⟨⟨(List.mem_of_getElem? (i := 96) rfl), good_of_word rfl⟩, List.forall_mem_cons.mpr ⟨⟨(List.mem_of_getElem? (i := 97) rfl), good_of_word rfl⟩, List.forall_mem_cons.mpr ⟨⟨(List.mem_of_getElem? (i := 98) rfl), good_of_word rfl⟩, (fun _ h => absurd h List.not_mem_nil)⟩⟩⟩⟩) gr_c_X11_road_c_X0_forget
set_option maxRecDepth 20000 in
theorem gr_c_X11_road_c_X8_forget : GoodIn wq_c_X11_road wq_c_X8_forget := List.forall_mem_cons.mpr ⟨⟨(List.mem_of_getElem? (i := 107) rfl), good_of_word rfl⟩, List.forall_mem_append.mpr ⟨List.forall_mem_cons.mpr ⟨⟨(List.mem_of_getElem? (i := 108) rfl), good_of_word rfl⟩, (fun _ h => absurd h List.not_mem_nil)⟩, fun w h => ⟨(fun w h => List.mem_cons_of_mem _ (List.mem_append_left _ (List.mem_append_left _ (List.mem_append_left _ (List.mem_append_right _ h))))) w h, good_of_word (List.all_eq_true.mp gw_X8 w h)⟩⟩⟩
set_option maxRecDepth 20000 in
theorem gq_c_X11_road_c_X8_forget_125 : GoodIn wq_c_X11_road (wsV RX11 125 RX8 yX8_forget wq_c_X8_forget) := goodIn_app (List.forall_mem_cons.mpr ⟨⟨(List.mem_of_getElem? (i := 103) rfl), good_of_word rfl⟩, List.forall_mem_cons.mpr ⟨⟨(List.mem_of_getElem? (i := 104) rfl), good_of_word rfl⟩, List.forall_mem_cons.mpr ⟨⟨(List.mem_of_getElem? (i := 105) rfl), good_of_word rfl⟩, List.forall_mem_cons.mpr ⟨⟨(List.mem_of_getElem? (i := 106) rfl), good_of_word rfl⟩, (fun _ h => absurd h List.not_mem_nil)⟩⟩⟩⟩) gr_c_X11_road_c_X8_forget
set_option maxRecDepth 20000 in
theorem gr_c_X11_road_c_workOut0 : GoodIn wq_c_X11_road wq_c_workOut0 := List.forall_mem_cons.mpr ⟨⟨(List.mem_of_getElem? (i := 117) rfl), good_of_word rfl⟩, List.forall_mem_append.mpr ⟨List.forall_mem_append.mpr ⟨List.forall_mem_append.mpr ⟨List.forall_mem_append.mpr ⟨List.forall_mem_cons.mpr ⟨⟨(List.mem_of_getElem? (i := 118) rfl), good_of_word rfl⟩, List.forall_mem_cons.mpr ⟨⟨(List.mem_of_getElem? (i := 119) rfl), good_of_word rfl⟩, List.forall_mem_cons.mpr ⟨⟨(List.mem_of_getElem? (i := 120) rfl), good_of_word rfl⟩, List.forall_mem_cons.mpr ⟨⟨(List.mem_of_getElem? (i := 121) rfl), good_of_word rfl⟩, List.forall_mem_cons.mpr ⟨⟨(List.mem_of_getElem? (i := 122) rfl), good_of_word rfl⟩, List.forall_mem_cons.mpr ⟨⟨(List.mem_of_getElem? (i := 85) rfl), good_of_word rfl⟩, List.forall_mem_cons.mpr ⟨⟨(List.mem_of_getElem? (i := 123) rfl), good_of_word rfl⟩, List.forall_mem_cons.mpr ⟨⟨(List.mem_of_getElem? (i := 87) rfl), good_of_word rfl⟩, List.forall_mem_cons.mpr ⟨⟨(List.mem_of_getElem? (i := 124) rfl), good_of_word rfl⟩, List.forall_mem_cons.mpr ⟨⟨(List.mem_of_getElem? (i := 125) rfl), good_of_word rfl⟩, List.forall_mem_cons.mpr ⟨⟨(List.mem_of_getElem? (i := 126) rfl), good_of_word rfl⟩, List.forall_mem_cons.mpr ⟨⟨(List.mem_of_getElem? (i := 127) rfl), good_of_word rfl⟩, List.forall_mem_cons.mpr ⟨⟨(List.mem_of_getElem? (i := 128) rfl), good_of_word rfl⟩, List.forall_mem_cons.mpr ⟨⟨(List.mem_of_getElem? (i := 129) rfl), good_of_word rfl⟩, List.forall_mem_cons.mpr ⟨⟨(List.mem_of_getElem? (i := 30) rfl), good_of_word rfl⟩, List.forall_mem_cons.mpr ⟨⟨(List.mem_of_getElem? (i := 31) rfl), good_of_word rfl⟩, List.forall_mem_cons.mpr ⟨⟨(List.mem_of_getElem? (i := 32) rfl), good_of_word rfl⟩, List.forall_mem_cons.mpr ⟨⟨(List.mem_of_getElem? (i := 130) rfl), good_of_word rfl⟩, List.forall_mem_cons.mpr ⟨⟨(List.mem_of_getElem? (i := 131) rfl), good_of_word rfl⟩, List.forall_mem_cons.mpr ⟨⟨(List.mem_of_getElem? (i := 132) rfl), good_of_word rfl⟩, List.forall_mem_cons.mpr ⟨⟨(List.mem_of_getElem? (i := 133) rfl), good_of_word rfl⟩, List.forall_mem_cons.mpr ⟨⟨(List.mem_of_getElem? (i := 134) rfl), good_of_word rfl⟩, List.forall_mem_cons.mpr ⟨⟨(List.mem_of_getElem? (i := 135) rfl), good_of_word rfl⟩, List.forall_mem_cons.mpr ⟨⟨(List.mem_of_getElem? (i := 136) rfl), good_of_word rfl⟩, List.forall_mem_cons.mpr ⟨⟨(List.mem_of_getElem? (i := 137) rfl), good_of_word rfl⟩, List.forall_mem_cons.mpr ⟨⟨(List.mem_of_getElem? (i := 138) rfl), good_of_word rfl⟩, List.forall_mem_cons.mpr ⟨⟨(List.mem_of_getElem? (i := 139) rfl), good_of_word rfl⟩, List.forall_mem_cons.mpr ⟨⟨(List.mem_of_getElem? (i := 57) rfl), good_of_word rfl⟩, List.forall_mem_cons.mpr ⟨⟨(List.mem_of_getElem? (i := 58) rfl), good_of_word rfl⟩, List.forall_mem_cons.mpr ⟨⟨(List.mem_of_getElem? (i := 59) rfl), good_of_word rfl⟩, List.forall_mem_cons.mpr ⟨⟨(List.mem_of_getElem? (i := 140) rfl), good_of_word rfl⟩, List.forall_mem_cons.mpr ⟨⟨(List.mem_of_getElem? (i := 141) rfl), good_of_word rfl⟩, List.forall_mem_cons.mpr ⟨⟨(List.mem_of_getElem? (i := 142) rfl), good_of_word rfl⟩, List.forall_mem_cons.mpr ⟨⟨(List.mem_of_getElem? (i := 143) rfl), good_of_word rfl⟩, List.forall_mem_cons.mpr ⟨⟨(List.mem_of_getElem? (i := 144) rfl), good_of_word rfl⟩, List.forall_mem_cons.mpr ⟨⟨(List.mem_of_getElem? (i := 145) rfl), good_of_word rfl⟩, List.forall_mem_cons.mpr ⟨⟨(List.mem_of_getElem? (i := 146) rfl), good_of_word rfl⟩, List.forall_mem_cons.mpr ⟨⟨(List.mem_of_getElem? (i := 147) rfl), good_of_word rfl⟩, List.forall_mem_cons.mpr ⟨⟨(List.mem_of_getElem? (i := 148) rfl), good_of_word rfl⟩, List.forall_mem_cons.mpr ⟨⟨(List.mem_of_getElem? (i := 149) rfl), good_of_word rfl⟩, List.forall_mem_cons.mpr ⟨⟨(List.mem_of_getElem? (i := 150) rfl), good_of_word rfl⟩, List.forall_mem_cons.mpr ⟨⟨(List.mem_of_getElem? (i := 151) rfl), good_of_word rfl⟩, List.forall_mem_cons.mpr ⟨⟨(List.mem_of_getElem? (i := 152) rfl), good_of_word rfl⟩, List.forall_mem_cons.mpr ⟨⟨(List.mem_of_getElem? (i := 153) rfl), good_of_word rfl⟩, List.forall_mem_cons.mpr ⟨⟨(List.mem_of_getElem? (i := 154) rfl), good_of_word rfl⟩, List.forall_mem_cons.mpr ⟨⟨(List.mem_of_getElem? (i := 155) rfl), good_of_word rfl⟩, (fun _ h => absurd h List.not_mem_nil)⟩⟩⟩⟩⟩⟩⟩⟩⟩⟩⟩⟩⟩⟩⟩⟩⟩⟩⟩⟩⟩⟩⟩⟩⟩⟩⟩⟩⟩⟩⟩⟩⟩⟩⟩⟩⟩⟩⟩⟩⟩⟩⟩⟩⟩⟩, fun w h => ⟨(fun w h => List.mem_cons_of_mem _ (List.mem_append_left _ (List.mem_append_left _ (List.mem_append_left _ (List.mem_append_left _ (List.mem_append_left _ (List.mem_append_left _ (List.mem_append_left _ (List.mem_append_left _ (List.mem_append_right _ h)))))))))) w h, good_of_word (List.all_eq_true.mp gw_X1 w h)⟩⟩, fun w h => ⟨(fun w h => List.mem_cons_of_mem _ (List.mem_append_left _ (List.mem_append_left _ (List.mem_append_left _ (List.mem_append_left _ (List.mem_append_right _ h)))))) w h, good_of_word (List.all_eq_true.mp gw_X7 w h)⟩⟩, fun w h => ⟨(fun w h => List.mem_cons_of_mem _ (List.mem_append_left _ (List.mem_append_left _ (List.mem_append_right _ h)))) w h, good_of_word (List.all_eq_true.mp gw_X9 w h)⟩⟩, fun w h => ⟨(fun w h => List.mem_cons_of_mem _ (List.mem_append_left _ (List.mem_append_right _ h))) w h, good_of_word (List.all_eq_true.mp gw_X10 w h)⟩⟩⟩
set_option maxRecDepth 20000 in
theorem gq_c_X11_road_c_workOut0_126 : GoodIn wq_c_X11_road (wsV RX11 126 RX1 yX1_workOut wq_c_workOut0) := goodIn_app (List.forall_mem_cons.mpr ⟨⟨(List.mem_of_getElem? (i := 113) rfl), good_of_word rfl⟩, List.forall_mem_cons.mpr ⟨⟨(List.mem_of_getElem? (i := 114) rfl), good_of_word rfl⟩, List.forall_mem_cons.mpr ⟨⟨(List.mem_of_getElem? (i := 115) rfl), good_of_word rfl⟩, List.forall_mem_cons.mpr ⟨⟨(List.mem_of_getElem? (i := 116) rfl), good_of_word rfl⟩, (fun _ h => absurd h List.not_mem_nil)⟩⟩⟩⟩) gr_c_X11_road_c_workOut0
set_option maxHeartbeats 8000000 in
set_option maxRecDepth 100000 in
theorem c_X11_road (l : Launch) (D : va_G) (cy : Nat → ClassId) (ad : Nat → Nat) (g : Nat → va_E) {f0 : List Value} {f1 : List Value} {f2 : List Value} {c3 : Nat → Int32} {c4 : Nat → Int32} {f5 : List Value} {c6 : Nat → Int32} {c7 : Nat → Int32} {f8 : List Value} {c9 : Nat → Int32} {c10 : Nat → Int32} {c11 : Nat → Int32} {c12 : Nat → Int32} {c13 : Nat → Int32} {c14 : Nat → Int32} {c15 : Nat → Int32} {c16 : Nat → Int32} {c17 : Nat → Int32} {c18 : Nat → Int32} {f19 : List Value} {c20 : Nat → Int32} {c21 : Nat → Int32} {c22 : Nat → Int32} {c23 : Nat → Int32} {c24 : Nat → Int32} {c25 : Nat → Int32} {c26 : Nat → Int32} {c27 : Nat → Int32} {c28 : Nat → Int32} {c29 : Nat → Int32} {f30 : List Value} {c31 : Nat → Int32} {f32 : List Value} {c33 : Nat → Int32} {f34 : List Value} {f35 : List Value} {f37 : List Value} {f38 : List Value} {f39 : List Value} {f40 : List Value} {c41 : Nat → Int32} {f42 : List Value} {c43 : Nat → Int32} {c44 : Nat → Int32} {c45 : Nat → Int32} {c46 : Nat → Int32} {c47 : Nat → Int32} {c48 : Nat → Int32} {c49 : Nat → Int32} {c50 : Nat → Int32} {c51 : Nat → Int32} {c52 : Nat → Int32} (o0 : g 0 = .inr (11, f0)) (f0_0 : f0[0]? = some (.ref (ad 7))) (f0_1 : f0[1]? = some (.int 0)) (f0_2 : f0[2]? = some (.ref (ad 1))) (f0_3 : f0[3]? = some (.ref (ad 8))) (f0_4 : f0[4]? = some (.ref (ad 32))) (f0_5 : f0[5]? = some (.ref (ad 36))) (f0_6 : f0[6]? = some (.ref (ad 34))) (f0_7 : f0[7]? = some (.ref (ad 30))) (f0_8 : f0[8]? = some (.ref (ad 40))) (f0_11 : f0[11]? = some (.ref (ad 35))) (f0_13 : f0[13]? = some (.int 0)) (o1 : g 1 = .inr (6, f1)) (f1_0 : f1[0]? = some (.ref (ad 2))) (f1_1 : f1[1]? = some (.int 0)) (f1_2 : f1[2]? = some (.int (-1))) (f1_3 : f1[3]? = some (.ref (ad 6))) (f1_4 : f1[4]? = some (.int 0)) (f1_5 : f1[5]? = some (.int 0)) (f1_6 : f1[6]? = some (.int 0)) (f1_7 : f1[7]? = some (.int 0)) (o2 : g 2 = .inr (7, f2)) (f2_1 : f2[1]? = some (.ref (ad 21))) (f2_2 : f2[2]? = some (.ref (ad 22))) (f2_3 : f2[3]? = some (.ref (ad 23))) (f2_4 : f2[4]? = some (.ref (ad 3))) (f2_5 : f2[5]? = some (.int 0)) (f2_7 : f2[7]? = some (.ref (ad 24))) (f2_8 : f2[8]? = some (.ref (ad 25))) (f2_9 : f2[9]? = some (.ref (ad 26))) (f2_10 : f2[10]? = some (.ref (ad 4))) (f2_11 : f2[11]? = some (.int 0)) (f2_13 : f2[13]? = some (.ref (ad 27))) (f2_14 : f2[14]? = some (.ref (ad 28))) (f2_15 : f2[15]? = some (.int 0)) (f2_16 : f2[16]? = some (.int 0)) (f2_17 : f2[17]? = some (.ref (ad 5))) (a3 : g 3 = .inl (cy 0, 5, .inl c3)) (a4 : g 4 = .inl (cy 0, 4, .inl c4)) (o5 : g 5 = .inr (4, f5)) (f5_0 : f5[0]? = some (.ref (ad 29))) (f5_1 : f5[1]? = some (.int 0)) (f5_2 : f5[2]? = some (.int 0)) (f5_3 : f5[3]? = some (.int 0)) (a6 : g 6 = .inl (cy 0, 0, .inl c6)) (a7 : g 7 = .inl (cy 0, 1600, .inl c7)) (o8 : g 8 = .inr (7, f8)) (f8_1 : f8[1]? = some (.ref (ad 9))) (f8_2 : f8[2]? = some (.ref (ad 10))) (f8_3 : f8[3]? = some (.ref (ad 11))) (f8_4 : f8[4]? = some (.ref (ad 12))) (f8_5 : f8[5]? = some (.int 0)) (f8_7 : f8[7]? = some (.ref (ad 13))) (f8_8 : f8[8]? = some (.ref (ad 14))) (f8_9 : f8[9]? = some (.ref (ad 15))) (f8_10 : f8[10]? = some (.ref (ad 16))) (f8_11 : f8[11]? = some (.int 0)) (f8_13 : f8[13]? = some (.ref (ad 17))) (f8_14 : f8[14]? = some (.ref (ad 18))) (f8_15 : f8[15]? = some (.int 0)) (f8_16 : f8[16]? = some (.int 0)) (f8_17 : f8[17]? = some (.ref (ad 19))) (a9 : g 9 = .inl (cy 0, 5, .inl c9)) (a10 : g 10 = .inl (cy 0, 5, .inl c10)) (a11 : g 11 = .inl (cy 0, 5, .inl c11)) (a12 : g 12 = .inl (cy 0, 5, .inl c12)) (a13 : g 13 = .inl (cy 0, 4, .inl c13)) (a14 : g 14 = .inl (cy 0, 4, .inl c14)) (a15 : g 15 = .inl (cy 0, 20, .inl c15)) (a16 : g 16 = .inl (cy 0, 4, .inl c16)) (a17 : g 17 = .inl (cy 0, 12, .inl c17)) (a18 : g 18 = .inl (cy 0, 12, .inl c18)) (o19 : g 19 = .inr (4, f19)) (f19_0 : f19[0]? = some (.ref (ad 20))) (f19_1 : f19[1]? = some (.int 0)) (f19_2 : f19[2]? = some (.int 0)) (f19_3 : f19[3]? = some (.int 0)) (a20 : g 20 = .inl (cy 0, 300, .inl c20)) (a21 : g 21 = .inl (cy 0, 5, .inl c21)) (a22 : g 22 = .inl (cy 0, 5, .inl c22)) (a23 : g 23 = .inl (cy 0, 5, .inl c23)) (a24 : g 24 = .inl (cy 0, 4, .inl c24)) (a25 : g 25 = .inl (cy 0, 4, .inl c25)) (a26 : g 26 = .inl (cy 0, 20, .inl c26)) (a27 : g 27 = .inl (cy 0, 12, .inl c27)) (a28 : g 28 = .inl (cy 0, 12, .inl c28)) (a29 : g 29 = .inl (cy 0, 300, .inl c29)) (o30 : g 30 = .inr (5, f30)) (f30_1 : f30[1]? = some (.ref (ad 31))) (a31 : g 31 = .inl (cy 0, 80, .inl c31)) (o32 : g 32 = .inr (9, f32)) (f32_0 : f32[0]? = some (.ref (ad 41))) (f32_2 : f32[2]? = some (.int (-1))) (f32_3 : f32[3]? = some (.ref (ad 33))) (f32_4 : f32[4]? = some (.int 0)) (a33 : g 33 = .inl (cy 0, 5, .inl c33)) (o34 : g 34 = .inr (0, f34)) (f34_3 : f34[3]? = some (.int 0)) (f34_4 : f34[4]? = some (.int 0)) (o35 : g 35 = .inr (8, f35)) (f35_7 : f35[7]? = some (.int 0)) (a36 : g 36 = .inl (cy 4, 3, .inr (.inr (.inr (.inr (va_up (va_up (va_up (fun _ => none) (0 : Int32).toNatClampNeg (some (ad 37))) (1 : Int32).toNatClampNeg (some (ad 38))) (2 : Int32).toNatClampNeg (some (ad 39)))))))) (o37 : g 37 = .inr (9, f37)) (f37_4 : f37[4]? = some (.int (-1))) (o38 : g 38 = .inr (9, f38)) (f38_4 : f38[4]? = some (.int (-1))) (o39 : g 39 = .inr (9, f39)) (f39_4 : f39[4]? = some (.int (-1))) (o40 : g 40 = .inr (1, f40)) (f40_0 : f40[0]? = some (.ref (ad 8))) (f40_1 : f40[1]? = some (.ref (ad 32))) (f40_3 : f40[3]? = some (.ref (ad 42))) (f40_4 : f40[4]? = some (.ref (ad 50))) (f40_5 : f40[5]? = some (.ref (ad 51))) (f40_6 : f40[6]? = some (.ref (ad 52))) (a41 : g 41 = .inl (cy 0, 24, .inl c41)) (o42 : g 42 = .inr (10, f42)) (f42_0 : f42[0]? = some (.ref (ad 8))) (f42_1 : f42[1]? = some (.ref (ad 43))) (f42_2 : f42[2]? = some (.ref (ad 44))) (f42_3 : f42[3]? = some (.ref (ad 45))) (f42_4 : f42[4]? = some (.ref (ad 46))) (f42_5 : f42[5]? = some (.ref (ad 47))) (f42_6 : f42[6]? = some (.ref (ad 48))) (f42_7 : f42[7]? = some (.ref (ad 49))) (a43 : g 43 = .inl (cy 0, 5, .inl c43)) (a44 : g 44 = .inl (cy 0, 20, .inl c44)) (a45 : g 45 = .inl (cy 0, 4, .inl c45)) (a46 : g 46 = .inl (cy 0, 5, .inl c46)) (a47 : g 47 = .inl (cy 0, 5, .inl c47)) (a48 : g 48 = .inl (cy 0, 5, .inl c48)) (a49 : g 49 = .inl (cy 0, 5, .inl c49)) (a50 : g 50 = .inl (cy 0, 96, .inl c50)) (a51 : g 51 = .inl (cy 0, 96, .inl c51)) (a52 : g 52 = .inl (cy 0, 24, .inl c52)) : cMi l yX11_road wq_c_X11_road { frames := 4, cells := 0, slots := 0, locals := 106 } 53 0 0 0 D cy ad g [.ref (ad 0)] (fun r nw lu => r = 0) := by
  refine cM_of (Qc := fun A => cQi (fun r nw lu => r = 0) D 53 0 ad g A) (cc := cX11_road) (maxL := 2) (ret := (some .int)) (by decide) rfl (Nat.le_of_ble_eq_true rfl) ?_
  intro p e s m below meth c A hC hr hlk hnm hO ls hl
  have hC : CallFix p m c cX11_road 2 s [.ref (ad 0)].toArray wq_c_X11_road RX11 := hC
  obtain ⟨hx, hb, hml, hown, hts⟩ := id hC
  have hl : lv_has ls 2 [(0, .ref (ad 0))] := hl
  have i_X0 : ∀ w ∈ wsX00, w ∈ wq_c_X11_road := fun w h => List.mem_cons_of_mem _ (List.mem_append_left _ (List.mem_append_left _ (List.mem_append_left _ (List.mem_append_left _ (List.mem_append_left _ (List.mem_append_left _ (List.mem_append_left _ (List.mem_append_left _ (List.mem_append_left _ (List.mem_append_right _ h))))))))))
  have i_X1 : ∀ w ∈ wsX10, w ∈ wq_c_X11_road := fun w h => List.mem_cons_of_mem _ (List.mem_append_left _ (List.mem_append_left _ (List.mem_append_left _ (List.mem_append_left _ (List.mem_append_left _ (List.mem_append_left _ (List.mem_append_left _ (List.mem_append_left _ (List.mem_append_right _ h)))))))))
  have i_X10 : ∀ w ∈ wsX100, w ∈ wq_c_X11_road := fun w h => List.mem_cons_of_mem _ (List.mem_append_left _ (List.mem_append_right _ h))
  have i_X11 : ∀ w ∈ wsX110, w ∈ wq_c_X11_road := fun w h => List.mem_cons_of_mem _ (List.mem_append_right _ h)
  have i_X4 : ∀ w ∈ wsX40, w ∈ wq_c_X11_road := fun w h => List.mem_cons_of_mem _ (List.mem_append_left _ (List.mem_append_left _ (List.mem_append_left _ (List.mem_append_left _ (List.mem_append_left _ (List.mem_append_left _ (List.mem_append_left _ (List.mem_append_right _ h))))))))
  have i_X5 : ∀ w ∈ wsX50, w ∈ wq_c_X11_road := fun w h => List.mem_cons_of_mem _ (List.mem_append_left _ (List.mem_append_left _ (List.mem_append_left _ (List.mem_append_left _ (List.mem_append_left _ (List.mem_append_left _ (List.mem_append_right _ h)))))))
  have i_X6 : ∀ w ∈ wsX60, w ∈ wq_c_X11_road := fun w h => List.mem_cons_of_mem _ (List.mem_append_left _ (List.mem_append_left _ (List.mem_append_left _ (List.mem_append_left _ (List.mem_append_left _ (List.mem_append_right _ h))))))
  have i_X7 : ∀ w ∈ wsX70, w ∈ wq_c_X11_road := fun w h => List.mem_cons_of_mem _ (List.mem_append_left _ (List.mem_append_left _ (List.mem_append_left _ (List.mem_append_left _ (List.mem_append_right _ h)))))
  have i_X8 : ∀ w ∈ wsX80, w ∈ wq_c_X11_road := fun w h => List.mem_cons_of_mem _ (List.mem_append_left _ (List.mem_append_left _ (List.mem_append_left _ (List.mem_append_right _ h))))
  have i_X9 : ∀ w ∈ wsX90, w ∈ wq_c_X11_road := fun w h => List.mem_cons_of_mem _ (List.mem_append_left _ (List.mem_append_left _ (List.mem_append_right _ h)))
  refine lv_aload_n hx hb dX11_road_0 rfl (lv_at hl 0 rfl) ?_
  refine cg_get hC hO 0 (by decide) o0 rfl i_X11 2 (by decide) (List.mem_of_getElem? (i := 1) rfl) f0_2 dX11_road_1 ?_
  refine lv_aload_n hx hb dX11_road_4 rfl (lv_at hl 0 rfl) ?_
  refine cg_get hC hO 0 (by decide) o0 rfl i_X11 0 (by decide) (List.mem_of_getElem? (i := 2) rfl) f0_0 dX11_road_5 ?_
  refine lv_aload_n hx hb dX11_road_8 rfl (lv_at hl 0 rfl) ?_
  refine cg_get hC hO 0 (by decide) o0 rfl i_X11 1 (by decide) (List.mem_of_getElem? (i := 3) rfl) f0_1 dX11_road_9 ?_
  refine cg_Vi (As := [.ref (ad 7), .int 0]) (rest := []) (mc := 0) (ms := 0) (rm := { frames := 2, cells := 0, slots := 0, locals := 43 }) hC hl.1 hO [1, 7, 2, 3, 4, 5, 6] rfl (c_X6_read l D cy _ _ (f0 := f1) (f2 := f2) (c3 := c3) (c4 := c4) (f5 := f5) (c6 := c6) (c1 := c7) o1 f1_0 f1_1 f1_2 f1_3 f1_4 f1_5 f1_6 f1_7 a7 o2 f2_4 f2_5 f2_10 f2_11 f2_15 f2_16 f2_17 a3 a4 o5 f5_1 f5_2 f5_3 a6) gq_c_X11_road_c_X6_read_111 rfl rfl rfl 2 (by decide +kernel) ⟨Nat.le_of_ble_eq_true rfl, Nat.le_of_ble_eq_true rfl⟩ rfl (by decide) o1 rfl rfl (Nat.le_of_ble_eq_true rfl) dX11_road_12 ⟨Nat.le_of_ble_eq_true rfl, Nat.le_of_ble_eq_true rfl⟩ (fun r_12_3 nw_12_1 l_12_2 H locs hw hO => ?_)
  obtain ⟨cz_12_4, cz_12_5, rfl, rfl⟩ := hw
  have hO : cO D cy A s.heap s 53 ad (cup [(2, .inr (7, ((((f2.set 5 (.int 0)).set 11 (.int 0)).set 16 (.int 0)).set 15 (.int 0)))), (3, .inl (cy 0, 5, .inl cz_12_4)), (4, .inl (cy 0, 4, .inl cz_12_5)), (5, .inr (4, (((f5.set 1 (.int 0)).set 2 (.int 0)).set 3 (.int 0)))), (1, .inr (6, (((((((f1.set 3 (.ref (ad 7))).set 4 (.int 0)).set 5 (.int 0)).set 1 (.int 0)).set 2 (.int (-1))).set 7 (.int 0)).set 6 (.int 0))))] g) _ _ := hO
  refine lv_if_ne (tgt := 20) hx hb dX11_road_15 (by decide) (fun _ => ?_) (fun h => absurd h (by decide))
  refine lv_aload_n hx hb dX11_road_20 rfl (lv_at hl 0 rfl) ?_
  refine lv_iconst (v := 0) hx hb dX11_road_21 (by decide) ?_
  refine cg_put hC hO 0 (by decide) o0 rfl i_X11 tyX11_ok nmX11 1 (by decide) (List.mem_of_getElem? (i := 3) rfl) rfl rfl rfl (fs_lt f0_1) dX11_road_22 (fun H locs hO => ?_)
  have hO : cO D cy A s.heap s 53 ad (cup [(2, .inr (7, ((((f2.set 5 (.int 0)).set 11 (.int 0)).set 16 (.int 0)).set 15 (.int 0)))), (3, .inl (cy 0, 5, .inl cz_12_4)), (4, .inl (cy 0, 4, .inl cz_12_5)), (5, .inr (4, (((f5.set 1 (.int 0)).set 2 (.int 0)).set 3 (.int 0)))), (1, .inr (6, (((((((f1.set 3 (.ref (ad 7))).set 4 (.int 0)).set 5 (.int 0)).set 1 (.int 0)).set 2 (.int (-1))).set 7 (.int 0)).set 6 (.int 0)))), (0, .inr (11, (f0.set 1 (.int 0))))] g) _ _ := hO
  refine lv_aload_n hx hb dX11_road_25 rfl (lv_at hl 0 rfl) ?_
  refine cg_get hC hO 0 (by decide) rfl rfl i_X11 3 (by decide) (List.mem_of_getElem? (i := 49) rfl) (fs_ne (by decide) f0_3) dX11_road_26 ?_
  refine lv_aload_n hx hb dX11_road_29 rfl (lv_at hl 0 rfl) ?_
  refine cg_get hC hO 0 (by decide) rfl rfl i_X11 2 (by decide) (List.mem_of_getElem? (i := 1) rfl) (fs_ne (by decide) f0_2) dX11_road_30 ?_
  refine cg_get hC hO 1 (by decide) rfl rfl i_X6 0 (by decide) (List.mem_of_getElem? (i := 50) rfl) (fs_ne (by decide) (fs_ne (by decide) (fs_ne (by decide) (fs_ne (by decide) (fs_ne (by decide) (fs_ne (by decide) (fs_ne (by decide) f1_0))))))) dX11_road_33 ?_
  refine cg_Vv (As := [.ref (ad 2)]) (rest := []) (mc := 0) (ms := 0) (rm := { frames := 2, cells := 0, slots := 0, locals := 81 }) hC hl.1 hO [8, 2, 21, 9, 22, 10, 23, 11, 3, 12, 24, 13, 25, 14, 26, 15, 4, 16, 27, 17, 28, 18, 19, 20, 5, 29] rfl (c_X7_becomes l D cy _ _ (f0 := f8) (c3 := c9) (c5 := c10) (c7 := c11) (c9 := c12) (c11 := c13) (c13 := c14) (c15 := c15) (c17 := c16) (c19 := c17) (c21 := c18) (f22 := f19) (c23 := c20) (f1 := ((((f2.set 5 (.int 0)).set 11 (.int 0)).set 16 (.int 0)).set 15 (.int 0))) (c2 := c21) (c4 := c22) (c6 := c23) (c8 := cz_12_4) (c10 := c24) (c12 := c25) (c14 := c26) (c16 := cz_12_5) (c18 := c27) (c20 := c28) (f24 := (((f5.set 1 (.int 0)).set 2 (.int 0)).set 3 (.int 0))) (c25 := c29) o8 f8_1 f8_2 f8_3 f8_4 f8_5 f8_7 f8_8 f8_9 f8_10 f8_11 f8_13 f8_14 f8_15 f8_16 f8_17 rfl (fs_ne (by decide) (fs_ne (by decide) (fs_ne (by decide) (fs_ne (by decide) f2_1)))) (fs_ne (by decide) (fs_ne (by decide) (fs_ne (by decide) (fs_ne (by decide) f2_2)))) (fs_ne (by decide) (fs_ne (by decide) (fs_ne (by decide) (fs_ne (by decide) f2_3)))) (fs_ne (by decide) (fs_ne (by decide) (fs_ne (by decide) (fs_ne (by decide) f2_4)))) (fs_ne (by decide) (fs_ne (by decide) (fs_ne (by decide) (fs_eq f2_5)))) (fs_ne (by decide) (fs_ne (by decide) (fs_ne (by decide) (fs_ne (by decide) f2_7)))) (fs_ne (by decide) (fs_ne (by decide) (fs_ne (by decide) (fs_ne (by decide) f2_8)))) (fs_ne (by decide) (fs_ne (by decide) (fs_ne (by decide) (fs_ne (by decide) f2_9)))) (fs_ne (by decide) (fs_ne (by decide) (fs_ne (by decide) (fs_ne (by decide) f2_10)))) (fs_ne (by decide) (fs_ne (by decide) (fs_eq (fs_ne (by decide) f2_11)))) (fs_ne (by decide) (fs_ne (by decide) (fs_ne (by decide) (fs_ne (by decide) f2_13)))) (fs_ne (by decide) (fs_ne (by decide) (fs_ne (by decide) (fs_ne (by decide) f2_14)))) (fs_eq (fs_ne (by decide) (fs_ne (by decide) (fs_ne (by decide) f2_15)))) (fs_ne (by decide) (fs_eq (fs_ne (by decide) (fs_ne (by decide) f2_16)))) (fs_ne (by decide) (fs_ne (by decide) (fs_ne (by decide) (fs_ne (by decide) f2_17)))) a21 a9 a22 a10 a23 a11 rfl a12 a24 a13 a25 a14 a26 a15 rfl a16 a27 a17 a28 a18 o19 f19_0 f19_1 f19_2 f19_3 a20 rfl (fs_ne (by decide) (fs_ne (by decide) (fs_ne (by decide) f5_0))) (fs_ne (by decide) (fs_ne (by decide) (fs_eq f5_1))) (fs_ne (by decide) (fs_eq (fs_ne (by decide) f5_2))) (fs_eq (fs_ne (by decide) (fs_ne (by decide) f5_3))) a29) gq_c_X11_road_c_X7_becomes_118 rfl rfl rfl 1 (by decide +kernel) ⟨Nat.le_of_ble_eq_true rfl, Nat.le_of_ble_eq_true rfl⟩ rfl (by decide) o8 rfl rfl (Nat.le_of_ble_eq_true rfl) dX11_road_36 ⟨Nat.le_of_ble_eq_true rfl, Nat.le_of_ble_eq_true rfl⟩ (fun nw_36_6 l_36_7 H locs hw hO => ?_)
  obtain ⟨c3_36_9, c5_36_10, c7_36_11, c9_36_12, c11_36_13, c13_36_14, c15_36_15, c17_36_16, c19_36_17, c21_36_18, c3_36_19, rfl⟩ := hw
  have hO : cO D cy A s.heap s 53 ad (cup [(2, .inr (7, ((((f2.set 5 (.int 0)).set 11 (.int 0)).set 16 (.int 0)).set 15 (.int 0)))), (3, .inl (cy 0, 5, .inl cz_12_4)), (4, .inl (cy 0, 4, .inl cz_12_5)), (5, .inr (4, (((f5.set 1 (.int 0)).set 2 (.int 0)).set 3 (.int 0)))), (1, .inr (6, (((((((f1.set 3 (.ref (ad 7))).set 4 (.int 0)).set 5 (.int 0)).set 1 (.int 0)).set 2 (.int (-1))).set 7 (.int 0)).set 6 (.int 0)))), (0, .inr (11, (f0.set 1 (.int 0)))), (19, .inr (4, (((f19.set 1 (.int 0)).set 2 (.int 0)).set 3 (.int 0)))), (20, .inl (cy 0, 300, .inl c3_36_19)), (18, .inl (cy 0, 12, .inl c21_36_18)), (17, .inl (cy 0, 12, .inl c19_36_17)), (16, .inl (cy 0, 4, .inl c17_36_16)), (15, .inl (cy 0, 20, .inl c15_36_15)), (14, .inl (cy 0, 4, .inl c13_36_14)), (13, .inl (cy 0, 4, .inl c11_36_13)), (12, .inl (cy 0, 5, .inl c9_36_12)), (11, .inl (cy 0, 5, .inl c7_36_11)), (10, .inl (cy 0, 5, .inl c5_36_10)), (9, .inl (cy 0, 5, .inl c3_36_9)), (8, .inr (7, ((((f8.set 5 (.int 0)).set 11 (.int 0)).set 16 (.int 0)).set 15 (.int 0))))] g) _ _ := hO
  refine lv_aload_n hx hb dX11_road_39 rfl (lv_at hl 0 rfl) ?_
  refine cg_get hC hO 0 (by decide) rfl rfl i_X11 7 (by decide) (List.mem_of_getElem? (i := 73) rfl) (fs_ne (by decide) f0_7) dX11_road_40 ?_
  refine cg_Vv (As := []) (rest := []) (mc := 0) (ms := 0) (rm := { frames := 1, cells := 0, slots := 0, locals := 23 }) hC hl.1 hO [30, 31] rfl (c_X5_forget l D cy _ _ (f0 := f30) (c1 := c31) o30 f30_1 a31) gq_c_X11_road_c_X5_forget_121 rfl rfl rfl 0 (by decide +kernel) ⟨Nat.le_of_ble_eq_true rfl, Nat.le_of_ble_eq_true rfl⟩ rfl (by decide) o30 rfl rfl (Nat.le_of_ble_eq_true rfl) dX11_road_43 ⟨Nat.le_of_ble_eq_true rfl, Nat.le_of_ble_eq_true rfl⟩ (fun nw_43_20 l_43_21 H locs hw hO => ?_)
  obtain ⟨cz_43_23, rfl⟩ := hw
  have hO : cO D cy A s.heap s 53 ad (cup [(2, .inr (7, ((((f2.set 5 (.int 0)).set 11 (.int 0)).set 16 (.int 0)).set 15 (.int 0)))), (3, .inl (cy 0, 5, .inl cz_12_4)), (4, .inl (cy 0, 4, .inl cz_12_5)), (5, .inr (4, (((f5.set 1 (.int 0)).set 2 (.int 0)).set 3 (.int 0)))), (1, .inr (6, (((((((f1.set 3 (.ref (ad 7))).set 4 (.int 0)).set 5 (.int 0)).set 1 (.int 0)).set 2 (.int (-1))).set 7 (.int 0)).set 6 (.int 0)))), (0, .inr (11, (f0.set 1 (.int 0)))), (19, .inr (4, (((f19.set 1 (.int 0)).set 2 (.int 0)).set 3 (.int 0)))), (20, .inl (cy 0, 300, .inl c3_36_19)), (18, .inl (cy 0, 12, .inl c21_36_18)), (17, .inl (cy 0, 12, .inl c19_36_17)), (16, .inl (cy 0, 4, .inl c17_36_16)), (15, .inl (cy 0, 20, .inl c15_36_15)), (14, .inl (cy 0, 4, .inl c13_36_14)), (13, .inl (cy 0, 4, .inl c11_36_13)), (12, .inl (cy 0, 5, .inl c9_36_12)), (11, .inl (cy 0, 5, .inl c7_36_11)), (10, .inl (cy 0, 5, .inl c5_36_10)), (9, .inl (cy 0, 5, .inl c3_36_9)), (8, .inr (7, ((((f8.set 5 (.int 0)).set 11 (.int 0)).set 16 (.int 0)).set 15 (.int 0)))), (31, .inl (cy 0, 80, .inl cz_43_23))] g) _ _ := hO
  refine lv_aload_n hx hb dX11_road_46 rfl (lv_at hl 0 rfl) ?_
  refine cg_get hC hO 0 (by decide) rfl rfl i_X11 4 (by decide) (List.mem_of_getElem? (i := 81) rfl) (fs_ne (by decide) f0_4) dX11_road_47 ?_
  refine lv_aload_n hx hb dX11_road_50 rfl (lv_at hl 0 rfl) ?_
  refine cg_get hC hO 0 (by decide) rfl rfl i_X11 3 (by decide) (List.mem_of_getElem? (i := 49) rfl) (fs_ne (by decide) f0_3) dX11_road_51 ?_
  refine cg_Vv (As := [.ref (ad 8)]) (rest := []) (mc := 0) (ms := 0) (rm := { frames := 1, cells := 0, slots := 0, locals := 60 }) hC hl.1 hO [32, 33, 8, 9] rfl (c_X9_asTold l D cy _ _ (f0 := f32) (x := 0) (y := (-1)) (c1 := c33) (f2 := ((((f8.set 5 (.int 0)).set 11 (.int 0)).set 16 (.int 0)).set 15 (.int 0))) (c3 := c3_36_9) o32 f32_4 f32_2 f32_3 a33 rfl (fs_ne (by decide) (fs_eq (fs_ne (by decide) (fs_ne (by decide) f8_16)))) (fs_eq (fs_ne (by decide) (fs_ne (by decide) (fs_ne (by decide) f8_15)))) (fs_ne (by decide) (fs_ne (by decide) (fs_ne (by decide) (fs_ne (by decide) f8_1)))) rfl) gq_c_X11_road_c_X9_asTold_41 rfl rfl rfl 1 (by decide +kernel) ⟨Nat.le_of_ble_eq_true rfl, Nat.le_of_ble_eq_true rfl⟩ rfl (by decide) o32 rfl rfl (Nat.le_of_ble_eq_true rfl) dX11_road_54 ⟨Nat.le_of_ble_eq_true rfl, Nat.le_of_ble_eq_true rfl⟩ (fun nw_54_24 l_54_25 H locs hw hO => ?_)
  obtain ⟨c1_54_27, rfl⟩ := hw
  have hO : cO D cy A s.heap s 53 ad (cup [(2, .inr (7, ((((f2.set 5 (.int 0)).set 11 (.int 0)).set 16 (.int 0)).set 15 (.int 0)))), (3, .inl (cy 0, 5, .inl cz_12_4)), (4, .inl (cy 0, 4, .inl cz_12_5)), (5, .inr (4, (((f5.set 1 (.int 0)).set 2 (.int 0)).set 3 (.int 0)))), (1, .inr (6, (((((((f1.set 3 (.ref (ad 7))).set 4 (.int 0)).set 5 (.int 0)).set 1 (.int 0)).set 2 (.int (-1))).set 7 (.int 0)).set 6 (.int 0)))), (0, .inr (11, (f0.set 1 (.int 0)))), (19, .inr (4, (((f19.set 1 (.int 0)).set 2 (.int 0)).set 3 (.int 0)))), (20, .inl (cy 0, 300, .inl c3_36_19)), (18, .inl (cy 0, 12, .inl c21_36_18)), (17, .inl (cy 0, 12, .inl c19_36_17)), (16, .inl (cy 0, 4, .inl c17_36_16)), (15, .inl (cy 0, 20, .inl c15_36_15)), (14, .inl (cy 0, 4, .inl c13_36_14)), (13, .inl (cy 0, 4, .inl c11_36_13)), (12, .inl (cy 0, 5, .inl c9_36_12)), (11, .inl (cy 0, 5, .inl c7_36_11)), (10, .inl (cy 0, 5, .inl c5_36_10)), (9, .inl (cy 0, 5, .inl c3_36_9)), (8, .inr (7, ((((f8.set 5 (.int 0)).set 11 (.int 0)).set 16 (.int 0)).set 15 (.int 0)))), (31, .inl (cy 0, 80, .inl cz_43_23)), (33, .inl (cy 0, 5, .inl c1_54_27)), (32, .inr (9, ((f32.set 4 (.int 0)).set 2 (.int (-1)))))] g) _ _ := hO
  refine lv_aload_n hx hb dX11_road_57 rfl (lv_at hl 0 rfl) ?_
  refine cg_get hC hO 0 (by decide) rfl rfl i_X11 6 (by decide) (List.mem_of_getElem? (i := 94) rfl) (fs_ne (by decide) f0_6) dX11_road_58 ?_
  refine cg_Vv (As := []) (rest := []) (mc := 0) (ms := 0) (rm := { frames := 0, cells := 0, slots := 0, locals := 0 }) hC hl.1 hO [34] rfl (c_X0_forget l D cy _ _ (f0 := f34) o34 f34_3 f34_4) gq_c_X11_road_c_X0_forget_124 rfl rfl rfl 0 (by decide +kernel) ⟨Nat.le_of_ble_eq_true rfl, Nat.le_of_ble_eq_true rfl⟩ rfl (by decide) o34 rfl rfl (Nat.le_of_ble_eq_true rfl) dX11_road_61 ⟨Nat.le_of_ble_eq_true rfl, Nat.le_of_ble_eq_true rfl⟩ (fun nw_61_28 l_61_29 H locs hw hO => ?_)
  obtain rfl := hw
  have hO : cO D cy A s.heap s 53 ad (cup [(2, .inr (7, ((((f2.set 5 (.int 0)).set 11 (.int 0)).set 16 (.int 0)).set 15 (.int 0)))), (3, .inl (cy 0, 5, .inl cz_12_4)), (4, .inl (cy 0, 4, .inl cz_12_5)), (5, .inr (4, (((f5.set 1 (.int 0)).set 2 (.int 0)).set 3 (.int 0)))), (1, .inr (6, (((((((f1.set 3 (.ref (ad 7))).set 4 (.int 0)).set 5 (.int 0)).set 1 (.int 0)).set 2 (.int (-1))).set 7 (.int 0)).set 6 (.int 0)))), (0, .inr (11, (f0.set 1 (.int 0)))), (19, .inr (4, (((f19.set 1 (.int 0)).set 2 (.int 0)).set 3 (.int 0)))), (20, .inl (cy 0, 300, .inl c3_36_19)), (18, .inl (cy 0, 12, .inl c21_36_18)), (17, .inl (cy 0, 12, .inl c19_36_17)), (16, .inl (cy 0, 4, .inl c17_36_16)), (15, .inl (cy 0, 20, .inl c15_36_15)), (14, .inl (cy 0, 4, .inl c13_36_14)), (13, .inl (cy 0, 4, .inl c11_36_13)), (12, .inl (cy 0, 5, .inl c9_36_12)), (11, .inl (cy 0, 5, .inl c7_36_11)), (10, .inl (cy 0, 5, .inl c5_36_10)), (9, .inl (cy 0, 5, .inl c3_36_9)), (8, .inr (7, ((((f8.set 5 (.int 0)).set 11 (.int 0)).set 16 (.int 0)).set 15 (.int 0)))), (31, .inl (cy 0, 80, .inl cz_43_23)), (33, .inl (cy 0, 5, .inl c1_54_27)), (32, .inr (9, ((f32.set 4 (.int 0)).set 2 (.int (-1))))), (34, .inr (0, ((f34.set 3 (.int 0)).set 4 (.int 0))))] g) _ _ := hO
  refine lv_aload_n hx hb dX11_road_64 rfl (lv_at hl 0 rfl) ?_
  refine cg_get hC hO 0 (by decide) rfl rfl i_X11 11 (by decide) (List.mem_of_getElem? (i := 102) rfl) (fs_ne (by decide) f0_11) dX11_road_65 ?_
  refine cg_Vv (As := []) (rest := []) (mc := 0) (ms := 0) (rm := { frames := 0, cells := 0, slots := 0, locals := 0 }) hC hl.1 hO [35] rfl (c_X8_forget l D cy _ _ (f0 := f35) o35 f35_7) gq_c_X11_road_c_X8_forget_125 rfl rfl rfl 0 (by decide +kernel) ⟨Nat.le_of_ble_eq_true rfl, Nat.le_of_ble_eq_true rfl⟩ rfl (by decide) o35 rfl rfl (Nat.le_of_ble_eq_true rfl) dX11_road_68 ⟨Nat.le_of_ble_eq_true rfl, Nat.le_of_ble_eq_true rfl⟩ (fun nw_68_31 l_68_32 H locs hw hO => ?_)
  obtain rfl := hw
  have hO : cO D cy A s.heap s 53 ad (cup [(2, .inr (7, ((((f2.set 5 (.int 0)).set 11 (.int 0)).set 16 (.int 0)).set 15 (.int 0)))), (3, .inl (cy 0, 5, .inl cz_12_4)), (4, .inl (cy 0, 4, .inl cz_12_5)), (5, .inr (4, (((f5.set 1 (.int 0)).set 2 (.int 0)).set 3 (.int 0)))), (1, .inr (6, (((((((f1.set 3 (.ref (ad 7))).set 4 (.int 0)).set 5 (.int 0)).set 1 (.int 0)).set 2 (.int (-1))).set 7 (.int 0)).set 6 (.int 0)))), (0, .inr (11, (f0.set 1 (.int 0)))), (19, .inr (4, (((f19.set 1 (.int 0)).set 2 (.int 0)).set 3 (.int 0)))), (20, .inl (cy 0, 300, .inl c3_36_19)), (18, .inl (cy 0, 12, .inl c21_36_18)), (17, .inl (cy 0, 12, .inl c19_36_17)), (16, .inl (cy 0, 4, .inl c17_36_16)), (15, .inl (cy 0, 20, .inl c15_36_15)), (14, .inl (cy 0, 4, .inl c13_36_14)), (13, .inl (cy 0, 4, .inl c11_36_13)), (12, .inl (cy 0, 5, .inl c9_36_12)), (11, .inl (cy 0, 5, .inl c7_36_11)), (10, .inl (cy 0, 5, .inl c5_36_10)), (9, .inl (cy 0, 5, .inl c3_36_9)), (8, .inr (7, ((((f8.set 5 (.int 0)).set 11 (.int 0)).set 16 (.int 0)).set 15 (.int 0)))), (31, .inl (cy 0, 80, .inl cz_43_23)), (33, .inl (cy 0, 5, .inl c1_54_27)), (32, .inr (9, ((f32.set 4 (.int 0)).set 2 (.int (-1))))), (34, .inr (0, ((f34.set 3 (.int 0)).set 4 (.int 0)))), (35, .inr (8, (f35.set 7 (.int 0))))] g) _ _ := hO
  refine lv_aload_n hx hb dX11_road_71 rfl (lv_at hl 0 rfl) ?_
  refine lv_iconst (v := 0) hx hb dX11_road_72 (by decide) ?_
  refine cg_put hC hO 0 (by decide) rfl rfl i_X11 tyX11_ok nmX11 13 (by decide) (List.mem_of_getElem? (i := 109) rfl) rfl rfl rfl (fs_lt (fs_ne (by decide) f0_13)) dX11_road_73 (fun H locs hO => ?_)
  have hO : cO D cy A s.heap s 53 ad (cup [(2, .inr (7, ((((f2.set 5 (.int 0)).set 11 (.int 0)).set 16 (.int 0)).set 15 (.int 0)))), (3, .inl (cy 0, 5, .inl cz_12_4)), (4, .inl (cy 0, 4, .inl cz_12_5)), (5, .inr (4, (((f5.set 1 (.int 0)).set 2 (.int 0)).set 3 (.int 0)))), (1, .inr (6, (((((((f1.set 3 (.ref (ad 7))).set 4 (.int 0)).set 5 (.int 0)).set 1 (.int 0)).set 2 (.int (-1))).set 7 (.int 0)).set 6 (.int 0)))), (0, .inr (11, ((f0.set 1 (.int 0)).set 13 (.int 0)))), (19, .inr (4, (((f19.set 1 (.int 0)).set 2 (.int 0)).set 3 (.int 0)))), (20, .inl (cy 0, 300, .inl c3_36_19)), (18, .inl (cy 0, 12, .inl c21_36_18)), (17, .inl (cy 0, 12, .inl c19_36_17)), (16, .inl (cy 0, 4, .inl c17_36_16)), (15, .inl (cy 0, 20, .inl c15_36_15)), (14, .inl (cy 0, 4, .inl c13_36_14)), (13, .inl (cy 0, 4, .inl c11_36_13)), (12, .inl (cy 0, 5, .inl c9_36_12)), (11, .inl (cy 0, 5, .inl c7_36_11)), (10, .inl (cy 0, 5, .inl c5_36_10)), (9, .inl (cy 0, 5, .inl c3_36_9)), (8, .inr (7, ((((f8.set 5 (.int 0)).set 11 (.int 0)).set 16 (.int 0)).set 15 (.int 0)))), (31, .inl (cy 0, 80, .inl cz_43_23)), (33, .inl (cy 0, 5, .inl c1_54_27)), (32, .inr (9, ((f32.set 4 (.int 0)).set 2 (.int (-1))))), (34, .inr (0, ((f34.set 3 (.int 0)).set 4 (.int 0)))), (35, .inr (8, (f35.set 7 (.int 0))))] g) _ _ := hO
  refine lv_iconst (v := 0) hx hb dX11_road_76 (by decide) ?_
  refine lv_istore_n (lv' := [(1, .int 0), (0, .ref (ad 0))]) hx hb dX11_road_77 rfl hl (by decide) rfl (fun ls hl => ?_)
  refine lv_iload_n hx hb dX11_road_78 rfl (lv_at hl 0 rfl) ?_
  refine lv_iconst (v := 3) hx hb dX11_road_79 (by decide) ?_
  refine lv_icmp_ge (tgt := 99) hx hb dX11_road_80 (by decide) (fun h => absurd h (by decide)) (fun _ => ?_)
  refine lv_aload_n hx hb dX11_road_83 rfl (lv_at hl 1 rfl) ?_
  refine cg_get hC hO 0 (by decide) rfl rfl i_X11 5 (by decide) (List.mem_of_getElem? (i := 110) rfl) (fs_ne (by decide) (fs_ne (by decide) f0_5)) dX11_road_84 ?_
  refine lv_iload_n hx hb dX11_road_87 rfl (lv_at hl 0 rfl) ?_
  refine cg_aald hC hO 36 (by decide) a36 (cin (by decide)) (b := (ad 37)) rfl dX11_road_88 ?_
  refine lv_iconst (v := (-1)) hx hb dX11_road_89 (by decide) ?_
  refine cg_put hC hO 37 (by decide) o37 rfl i_X9 tyX9_ok nmX9 4 (by decide) (List.mem_of_getElem? (i := 111) rfl) rfl rfl rfl (fs_lt f37_4) dX11_road_90 (fun H locs hO => ?_)
  have hO : cO D cy A s.heap s 53 ad (cup [(2, .inr (7, ((((f2.set 5 (.int 0)).set 11 (.int 0)).set 16 (.int 0)).set 15 (.int 0)))), (3, .inl (cy 0, 5, .inl cz_12_4)), (4, .inl (cy 0, 4, .inl cz_12_5)), (5, .inr (4, (((f5.set 1 (.int 0)).set 2 (.int 0)).set 3 (.int 0)))), (1, .inr (6, (((((((f1.set 3 (.ref (ad 7))).set 4 (.int 0)).set 5 (.int 0)).set 1 (.int 0)).set 2 (.int (-1))).set 7 (.int 0)).set 6 (.int 0)))), (0, .inr (11, ((f0.set 1 (.int 0)).set 13 (.int 0)))), (19, .inr (4, (((f19.set 1 (.int 0)).set 2 (.int 0)).set 3 (.int 0)))), (20, .inl (cy 0, 300, .inl c3_36_19)), (18, .inl (cy 0, 12, .inl c21_36_18)), (17, .inl (cy 0, 12, .inl c19_36_17)), (16, .inl (cy 0, 4, .inl c17_36_16)), (15, .inl (cy 0, 20, .inl c15_36_15)), (14, .inl (cy 0, 4, .inl c13_36_14)), (13, .inl (cy 0, 4, .inl c11_36_13)), (12, .inl (cy 0, 5, .inl c9_36_12)), (11, .inl (cy 0, 5, .inl c7_36_11)), (10, .inl (cy 0, 5, .inl c5_36_10)), (9, .inl (cy 0, 5, .inl c3_36_9)), (8, .inr (7, ((((f8.set 5 (.int 0)).set 11 (.int 0)).set 16 (.int 0)).set 15 (.int 0)))), (31, .inl (cy 0, 80, .inl cz_43_23)), (33, .inl (cy 0, 5, .inl c1_54_27)), (32, .inr (9, ((f32.set 4 (.int 0)).set 2 (.int (-1))))), (34, .inr (0, ((f34.set 3 (.int 0)).set 4 (.int 0)))), (35, .inr (8, (f35.set 7 (.int 0)))), (37, .inr (9, (f37.set 4 (.int (-1)))))] g) _ _ := hO
  refine lv_iinc (v := 1) (lv' := [(1, .int 1), (0, .ref (ad 0))]) hx hb dX11_road_93 hl (k := 0) rfl (by decide) (by decide) rfl (fun ls hl => ?_)
  refine lv_goto (tgt := 78) hx hb dX11_road_96 (by decide) ?_
  refine lv_iload_n hx hb dX11_road_78 rfl (lv_at hl 0 rfl) ?_
  refine lv_iconst (v := 3) hx hb dX11_road_79 (by decide) ?_
  refine lv_icmp_ge (tgt := 99) hx hb dX11_road_80 (by decide) (fun h => absurd h (by decide)) (fun _ => ?_)
  refine lv_aload_n hx hb dX11_road_83 rfl (lv_at hl 1 rfl) ?_
  refine cg_get hC hO 0 (by decide) rfl rfl i_X11 5 (by decide) (List.mem_of_getElem? (i := 110) rfl) (fs_ne (by decide) (fs_ne (by decide) f0_5)) dX11_road_84 ?_
  refine lv_iload_n hx hb dX11_road_87 rfl (lv_at hl 0 rfl) ?_
  refine cg_aald hC hO 36 (by decide) a36 (cin (by decide)) (b := (ad 38)) rfl dX11_road_88 ?_
  refine lv_iconst (v := (-1)) hx hb dX11_road_89 (by decide) ?_
  refine cg_put hC hO 38 (by decide) o38 rfl i_X9 tyX9_ok nmX9 4 (by decide) (List.mem_of_getElem? (i := 111) rfl) rfl rfl rfl (fs_lt f38_4) dX11_road_90 (fun H locs hO => ?_)
  have hO : cO D cy A s.heap s 53 ad (cup [(2, .inr (7, ((((f2.set 5 (.int 0)).set 11 (.int 0)).set 16 (.int 0)).set 15 (.int 0)))), (3, .inl (cy 0, 5, .inl cz_12_4)), (4, .inl (cy 0, 4, .inl cz_12_5)), (5, .inr (4, (((f5.set 1 (.int 0)).set 2 (.int 0)).set 3 (.int 0)))), (1, .inr (6, (((((((f1.set 3 (.ref (ad 7))).set 4 (.int 0)).set 5 (.int 0)).set 1 (.int 0)).set 2 (.int (-1))).set 7 (.int 0)).set 6 (.int 0)))), (0, .inr (11, ((f0.set 1 (.int 0)).set 13 (.int 0)))), (19, .inr (4, (((f19.set 1 (.int 0)).set 2 (.int 0)).set 3 (.int 0)))), (20, .inl (cy 0, 300, .inl c3_36_19)), (18, .inl (cy 0, 12, .inl c21_36_18)), (17, .inl (cy 0, 12, .inl c19_36_17)), (16, .inl (cy 0, 4, .inl c17_36_16)), (15, .inl (cy 0, 20, .inl c15_36_15)), (14, .inl (cy 0, 4, .inl c13_36_14)), (13, .inl (cy 0, 4, .inl c11_36_13)), (12, .inl (cy 0, 5, .inl c9_36_12)), (11, .inl (cy 0, 5, .inl c7_36_11)), (10, .inl (cy 0, 5, .inl c5_36_10)), (9, .inl (cy 0, 5, .inl c3_36_9)), (8, .inr (7, ((((f8.set 5 (.int 0)).set 11 (.int 0)).set 16 (.int 0)).set 15 (.int 0)))), (31, .inl (cy 0, 80, .inl cz_43_23)), (33, .inl (cy 0, 5, .inl c1_54_27)), (32, .inr (9, ((f32.set 4 (.int 0)).set 2 (.int (-1))))), (34, .inr (0, ((f34.set 3 (.int 0)).set 4 (.int 0)))), (35, .inr (8, (f35.set 7 (.int 0)))), (37, .inr (9, (f37.set 4 (.int (-1))))), (38, .inr (9, (f38.set 4 (.int (-1)))))] g) _ _ := hO
  refine lv_iinc (v := 2) (lv' := [(1, .int 2), (0, .ref (ad 0))]) hx hb dX11_road_93 hl (k := 0) rfl (by decide) (by decide) rfl (fun ls hl => ?_)
  refine lv_goto (tgt := 78) hx hb dX11_road_96 (by decide) ?_
  refine lv_iload_n hx hb dX11_road_78 rfl (lv_at hl 0 rfl) ?_
  refine lv_iconst (v := 3) hx hb dX11_road_79 (by decide) ?_
  refine lv_icmp_ge (tgt := 99) hx hb dX11_road_80 (by decide) (fun h => absurd h (by decide)) (fun _ => ?_)
  refine lv_aload_n hx hb dX11_road_83 rfl (lv_at hl 1 rfl) ?_
  refine cg_get hC hO 0 (by decide) rfl rfl i_X11 5 (by decide) (List.mem_of_getElem? (i := 110) rfl) (fs_ne (by decide) (fs_ne (by decide) f0_5)) dX11_road_84 ?_
  refine lv_iload_n hx hb dX11_road_87 rfl (lv_at hl 0 rfl) ?_
  refine cg_aald hC hO 36 (by decide) a36 (cin (by decide)) (b := (ad 39)) rfl dX11_road_88 ?_
  refine lv_iconst (v := (-1)) hx hb dX11_road_89 (by decide) ?_
  refine cg_put hC hO 39 (by decide) o39 rfl i_X9 tyX9_ok nmX9 4 (by decide) (List.mem_of_getElem? (i := 111) rfl) rfl rfl rfl (fs_lt f39_4) dX11_road_90 (fun H locs hO => ?_)
  have hO : cO D cy A s.heap s 53 ad (cup [(2, .inr (7, ((((f2.set 5 (.int 0)).set 11 (.int 0)).set 16 (.int 0)).set 15 (.int 0)))), (3, .inl (cy 0, 5, .inl cz_12_4)), (4, .inl (cy 0, 4, .inl cz_12_5)), (5, .inr (4, (((f5.set 1 (.int 0)).set 2 (.int 0)).set 3 (.int 0)))), (1, .inr (6, (((((((f1.set 3 (.ref (ad 7))).set 4 (.int 0)).set 5 (.int 0)).set 1 (.int 0)).set 2 (.int (-1))).set 7 (.int 0)).set 6 (.int 0)))), (0, .inr (11, ((f0.set 1 (.int 0)).set 13 (.int 0)))), (19, .inr (4, (((f19.set 1 (.int 0)).set 2 (.int 0)).set 3 (.int 0)))), (20, .inl (cy 0, 300, .inl c3_36_19)), (18, .inl (cy 0, 12, .inl c21_36_18)), (17, .inl (cy 0, 12, .inl c19_36_17)), (16, .inl (cy 0, 4, .inl c17_36_16)), (15, .inl (cy 0, 20, .inl c15_36_15)), (14, .inl (cy 0, 4, .inl c13_36_14)), (13, .inl (cy 0, 4, .inl c11_36_13)), (12, .inl (cy 0, 5, .inl c9_36_12)), (11, .inl (cy 0, 5, .inl c7_36_11)), (10, .inl (cy 0, 5, .inl c5_36_10)), (9, .inl (cy 0, 5, .inl c3_36_9)), (8, .inr (7, ((((f8.set 5 (.int 0)).set 11 (.int 0)).set 16 (.int 0)).set 15 (.int 0)))), (31, .inl (cy 0, 80, .inl cz_43_23)), (33, .inl (cy 0, 5, .inl c1_54_27)), (32, .inr (9, ((f32.set 4 (.int 0)).set 2 (.int (-1))))), (34, .inr (0, ((f34.set 3 (.int 0)).set 4 (.int 0)))), (35, .inr (8, (f35.set 7 (.int 0)))), (37, .inr (9, (f37.set 4 (.int (-1))))), (38, .inr (9, (f38.set 4 (.int (-1))))), (39, .inr (9, (f39.set 4 (.int (-1)))))] g) _ _ := hO
  refine lv_iinc (v := 3) (lv' := [(1, .int 3), (0, .ref (ad 0))]) hx hb dX11_road_93 hl (k := 0) rfl (by decide) (by decide) rfl (fun ls hl => ?_)
  refine lv_goto (tgt := 78) hx hb dX11_road_96 (by decide) ?_
  refine lv_iload_n hx hb dX11_road_78 rfl (lv_at hl 0 rfl) ?_
  refine lv_iconst (v := 3) hx hb dX11_road_79 (by decide) ?_
  refine lv_icmp_ge (tgt := 99) hx hb dX11_road_80 (by decide) (fun _ => ?_) (fun h => absurd h (by decide))
  refine lv_aload_n hx hb dX11_road_99 rfl (lv_at hl 1 rfl) ?_
  refine cg_get hC hO 0 (by decide) rfl rfl i_X11 8 (by decide) (List.mem_of_getElem? (i := 112) rfl) (fs_ne (by decide) (fs_ne (by decide) f0_8)) dX11_road_100 ?_
  refine cg_Vv (As := []) (rest := []) (mc := 0) (ms := 0) (rm := { frames := 3, cells := 0, slots := 0, locals := 81 }) hC hl.1 hO [40, 32, 52, 41, 50, 51, 42, 8, 15, 16, 43, 44, 45, 46, 47, 48, 49, 33] rfl (c_workOut0 l D cy _ _ (f0 := f40) (f7 := ((((f8.set 5 (.int 0)).set 11 (.int 0)).set 16 (.int 0)).set 15 (.int 0))) (c8 := c15_36_15) (c9 := c17_36_16) (f1 := ((f32.set 4 (.int 0)).set 2 (.int (-1)))) (c3 := c41) (c17 := c1_54_27) (f6 := f42) (c10 := c43) (c11 := c44) (c12 := c45) (c13 := c46) (c14 := c47) (c15 := c48) (c16 := c49) (c4 := c50) (c5 := c51) (c2 := c52) o40 f40_0 f40_1 f40_3 f40_4 f40_5 f40_6 rfl (fs_ne (by decide) (fs_ne (by decide) f32_0)) (fs_ne (by decide) (fs_ne (by decide) f32_3)) (fs_ne (by decide) (fs_eq f32_4)) a52 a41 a50 a51 o42 f42_0 f42_1 f42_2 f42_3 f42_4 f42_5 f42_6 f42_7 rfl (fs_ne (by decide) (fs_ne (by decide) (fs_ne (by decide) (fs_ne (by decide) f8_9)))) (fs_ne (by decide) (fs_ne (by decide) (fs_ne (by decide) (fs_ne (by decide) f8_10)))) (fs_ne (by decide) (fs_ne (by decide) (fs_eq (fs_ne (by decide) f8_11)))) rfl rfl a43 a44 a45 a46 a47 a48 a49 rfl) gq_c_X11_road_c_workOut0_126 rfl rfl rfl 0 (by decide +kernel) ⟨Nat.le_of_ble_eq_true rfl, Nat.le_of_ble_eq_true rfl⟩ rfl (by decide) o40 rfl rfl (Nat.le_of_ble_eq_true rfl) dX11_road_103 ⟨Nat.le_of_ble_eq_true rfl, Nat.le_of_ble_eq_true rfl⟩ (fun nw_103_34 l_103_35 H locs hw hO => ?_)
  obtain ⟨cz_103_37, cz_103_38, c2_103_39, c5_103_40, c7_103_41, cz_103_42, cz_103_43, cz_103_44, cz_103_45, rfl⟩ := hw
  have hO : cO D cy A s.heap s 53 ad (cup [(2, .inr (7, ((((f2.set 5 (.int 0)).set 11 (.int 0)).set 16 (.int 0)).set 15 (.int 0)))), (3, .inl (cy 0, 5, .inl cz_12_4)), (4, .inl (cy 0, 4, .inl cz_12_5)), (5, .inr (4, (((f5.set 1 (.int 0)).set 2 (.int 0)).set 3 (.int 0)))), (1, .inr (6, (((((((f1.set 3 (.ref (ad 7))).set 4 (.int 0)).set 5 (.int 0)).set 1 (.int 0)).set 2 (.int (-1))).set 7 (.int 0)).set 6 (.int 0)))), (0, .inr (11, ((f0.set 1 (.int 0)).set 13 (.int 0)))), (19, .inr (4, (((f19.set 1 (.int 0)).set 2 (.int 0)).set 3 (.int 0)))), (20, .inl (cy 0, 300, .inl c3_36_19)), (18, .inl (cy 0, 12, .inl c21_36_18)), (17, .inl (cy 0, 12, .inl c19_36_17)), (16, .inl (cy 0, 4, .inl c17_36_16)), (15, .inl (cy 0, 20, .inl c15_36_15)), (14, .inl (cy 0, 4, .inl c13_36_14)), (13, .inl (cy 0, 4, .inl c11_36_13)), (12, .inl (cy 0, 5, .inl c9_36_12)), (11, .inl (cy 0, 5, .inl c7_36_11)), (10, .inl (cy 0, 5, .inl c5_36_10)), (9, .inl (cy 0, 5, .inl c3_36_9)), (8, .inr (7, ((((f8.set 5 (.int 0)).set 11 (.int 0)).set 16 (.int 0)).set 15 (.int 0)))), (31, .inl (cy 0, 80, .inl cz_43_23)), (33, .inl (cy 0, 5, .inl c1_54_27)), (32, .inr (9, ((f32.set 4 (.int 0)).set 2 (.int (-1))))), (34, .inr (0, ((f34.set 3 (.int 0)).set 4 (.int 0)))), (35, .inr (8, (f35.set 7 (.int 0)))), (37, .inr (9, (f37.set 4 (.int (-1))))), (38, .inr (9, (f38.set 4 (.int (-1))))), (39, .inr (9, (f39.set 4 (.int (-1))))), (43, .inl (cy 0, 5, .inl c2_103_39)), (44, .inl (cy 0, 20, .inl c5_103_40)), (45, .inl (cy 0, 4, .inl c7_103_41)), (49, .inl (cy 0, 5, .inl cz_103_45)), (48, .inl (cy 0, 5, .inl cz_103_44)), (47, .inl (cy 0, 5, .inl cz_103_43)), (46, .inl (cy 0, 5, .inl cz_103_42)), (51, .inl (cy 0, 96, .inl cz_103_38)), (50, .inl (cy 0, 96, .inl cz_103_37))] g) _ _ := hO
  refine lv_aload_n hx hb dX11_road_106 rfl (lv_at hl 1 rfl) ?_
  refine cg_get hC hO 0 (by decide) rfl rfl i_X11 4 (by decide) (List.mem_of_getElem? (i := 81) rfl) (fs_ne (by decide) (fs_ne (by decide) f0_4)) dX11_road_107 ?_
  refine cg_get hC hO 32 (by decide) rfl rfl i_X9 4 (by decide) (List.mem_of_getElem? (i := 111) rfl) (fs_ne (by decide) (fs_eq f32_4)) dX11_road_110 ?_
  exact cg_iret (nw := fun _ => 0) hC hr hlk hO.same rfl (Nat.le_of_ble_eq_true rfl) (Nat.le_of_ble_eq_true rfl) rfl dX11_road_113
