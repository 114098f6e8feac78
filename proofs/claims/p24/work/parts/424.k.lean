theorem ddX11_about_0 : decode cX11_about 0 = .ok (.iload_n 1, 1) := by decide +kernel
theorem ddX11_about_1 : decode cX11_about 1 = .ok (.tableswitch 140 0 9 #[55, 63, 71, 79, 87, 103, 111, 119, 124, 135], 55) := by decide +kernel
theorem ddX11_about_56 : decode cX11_about 56 = .ok (.aload_n 0, 1) := by decide +kernel
theorem ddX11_about_57 : decode cX11_about 57 = .ok (.getfield 27, 3) := by decide +kernel
theorem ddX11_about_60 : decode cX11_about 60 = .ok (.getfield 247, 3) := by decide +kernel
theorem ddX11_about_63 : decode cX11_about 63 = .ok (.ireturn, 1) := by decide +kernel
theorem ddX11_about_64 : decode cX11_about 64 = .ok (.aload_n 0, 1) := by decide +kernel
theorem ddX11_about_65 : decode cX11_about 65 = .ok (.getfield 27, 3) := by decide +kernel
theorem ddX11_about_68 : decode cX11_about 68 = .ok (.getfield 250, 3) := by decide +kernel
theorem ddX11_about_71 : decode cX11_about 71 = .ok (.ireturn, 1) := by decide +kernel
theorem ddX11_about_72 : decode cX11_about 72 = .ok (.aload_n 0, 1) := by decide +kernel
theorem ddX11_about_73 : decode cX11_about 73 = .ok (.getfield 37, 3) := by decide +kernel
theorem ddX11_about_76 : decode cX11_about 76 = .ok (.getfield 49, 3) := by decide +kernel
theorem ddX11_about_79 : decode cX11_about 79 = .ok (.ireturn, 1) := by decide +kernel
theorem ddX11_about_80 : decode cX11_about 80 = .ok (.aload_n 0, 1) := by decide +kernel
theorem ddX11_about_81 : decode cX11_about 81 = .ok (.getfield 55, 3) := by decide +kernel
theorem ddX11_about_84 : decode cX11_about 84 = .ok (.getfield 203, 3) := by decide +kernel
theorem ddX11_about_87 : decode cX11_about 87 = .ok (.ireturn, 1) := by decide +kernel
theorem ddX11_about_88 : decode cX11_about 88 = .ok (.aload_n 0, 1) := by decide +kernel
theorem ddX11_about_89 : decode cX11_about 89 = .ok (.getfield 55, 3) := by decide +kernel
theorem ddX11_about_92 : decode cX11_about 92 = .ok (.getfield 285, 3) := by decide +kernel
theorem ddX11_about_95 : decode cX11_about 95 = .ok (.aload_n 0, 1) := by decide +kernel
theorem ddX11_about_96 : decode cX11_about 96 = .ok (.getfield 55, 3) := by decide +kernel
theorem ddX11_about_99 : decode cX11_about 99 = .ok (.getfield 203, 3) := by decide +kernel
theorem ddX11_about_102 : decode cX11_about 102 = .ok (.isub, 1) := by decide +kernel
theorem ddX11_about_103 : decode cX11_about 103 = .ok (.ireturn, 1) := by decide +kernel
theorem ddX11_about_104 : decode cX11_about 104 = .ok (.aload_n 0, 1) := by decide +kernel
theorem ddX11_about_105 : decode cX11_about 105 = .ok (.getfield 93, 3) := by decide +kernel
theorem ddX11_about_108 : decode cX11_about 108 = .ok (.getfield 256, 3) := by decide +kernel
theorem ddX11_about_111 : decode cX11_about 111 = .ok (.ireturn, 1) := by decide +kernel
theorem ddX11_about_112 : decode cX11_about 112 = .ok (.aload_n 0, 1) := by decide +kernel
theorem ddX11_about_113 : decode cX11_about 113 = .ok (.getfield 93, 3) := by decide +kernel
theorem ddX11_about_116 : decode cX11_about 116 = .ok (.getfield 266, 3) := by decide +kernel
theorem ddX11_about_119 : decode cX11_about 119 = .ok (.ireturn, 1) := by decide +kernel
theorem ddX11_about_120 : decode cX11_about 120 = .ok (.aload_n 0, 1) := by decide +kernel
theorem ddX11_about_121 : decode cX11_about 121 = .ok (.getfield 13, 3) := by decide +kernel
theorem ddX11_about_124 : decode cX11_about 124 = .ok (.ireturn, 1) := by decide +kernel
theorem ddX11_about_125 : decode cX11_about 125 = .ok (.aload_n 0, 1) := by decide +kernel
theorem ddX11_about_126 : decode cX11_about 126 = .ok (.getfield 27, 3) := by decide +kernel
theorem ddX11_about_129 : decode cX11_about 129 = .ok (.getfield 288, 3) := by decide +kernel
theorem ddX11_about_132 : decode cX11_about 132 = .ok (.getfield 292, 3) := by decide +kernel
theorem ddX11_about_135 : decode cX11_about 135 = .ok (.ireturn, 1) := by decide +kernel
theorem ddX11_about_136 : decode cX11_about 136 = .ok (.aload_n 0, 1) := by decide +kernel
theorem ddX11_about_137 : decode cX11_about 137 = .ok (.getfield 100, 3) := by decide +kernel
theorem ddX11_about_140 : decode cX11_about 140 = .ok (.ireturn, 1) := by decide +kernel
theorem ddX11_about_141 : decode cX11_about 141 = .ok (.iconst (-1), 1) := by decide +kernel
theorem ddX11_about_142 : decode cX11_about 142 = .ok (.ireturn, 1) := by decide +kernel
def wq_k_X11_about : List Cond := Cond.code yX11_about cX11_about 2 (some .int) :: (([Cond.fieldLink RX11 27 "CrowToll" "told" "LCrowToll$Road;", Cond.fieldLink RX11 247 "CrowToll$Road" "birds" "I", Cond.fieldLink RX11 250 "CrowToll$Road" "posts" "I", Cond.fieldLink RX11 37 "CrowToll" "stand" "LCrowToll$Stand;", Cond.fieldLink RX11 49 "CrowToll$Stand" "carts" "I", Cond.fieldLink RX11 55 "CrowToll" "acts" "LCrowToll$Acts;", Cond.fieldLink RX11 203 "CrowToll$Acts" "done" "I", Cond.fieldLink RX11 285 "CrowToll$Acts" "kept" "I", Cond.fieldLink RX11 93 "CrowToll" "sights" "LCrowToll$Sights;", Cond.fieldLink RX11 256 "CrowToll$Sights" "size" "I", Cond.fieldLink RX11 266 "CrowToll$Sights" "time" "I", Cond.fieldLink RX11 13 "CrowToll" "onTape" "I", Cond.fieldLink RX11 288 "CrowToll$Road" "law" "LCrowToll$Law;", Cond.fieldLink RX11 292 "CrowToll$Law" "units" "I", Cond.fieldLink RX11 100 "CrowToll" "lyingThere" "I"] : List Cond) ++ wsX00 ++ wsX40 ++ wsX70 ++ wsX80 ++ wsX90 ++ wsX110)
set_option maxHeartbeats 8000000 in
set_option maxRecDepth 100000 in
theorem k_X11_about (l : Launch) (D : va_G) (cy : Nat → ClassId) (ad : Nat → Nat) (g : Nat → va_E) {u0_0 : Value} {x0_1 : Int32} {u0_2 : Value} {u0_5 : Value} {u0_7 : Value} {u0_8 : Value} {u0_9 : Value} {u0_10 : Value} {u0_12 : Value} {x0_13 : Int32} {u1_0 : Value} {u1_1 : Value} {u1_2 : Value} {u1_3 : Value} {u1_4 : Value} {x1_5 : Int32} {u1_6 : Value} {u1_7 : Value} {u1_8 : Value} {u1_9 : Value} {u1_10 : Value} {x1_11 : Int32} {u1_12 : Value} {u1_13 : Value} {u1_14 : Value} {u1_15 : Value} {u1_16 : Value} {u2_0 : Value} {u2_1 : Value} {u2_2 : Value} {u2_3 : Value} {x2_4 : Int32} {u3_0 : Value} {u3_1 : Value} {u3_2 : Value} {x3_3 : Int32} {x3_4 : Int32} {u4_0 : Value} {u4_1 : Value} {u4_2 : Value} {u4_3 : Value} {u4_4 : Value} {u4_5 : Value} {u4_6 : Value} {x4_7 : Int32} {x4_8 : Int32} {u4_9 : Value} {u4_10 : Value} {u4_11 : Value} {u4_12 : Value} {u4_13 : Value} {u4_14 : Value} {u4_15 : Value} {u5_0 : Value} {u5_1 : Value} {x5_2 : Int32} {u5_3 : Value} {u5_4 : Value} {what : Int32} (o0 : g 0 = .inr (11, [u0_0, .int x0_1, u0_2, .ref (ad 1), .ref (ad 2), u0_5, .ref (ad 3), u0_7, u0_8, u0_9, u0_10, .ref (ad 4), u0_12, .int x0_13])) (o1 : g 1 = .inr (7, [u1_0, u1_1, u1_2, u1_3, u1_4, .int x1_5, u1_6, u1_7, u1_8, u1_9, u1_10, .int x1_11, u1_12, u1_13, u1_14, u1_15, u1_16, .ref (ad 5)])) (o2 : g 2 = .inr (9, [u2_0, u2_1, u2_2, u2_3, .int x2_4])) (o3 : g 3 = .inr (0, [u3_0, u3_1, u3_2, .int x3_3, .int x3_4])) (o4 : g 4 = .inr (8, [u4_0, u4_1, u4_2, u4_3, u4_4, u4_5, u4_6, .int x4_7, .int x4_8, u4_9, u4_10, u4_11, u4_12, u4_13, u4_14, u4_15])) (o5 : g 5 = .inr (4, [u5_0, u5_1, .int x5_2, u5_3, u5_4])) (b0_1 : zi 0 1600 x0_1) (b0_13 : zi 0 24 x0_13) (b1_5 : zi 0 5 x1_5) (b1_11 : zi 0 4 x1_11) (b2_4 : zi 0 24 x2_4) (b3_3 : zi 0 40 x3_3) (b3_4 : zi 0 40 x3_4) (b4_7 : zi 0 30 x4_7) (b4_8 : zi 0 100000 x4_8) : cMi l yX11_about wq_k_X11_about { frames := 0, cells := 0, slots := 0, locals := 0 } 6 0 0 0 D cy ad g [.ref (ad 0), .int what] (fun r nw lu => lu = []) := by
  refine cM_of (Qc := fun A => cQi (fun r nw lu => lu = []) D 6 0 ad g A) (cc := cX11_about) (maxL := 2) (ret := (some .int)) (by decide) rfl (Nat.le_of_ble_eq_true rfl) ?_
  intro p e s m below meth c A hC hr hlk hnm hO ls hl
  have hC : CallFix p m c cX11_about 2 s [.ref (ad 0), .int what].toArray wq_k_X11_about RX11 := hC
  obtain ⟨hx, hb, hml, hown, hts⟩ := id hC
  have hl : lv_has ls 2 [(0, .ref (ad 0)), (1, .int what)] := hl
  have i_X0 : ∀ w ∈ wsX00, w ∈ wq_k_X11_about := fun w h => List.mem_cons_of_mem _ (List.mem_append_left _ (List.mem_append_left _ (List.mem_append_left _ (List.mem_append_left _ (List.mem_append_left _ (List.mem_append_right _ h))))))
  have i_X11 : ∀ w ∈ wsX110, w ∈ wq_k_X11_about := fun w h => List.mem_cons_of_mem _ (List.mem_append_right _ h)
  have i_X4 : ∀ w ∈ wsX40, w ∈ wq_k_X11_about := fun w h => List.mem_cons_of_mem _ (List.mem_append_left _ (List.mem_append_left _ (List.mem_append_left _ (List.mem_append_left _ (List.mem_append_right _ h)))))
  have i_X7 : ∀ w ∈ wsX70, w ∈ wq_k_X11_about := fun w h => List.mem_cons_of_mem _ (List.mem_append_left _ (List.mem_append_left _ (List.mem_append_left _ (List.mem_append_right _ h))))
  have i_X8 : ∀ w ∈ wsX80, w ∈ wq_k_X11_about := fun w h => List.mem_cons_of_mem _ (List.mem_append_left _ (List.mem_append_left _ (List.mem_append_right _ h)))
  have i_X9 : ∀ w ∈ wsX90, w ∈ wq_k_X11_about := fun w h => List.mem_cons_of_mem _ (List.mem_append_left _ (List.mem_append_right _ h))
  refine lv_iload_n hx hb ddX11_about_0 rfl (lv_at hl 1 rfl) ?_
  by_cases hs_1_5_0 : what = 0
  · refine lv_tableIn (tgt := 56) hx hb ddX11_about_1 (by rw [hs_1_5_0]; decide) (by rw [hs_1_5_0]; decide) (by rw [hs_1_5_0]; rfl) (by decide) ?_
    refine lv_aload_n hx hb ddX11_about_56 rfl (lv_at hl 0 rfl) ?_
    refine cg_get hC hO 0 (by decide) o0 rfl i_X11 3 (by decide) (List.mem_of_getElem? (i := 1) rfl) rfl ddX11_about_57 ?_
    refine cg_get hC hO 1 (by decide) o1 rfl i_X7 5 (by decide) (List.mem_of_getElem? (i := 2) rfl) rfl ddX11_about_60 ?_
    exact cg_iret (nw := fun _ => 0) hC hr hlk hO.same rfl (Nat.le_of_ble_eq_true rfl) (Nat.le_of_ble_eq_true rfl) rfl ddX11_about_63
  by_cases hs_1_5_1 : what = 1
  · refine lv_tableIn (tgt := 64) hx hb ddX11_about_1 (by rw [hs_1_5_1]; decide) (by rw [hs_1_5_1]; decide) (by rw [hs_1_5_1]; rfl) (by decide) ?_
    refine lv_aload_n hx hb ddX11_about_64 rfl (lv_at hl 0 rfl) ?_
    refine cg_get hC hO 0 (by decide) o0 rfl i_X11 3 (by decide) (List.mem_of_getElem? (i := 1) rfl) rfl ddX11_about_65 ?_
    refine cg_get hC hO 1 (by decide) o1 rfl i_X7 11 (by decide) (List.mem_of_getElem? (i := 3) rfl) rfl ddX11_about_68 ?_
    exact cg_iret (nw := fun _ => 0) hC hr hlk hO.same rfl (Nat.le_of_ble_eq_true rfl) (Nat.le_of_ble_eq_true rfl) rfl ddX11_about_71
  by_cases hs_1_5_2 : what = 2
  · refine lv_tableIn (tgt := 72) hx hb ddX11_about_1 (by rw [hs_1_5_2]; decide) (by rw [hs_1_5_2]; decide) (by rw [hs_1_5_2]; rfl) (by decide) ?_
    refine lv_aload_n hx hb ddX11_about_72 rfl (lv_at hl 0 rfl) ?_
    refine cg_get hC hO 0 (by decide) o0 rfl i_X11 4 (by decide) (List.mem_of_getElem? (i := 4) rfl) rfl ddX11_about_73 ?_
    refine cg_get hC hO 2 (by decide) o2 rfl i_X9 4 (by decide) (List.mem_of_getElem? (i := 5) rfl) rfl ddX11_about_76 ?_
    exact cg_iret (nw := fun _ => 0) hC hr hlk hO.same rfl (Nat.le_of_ble_eq_true rfl) (Nat.le_of_ble_eq_true rfl) rfl ddX11_about_79
  by_cases hs_1_5_3 : what = 3
  · refine lv_tableIn (tgt := 80) hx hb ddX11_about_1 (by rw [hs_1_5_3]; decide) (by rw [hs_1_5_3]; decide) (by rw [hs_1_5_3]; rfl) (by decide) ?_
    refine lv_aload_n hx hb ddX11_about_80 rfl (lv_at hl 0 rfl) ?_
    refine cg_get hC hO 0 (by decide) o0 rfl i_X11 6 (by decide) (List.mem_of_getElem? (i := 6) rfl) rfl ddX11_about_81 ?_
    refine cg_get hC hO 3 (by decide) o3 rfl i_X0 3 (by decide) (List.mem_of_getElem? (i := 7) rfl) rfl ddX11_about_84 ?_
    exact cg_iret (nw := fun _ => 0) hC hr hlk hO.same rfl (Nat.le_of_ble_eq_true rfl) (Nat.le_of_ble_eq_true rfl) rfl ddX11_about_87
  by_cases hs_1_5_4 : what = 4
  · refine lv_tableIn (tgt := 88) hx hb ddX11_about_1 (by rw [hs_1_5_4]; decide) (by rw [hs_1_5_4]; decide) (by rw [hs_1_5_4]; rfl) (by decide) ?_
    refine lv_aload_n hx hb ddX11_about_88 rfl (lv_at hl 0 rfl) ?_
    refine cg_get hC hO 0 (by decide) o0 rfl i_X11 6 (by decide) (List.mem_of_getElem? (i := 6) rfl) rfl ddX11_about_89 ?_
    refine cg_get hC hO 3 (by decide) o3 rfl i_X0 4 (by decide) (List.mem_of_getElem? (i := 8) rfl) rfl ddX11_about_92 ?_
    refine lv_aload_n hx hb ddX11_about_95 rfl (lv_at hl 0 rfl) ?_
    refine cg_get hC hO 0 (by decide) o0 rfl i_X11 6 (by decide) (List.mem_of_getElem? (i := 6) rfl) rfl ddX11_about_96 ?_
    refine cg_get hC hO 3 (by decide) o3 rfl i_X0 3 (by decide) (List.mem_of_getElem? (i := 7) rfl) rfl ddX11_about_99 ?_
    refine lv_isub hx hb ddX11_about_102 ?_
    refine zg_top2 (P := fun v => zi (-40) 40 v) (E := fun v => v.toInt = (x3_4 : Int32).toInt - (x3_3 : Int32).toInt) (zi_sub b3_4 b3_3 (by decide)) (fun v_102_6 z_102_7 q_102_8 => ?_)
    exact cg_iret (nw := fun _ => 0) hC hr hlk hO.same rfl (Nat.le_of_ble_eq_true rfl) (Nat.le_of_ble_eq_true rfl) rfl ddX11_about_103
  by_cases hs_1_5_5 : what = 5
  · refine lv_tableIn (tgt := 104) hx hb ddX11_about_1 (by rw [hs_1_5_5]; decide) (by rw [hs_1_5_5]; decide) (by rw [hs_1_5_5]; rfl) (by decide) ?_
    refine lv_aload_n hx hb ddX11_about_104 rfl (lv_at hl 0 rfl) ?_
    refine cg_get hC hO 0 (by decide) o0 rfl i_X11 11 (by decide) (List.mem_of_getElem? (i := 9) rfl) rfl ddX11_about_105 ?_
    refine cg_get hC hO 4 (by decide) o4 rfl i_X8 7 (by decide) (List.mem_of_getElem? (i := 10) rfl) rfl ddX11_about_108 ?_
    exact cg_iret (nw := fun _ => 0) hC hr hlk hO.same rfl (Nat.le_of_ble_eq_true rfl) (Nat.le_of_ble_eq_true rfl) rfl ddX11_about_111
  by_cases hs_1_5_6 : what = 6
  · refine lv_tableIn (tgt := 112) hx hb ddX11_about_1 (by rw [hs_1_5_6]; decide) (by rw [hs_1_5_6]; decide) (by rw [hs_1_5_6]; rfl) (by decide) ?_
    refine lv_aload_n hx hb ddX11_about_112 rfl (lv_at hl 0 rfl) ?_
    refine cg_get hC hO 0 (by decide) o0 rfl i_X11 11 (by decide) (List.mem_of_getElem? (i := 9) rfl) rfl ddX11_about_113 ?_
    refine cg_get hC hO 4 (by decide) o4 rfl i_X8 8 (by decide) (List.mem_of_getElem? (i := 11) rfl) rfl ddX11_about_116 ?_
    exact cg_iret (nw := fun _ => 0) hC hr hlk hO.same rfl (Nat.le_of_ble_eq_true rfl) (Nat.le_of_ble_eq_true rfl) rfl ddX11_about_119
  by_cases hs_1_5_7 : what = 7
  · refine lv_tableIn (tgt := 120) hx hb ddX11_about_1 (by rw [hs_1_5_7]; decide) (by rw [hs_1_5_7]; decide) (by rw [hs_1_5_7]; rfl) (by decide) ?_
    refine lv_aload_n hx hb ddX11_about_120 rfl (lv_at hl 0 rfl) ?_
    refine cg_get hC hO 0 (by decide) o0 rfl i_X11 1 (by decide) (List.mem_of_getElem? (i := 12) rfl) rfl ddX11_about_121 ?_
    exact cg_iret (nw := fun _ => 0) hC hr hlk hO.same rfl (Nat.le_of_ble_eq_true rfl) (Nat.le_of_ble_eq_true rfl) rfl ddX11_about_124
  by_cases hs_1_5_8 : what = 8
  · refine lv_tableIn (tgt := 125) hx hb ddX11_about_1 (by rw [hs_1_5_8]; decide) (by rw [hs_1_5_8]; decide) (by rw [hs_1_5_8]; rfl) (by decide) ?_
    refine lv_aload_n hx hb ddX11_about_125 rfl (lv_at hl 0 rfl) ?_
    refine cg_get hC hO 0 (by decide) o0 rfl i_X11 3 (by decide) (List.mem_of_getElem? (i := 1) rfl) rfl ddX11_about_126 ?_
    refine cg_get hC hO 1 (by decide) o1 rfl i_X7 17 (by decide) (List.mem_of_getElem? (i := 13) rfl) rfl ddX11_about_129 ?_
    refine cg_get hC hO 5 (by decide) o5 rfl i_X4 2 (by decide) (List.mem_of_getElem? (i := 14) rfl) rfl ddX11_about_132 ?_
    exact cg_iret (nw := fun _ => 0) hC hr hlk hO.same rfl (Nat.le_of_ble_eq_true rfl) (Nat.le_of_ble_eq_true rfl) rfl ddX11_about_135
  by_cases hs_1_5_9 : what = 9
  · refine lv_tableIn (tgt := 136) hx hb ddX11_about_1 (by rw [hs_1_5_9]; decide) (by rw [hs_1_5_9]; decide) (by rw [hs_1_5_9]; rfl) (by decide) ?_
    refine lv_aload_n hx hb ddX11_about_136 rfl (lv_at hl 0 rfl) ?_
    refine cg_get hC hO 0 (by decide) o0 rfl i_X11 13 (by decide) (List.mem_of_getElem? (i := 15) rfl) rfl ddX11_about_137 ?_
    exact cg_iret (nw := fun _ => 0) hC hr hlk hO.same rfl (Nat.le_of_ble_eq_true rfl) (Nat.le_of_ble_eq_true rfl) rfl ddX11_about_140
  refine lv_tableOut (tgt := 141) hx hb ddX11_about_1 (tsw_out_0_9 what hs_1_5_0 hs_1_5_1 hs_1_5_2 hs_1_5_3 hs_1_5_4 hs_1_5_5 hs_1_5_6 hs_1_5_7 hs_1_5_8 hs_1_5_9) (by decide) ?_
  refine lv_iconst (v := (-1)) hx hb ddX11_about_141 (by decide) ?_
  exact cg_iret (nw := fun _ => 0) hC hr hlk hO.same rfl (Nat.le_of_ble_eq_true rfl) (Nat.le_of_ble_eq_true rfl) rfl ddX11_about_142

