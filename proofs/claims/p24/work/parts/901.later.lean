def wq_k_X11_within2 : List Cond := Cond.code yX11_within cX11_within 3 (some .boolean) :: (([] : List Cond))
set_option maxHeartbeats 8000000 in
set_option maxRecDepth 100000 in
theorem k_X11_within2 (l : Launch) (D : va_G) (cy : Nat → ClassId) (ad : Nat → Nat) (g : Nat → va_E) {number : Int32} {least : Int32} {most : Int32}  : cMi l yX11_within wq_k_X11_within2 { frames := 0, cells := 0, slots := 0, locals := 0 } 0 0 0 0 D cy ad g [.int number, .int least, .int most] (fun r nw lu => (((least : Int32).toInt ≤ (number : Int32).toInt) ∧ ((number : Int32).toInt ≤ (most : Int32).toInt) ∧ (r = 1) ∧ (lu = [])) ∨ (((¬ (least.toInt ≤ number.toInt ∧ number.toInt ≤ most.toInt))) ∧ (r = 0) ∧ (lu = []))) := by
  refine cM_of (Qc := fun A => cQi (fun r nw lu => (((least : Int32).toInt ≤ (number : Int32).toInt) ∧ ((number : Int32).toInt ≤ (most : Int32).toInt) ∧ (r = 1) ∧ (lu = [])) ∨ (((¬ (least.toInt ≤ number.toInt ∧ number.toInt ≤ most.toInt))) ∧ (r = 0) ∧ (lu = []))) D 0 0 ad g A) (cc := cX11_within) (maxL := 3) (ret := (some .boolean)) (by decide) rfl (Nat.le_of_ble_eq_true rfl) ?_
  intro p e s m below meth c A hC hr hlk hnm hO ls hl
  have hC : CallFix p m c cX11_within 3 s [.int number, .int least, .int most].toArray wq_k_X11_within2 RX11 := hC
  obtain ⟨hx, hb, hml, hown, hts⟩ := id hC
  have hl : lv_has ls 3 [(0, .int number), (1, .int least), (2, .int most)] := hl
  refine lv_iload_n hx hb ddX11_within_0 rfl (lv_at hl 0 rfl) ?_
  refine lv_iload_n hx hb ddX11_within_1 rfl (lv_at hl 1 rfl) ?_
  refine lv_icmp_lt (tgt := 14) hx hb ddX11_within_2 (by decide) (fun h_2_11 => ?_) (fun h_2_11 => ?_)
  · have q_2_12 := zr_lt h_2_11
    have z_2_13 : zi (-2147483648) 2147483646 number := zu_lt q_2_12 (zi_all number) (zi_all least) (by decide)
    have z_2_14 : zi (-2147483647) 2147483647 least := zd_lt q_2_12 (zi_all number) (zi_all least) (by decide)
    refine lv_iconst (v := 0) hx hb ddX11_within_14 (by decide) ?_
    exact cg_iret (nw := fun _ => 0) hC hr hlk hO.same rfl (Nat.le_of_ble_eq_true rfl) (Nat.le_of_ble_eq_true rfl) (Or.inr ⟨(by omega), rfl, rfl⟩) ddX11_within_15
  · have q_2_15 := zr_nlt h_2_11
    refine lv_iload_n hx hb ddX11_within_5 rfl (lv_at hl 0 rfl) ?_
    refine lv_iload_n hx hb ddX11_within_6 rfl (lv_at hl 2 rfl) ?_
    refine lv_icmp_gt (tgt := 14) hx hb ddX11_within_7 (by decide) (fun h_7_16 => ?_) (fun h_7_16 => ?_)
    · have q_7_17 := zr_lt h_7_16
      have z_7_18 : zi (-2147483648) 2147483646 most := zu_lt q_7_17 (zi_all most) (zi_all number) (by decide)
      have z_7_19 : zi (-2147483647) 2147483647 number := zd_lt q_7_17 (zi_all most) (zi_all number) (by decide)
      refine lv_iconst (v := 0) hx hb ddX11_within_14 (by decide) ?_
      exact cg_iret (nw := fun _ => 0) hC hr hlk hO.same rfl (Nat.le_of_ble_eq_true rfl) (Nat.le_of_ble_eq_true rfl) (Or.inr ⟨(by omega), rfl, rfl⟩) ddX11_within_15
    · have q_7_20 := zr_nlt h_7_16
      refine lv_iconst (v := 1) hx hb ddX11_within_10 (by decide) ?_
      refine lv_goto (tgt := 15) hx hb ddX11_within_11 (by decide) ?_
      exact cg_iret (nw := fun _ => 0) hC hr hlk hO.same rfl (Nat.le_of_ble_eq_true rfl) (Nat.le_of_ble_eq_true rfl) (Or.inl ⟨q_2_15, q_7_20, rfl, rfl⟩) ddX11_within_15

def wq_k_X12_isIn2 : List Cond := Cond.code yX12_isIn cX12_isIn 3 (some .boolean) :: (([] : List Cond))
set_option maxHeartbeats 8000000 in
set_option maxRecDepth 100000 in
theorem k_X12_isIn2 (l : Launch) (D : va_G) (cy : Nat → ClassId) (ad : Nat → Nat) (g : Nat → va_E) {v : Int32} {least : Int32} {most : Int32}  : cMi l yX12_isIn wq_k_X12_isIn2 { frames := 0, cells := 0, slots := 0, locals := 0 } 0 0 0 0 D cy ad g [.int v, .int least, .int most] (fun r nw lu => (((least : Int32).toInt ≤ (v : Int32).toInt) ∧ ((v : Int32).toInt ≤ (most : Int32).toInt) ∧ (r = 1) ∧ (lu = [])) ∨ (((¬ (least.toInt ≤ v.toInt ∧ v.toInt ≤ most.toInt))) ∧ (r = 0) ∧ (lu = []))) := by
  refine cM_of (Qc := fun A => cQi (fun r nw lu => (((least : Int32).toInt ≤ (v : Int32).toInt) ∧ ((v : Int32).toInt ≤ (most : Int32).toInt) ∧ (r = 1) ∧ (lu = [])) ∨ (((¬ (least.toInt ≤ v.toInt ∧ v.toInt ≤ most.toInt))) ∧ (r = 0) ∧ (lu = []))) D 0 0 ad g A) (cc := cX12_isIn) (maxL := 3) (ret := (some .boolean)) (by decide) rfl (Nat.le_of_ble_eq_true rfl) ?_
  intro p e s m below meth c A hC hr hlk hnm hO ls hl
  have hC : CallFix p m c cX12_isIn 3 s [.int v, .int least, .int most].toArray wq_k_X12_isIn2 RX12 := hC
  obtain ⟨hx, hb, hml, hown, hts⟩ := id hC
  have hl : lv_has ls 3 [(0, .int v), (1, .int least), (2, .int most)] := hl
  refine lv_iload_n hx hb ddX12_isIn_0 rfl (lv_at hl 0 rfl) ?_
  refine lv_iload_n hx hb ddX12_isIn_1 rfl (lv_at hl 1 rfl) ?_
  refine lv_icmp_lt (tgt := 14) hx hb ddX12_isIn_2 (by decide) (fun h_2_11 => ?_) (fun h_2_11 => ?_)
  · have q_2_12 := zr_lt h_2_11
    have z_2_13 : zi (-2147483648) 2147483646 v := zu_lt q_2_12 (zi_all v) (zi_all least) (by decide)
    have z_2_14 : zi (-2147483647) 2147483647 least := zd_lt q_2_12 (zi_all v) (zi_all least) (by decide)
    refine lv_iconst (v := 0) hx hb ddX12_isIn_14 (by decide) ?_
    exact cg_iret (nw := fun _ => 0) hC hr hlk hO.same rfl (Nat.le_of_ble_eq_true rfl) (Nat.le_of_ble_eq_true rfl) (Or.inr ⟨(by omega), rfl, rfl⟩) ddX12_isIn_15
  · have q_2_15 := zr_nlt h_2_11
    refine lv_iload_n hx hb ddX12_isIn_5 rfl (lv_at hl 0 rfl) ?_
    refine lv_iload_n hx hb ddX12_isIn_6 rfl (lv_at hl 2 rfl) ?_
    refine lv_icmp_gt (tgt := 14) hx hb ddX12_isIn_7 (by decide) (fun h_7_16 => ?_) (fun h_7_16 => ?_)
    · have q_7_17 := zr_lt h_7_16
      have z_7_18 : zi (-2147483648) 2147483646 most := zu_lt q_7_17 (zi_all most) (zi_all v) (by decide)
      have z_7_19 : zi (-2147483647) 2147483647 v := zd_lt q_7_17 (zi_all most) (zi_all v) (by decide)
      refine lv_iconst (v := 0) hx hb ddX12_isIn_14 (by decide) ?_
      exact cg_iret (nw := fun _ => 0) hC hr hlk hO.same rfl (Nat.le_of_ble_eq_true rfl) (Nat.le_of_ble_eq_true rfl) (Or.inr ⟨(by omega), rfl, rfl⟩) ddX12_isIn_15
    · have q_7_20 := zr_nlt h_7_16
      refine lv_iconst (v := 1) hx hb ddX12_isIn_10 (by decide) ?_
      refine lv_goto (tgt := 15) hx hb ddX12_isIn_11 (by decide) ?_
      exact cg_iret (nw := fun _ => 0) hC hr hlk hO.same rfl (Nat.le_of_ble_eq_true rfl) (Nat.le_of_ble_eq_true rfl) (Or.inl ⟨q_2_15, q_7_20, rfl, rfl⟩) ddX12_isIn_15

def wq_k_X11_later2 : List Cond := Cond.code yX11_later cX11_later 2 (some .int) :: (([Cond.methodLink RX11 107 yX11_within, Cond.static yX11_within, Cond.initialized RX11, Cond.code yX11_within cX11_within 3 (some .boolean), Cond.fieldLink RX11 93 "CrowToll" "sights" "LCrowToll$Sights;", Cond.fieldLink RX11 266 "CrowToll$Sights" "time" "I", Cond.constant RX11 269 (100000)] : List Cond) ++ wsX80 ++ wsX110)
set_option maxRecDepth 20000 in
theorem gr_k_X11_later2_k_X11_within2 : GoodIn wq_k_X11_later2 wq_k_X11_within2 := List.forall_mem_cons.mpr ⟨⟨(List.mem_of_getElem? (i := 4) rfl), good_of_word rfl⟩, (fun _ h => absurd h List.not_mem_nil)⟩
set_option maxRecDepth 20000 in
theorem gq_k_X11_later2_k_X11_within2_107 : GoodIn wq_k_X11_later2 (va_wsS RX11 107 yX11_within wq_k_X11_within2) := goodIn_app (List.forall_mem_cons.mpr ⟨⟨(List.mem_of_getElem? (i := 1) rfl), good_of_word rfl⟩, List.forall_mem_cons.mpr ⟨⟨(List.mem_of_getElem? (i := 2) rfl), good_of_word rfl⟩, List.forall_mem_cons.mpr ⟨⟨(List.mem_of_getElem? (i := 3) rfl), good_of_word rfl⟩, (fun _ h => absurd h List.not_mem_nil)⟩⟩⟩) gr_k_X11_later2_k_X11_within2
set_option maxHeartbeats 8000000 in
set_option maxRecDepth 100000 in
theorem k_X11_later2 (l : Launch) (D : va_G) (cy : Nat → ClassId) (ad : Nat → Nat) (g : Nat → va_E) {u0_0 : Value} {u0_1 : Value} {u0_2 : Value} {u0_3 : Value} {u0_4 : Value} {u0_5 : Value} {u0_6 : Value} {u0_7 : Value} {u0_8 : Value} {u0_9 : Value} {u0_10 : Value} {u0_12 : Value} {u0_13 : Value} {u1_0 : Value} {u1_1 : Value} {u1_2 : Value} {u1_3 : Value} {u1_4 : Value} {u1_5 : Value} {u1_6 : Value} {u1_7 : Value} {x1_8 : Int32} {u1_9 : Value} {u1_10 : Value} {u1_11 : Value} {u1_12 : Value} {u1_13 : Value} {u1_14 : Value} {u1_15 : Value} {byx : Int32} (o0 : g 0 = .inr (11, [u0_0, u0_1, u0_2, u0_3, u0_4, u0_5, u0_6, u0_7, u0_8, u0_9, u0_10, .ref (ad 1), u0_12, u0_13])) (o1 : g 1 = .inr (8, [u1_0, u1_1, u1_2, u1_3, u1_4, u1_5, u1_6, u1_7, .int x1_8, u1_9, u1_10, u1_11, u1_12, u1_13, u1_14, u1_15])) (b1_8 : zi 0 100000 x1_8) : cMi l yX11_later wq_k_X11_later2 { frames := 1, cells := 0, slots := 0, locals := 22 } 2 0 0 0 D cy ad g [.ref (ad 0), .int byx] (fun r nw lu => ∃ (y1_8 : Int32), (zi 0 100000 y1_8) ∧ (zi (-1) 100000 r) ∧ (LTm (x1_8 : Int32) (byx : Int32) (r : Int32) (y1_8 : Int32)) ∧ (lu = [(1, .inr (8, [u1_0, u1_1, u1_2, u1_3, u1_4, u1_5, u1_6, u1_7, .int y1_8, u1_9, u1_10, u1_11, u1_12, u1_13, u1_14, u1_15]))])) := by
  refine cM_of (Qc := fun A => cQi (fun r nw lu => ∃ (y1_8 : Int32), (zi 0 100000 y1_8) ∧ (zi (-1) 100000 r) ∧ (LTm (x1_8 : Int32) (byx : Int32) (r : Int32) (y1_8 : Int32)) ∧ (lu = [(1, .inr (8, [u1_0, u1_1, u1_2, u1_3, u1_4, u1_5, u1_6, u1_7, .int y1_8, u1_9, u1_10, u1_11, u1_12, u1_13, u1_14, u1_15]))])) D 2 0 ad g A) (cc := cX11_later) (maxL := 2) (ret := (some .int)) (by decide) rfl (Nat.le_of_ble_eq_true rfl) ?_
  intro p e s m below meth c A hC hr hlk hnm hO ls hl
  have hC : CallFix p m c cX11_later 2 s [.ref (ad 0), .int byx].toArray wq_k_X11_later2 RX11 := hC
  obtain ⟨hx, hb, hml, hown, hts⟩ := id hC
  have hl : lv_has ls 2 [(0, .ref (ad 0)), (1, .int byx)] := hl
  have zc0 : (0 : Int32).toInt = 0 := by decide
  have zc1 : (1 : Int32).toInt = 1 := by decide
  have zc2 : (2 : Int32).toInt = 2 := by decide
  have zc3 : (3 : Int32).toInt = 3 := by decide
  have zc4 : (4 : Int32).toInt = 4 := by decide
  have zc5 : (5 : Int32).toInt = 5 := by decide
  have zc6 : (6 : Int32).toInt = 6 := by decide
  have zc7 : (7 : Int32).toInt = 7 := by decide
  have zc8 : (8 : Int32).toInt = 8 := by decide
  have zc1000 : (1000 : Int32).toInt = 1000 := by decide
  have zcm1 : ((-1) : Int32).toInt = -1 := by decide
  have zc100000 : (100000 : Int32).toInt = 100000 := by decide
  have i_X11 : ∀ w ∈ wsX110, w ∈ wq_k_X11_later2 := fun w h => List.mem_cons_of_mem _ (List.mem_append_right _ h)
  have i_X8 : ∀ w ∈ wsX80, w ∈ wq_k_X11_later2 := fun w h => List.mem_cons_of_mem _ (List.mem_append_left _ (List.mem_append_right _ h))
  have hO := hO.notes [(1, .inr (8, [u1_0, u1_1, u1_2, u1_3, u1_4, u1_5, u1_6, u1_7, .int x1_8, u1_9, u1_10, u1_11, u1_12, u1_13, u1_14, u1_15]))] (List.forall_mem_cons.mpr ⟨o1, (fun _ h => absurd h List.not_mem_nil)⟩)
  refine lv_iload_n hx hb ddX11_later_0 rfl (lv_at hl 1 rfl) ?_
  refine lv_iconst (v := 0) hx hb ddX11_later_1 (by decide) ?_
  refine lv_sipush (v := 1000) hx hb ddX11_later_2 (by decide) ?_
  refine cg_Si (As := [.int byx, .int 0, .int 1000]) (rest := []) (mc := 0) (ms := 0) (rm := { frames := 0, cells := 0, slots := 0, locals := 0 }) hC hl.1 hO [] (by decide +kernel) (k_X11_within2 l D cy _ _ (number := byx) (least := 0) (most := 1000) ) gq_k_X11_later2_k_X11_within2_107 rfl rfl rfl 3 (by decide +kernel) ⟨Nat.le_of_ble_eq_true rfl, Nat.le_of_ble_eq_true rfl⟩ rfl rfl (Nat.le_of_ble_eq_true rfl) ddX11_later_5 ⟨Nat.le_of_ble_eq_true rfl, Nat.le_of_ble_eq_true rfl⟩ (fun r_5_47 nw_5_45 l_5_46 H locs hw hO => ?_)
  rcases hw with hw | hw
  · obtain ⟨q_5_48, q_5_49, rfl, rfl⟩ := hw
    have hO : cO D cy A s.heap s 2 ad (cup [(1, .inr (8, [u1_0, u1_1, u1_2, u1_3, u1_4, u1_5, u1_6, u1_7, .int x1_8, u1_9, u1_10, u1_11, u1_12, u1_13, u1_14, u1_15]))] g) _ _ := hO
    have q_5_50 := q_5_48
    have z_5_51 : zi 0 2147483647 byx := zd_le q_5_50 (zi_k (a := 0) (b := 0) (x := 0) rfl) (zi_all byx) (by decide)
    have q_5_52 := q_5_49
    have z_5_53 : zi 0 1000 byx := zu_le q_5_52 z_5_51 (zi_k (a := 1000) (b := 1000) (x := 1000) rfl) (by decide)
    refine lv_if_eq (tgt := 26) hx hb ddX11_later_8 (by decide) (fun h => absurd h (by decide)) (fun _ => ?_)
    refine lv_aload_n hx hb ddX11_later_11 rfl (lv_at hl 0 rfl) ?_
    refine cg_get hC hO 0 (by decide) o0 rfl i_X11 11 (by decide) (List.mem_of_getElem? (i := 5) rfl) rfl ddX11_later_12 ?_
    refine cg_get hC hO 1 (by decide) rfl rfl i_X8 8 (by decide) (List.mem_of_getElem? (i := 6) rfl) rfl ddX11_later_15 ?_
    refine lv_iload_n hx hb ddX11_later_18 rfl (lv_at hl 1 rfl) ?_
    refine lv_iadd hx hb ddX11_later_19 ?_
    refine zg_top2 (P := fun v => zi 0 101000 v) (E := fun v => v.toInt = (x1_8 : Int32).toInt + (byx : Int32).toInt) (zi_add b1_8 z_5_53 (by decide)) (fun v_19_54 z_19_55 q_19_56 => ?_)
    refine lv_ldcw (v := 100000) hx hb hown (hts _ (List.mem_of_getElem? (i := 7) rfl)) ddX11_later_20 ?_
    refine lv_icmp_le (tgt := 28) hx hb ddX11_later_23 (by decide) (fun h_23_57 => ?_) (fun h_23_57 => ?_)
    · have q_23_58 := zr_le h_23_57
      have z_23_59 : zi 0 100000 v_19_54 := zu_le q_23_58 z_19_55 (zi_k (a := 100000) (b := 100000) (x := 100000) rfl) (by decide)
      refine lv_aload_n hx hb ddX11_later_28 rfl (lv_at hl 0 rfl) ?_
      refine cg_get hC hO 0 (by decide) o0 rfl i_X11 11 (by decide) (List.mem_of_getElem? (i := 5) rfl) rfl ddX11_later_29 ?_
      refine lv_dup hx hb ddX11_later_32 rfl ?_
      refine cg_get hC hO 1 (by decide) rfl rfl i_X8 8 (by decide) (List.mem_of_getElem? (i := 6) rfl) rfl ddX11_later_33 ?_
      refine lv_iload_n hx hb ddX11_later_36 rfl (lv_at hl 1 rfl) ?_
      refine lv_iadd hx hb ddX11_later_37 ?_
      refine zg_top2 (P := fun v => zi 0 101000 v) (E := fun v => v.toInt = (x1_8 : Int32).toInt + (byx : Int32).toInt) (zi_add b1_8 z_5_53 (by decide)) (fun v_37_60 z_37_61 q_37_62 => ?_)
      have z_37_63 : zi 0 100000 v_37_60 := ze_eq (q_37_62.trans q_19_56.symm) z_37_61 z_23_59
      refine cg_put hC hO 1 (by decide) rfl rfl i_X8 tyX8_ok nmX8 8 (by decide) (List.mem_of_getElem? (i := 6) rfl) rfl rfl rfl (Nat.le_of_ble_eq_true rfl) ddX11_later_38 (fun H locs hO => ?_)
      have hO : cO D cy A s.heap s 2 ad (cup [(1, .inr (8, [u1_0, u1_1, u1_2, u1_3, u1_4, u1_5, u1_6, u1_7, .int v_37_60, u1_9, u1_10, u1_11, u1_12, u1_13, u1_14, u1_15]))] g) _ _ := hO
      refine lv_aload_n hx hb ddX11_later_41 rfl (lv_at hl 0 rfl) ?_
      refine cg_get hC hO 0 (by decide) o0 rfl i_X11 11 (by decide) (List.mem_of_getElem? (i := 5) rfl) rfl ddX11_later_42 ?_
      refine cg_get hC hO 1 (by decide) rfl rfl i_X8 8 (by decide) (List.mem_of_getElem? (i := 6) rfl) rfl ddX11_later_45 ?_
      exact cg_iret (nw := fun _ => 0) hC hr hlk hO.same rfl (Nat.le_of_ble_eq_true rfl) (Nat.le_of_ble_eq_true rfl) (⟨v_37_60, z_37_63, (zi_w (c := (-1)) (d := 100000) z_37_63 (by decide)), (by unfold LTm; omega), rfl⟩) ddX11_later_48
    · have q_23_64 := zr_nle h_23_57
      have z_23_65 : zi 100001 101000 v_19_54 := zd_lt q_23_64 (zi_k (a := 100000) (b := 100000) (x := 100000) rfl) z_19_55 (by decide)
      refine lv_iconst (v := (-1)) hx hb ddX11_later_26 (by decide) ?_
      exact cg_iret (nw := fun _ => 0) hC hr hlk hO.same rfl (Nat.le_of_ble_eq_true rfl) (Nat.le_of_ble_eq_true rfl) (⟨x1_8, b1_8, (zi_k (a := (-1)) (b := 100000) (x := (-1)) rfl), (by unfold LTm; omega), rfl⟩) ddX11_later_27
  · obtain ⟨xf_5_66, rfl, rfl⟩ := hw
    have hO : cO D cy A s.heap s 2 ad (cup [(1, .inr (8, [u1_0, u1_1, u1_2, u1_3, u1_4, u1_5, u1_6, u1_7, .int x1_8, u1_9, u1_10, u1_11, u1_12, u1_13, u1_14, u1_15]))] g) _ _ := hO
    refine lv_if_eq (tgt := 26) hx hb ddX11_later_8 (by decide) (fun _ => ?_) (fun h => absurd h (by decide))
    refine lv_iconst (v := (-1)) hx hb ddX11_later_26 (by decide) ?_
    exact cg_iret (nw := fun _ => 0) hC hr hlk hO.same rfl (Nat.le_of_ble_eq_true rfl) (Nat.le_of_ble_eq_true rfl) (⟨x1_8, b1_8, (zi_k (a := (-1)) (b := 100000) (x := (-1)) rfl), (by unfold LTm; omega), rfl⟩) ddX11_later_27

def wq_k_X12_later2 : List Cond := Cond.code yX12_later cX12_later 2 (some .int) :: (([Cond.methodLink RX12 366 yX12_isIn, Cond.static yX12_isIn, Cond.initialized RX12, Cond.code yX12_isIn cX12_isIn 3 (some .boolean), Cond.fieldLink RX12 455 "CrowTollModel" "time" "I", Cond.constant RX12 458 (100000)] : List Cond) ++ wsX120)
set_option maxRecDepth 20000 in
theorem gr_k_X12_later2_k_X12_isIn2 : GoodIn wq_k_X12_later2 wq_k_X12_isIn2 := List.forall_mem_cons.mpr ⟨⟨(List.mem_of_getElem? (i := 4) rfl), good_of_word rfl⟩, (fun _ h => absurd h List.not_mem_nil)⟩
set_option maxRecDepth 20000 in
theorem gq_k_X12_later2_k_X12_isIn2_366 : GoodIn wq_k_X12_later2 (va_wsS RX12 366 yX12_isIn wq_k_X12_isIn2) := goodIn_app (List.forall_mem_cons.mpr ⟨⟨(List.mem_of_getElem? (i := 1) rfl), good_of_word rfl⟩, List.forall_mem_cons.mpr ⟨⟨(List.mem_of_getElem? (i := 2) rfl), good_of_word rfl⟩, List.forall_mem_cons.mpr ⟨⟨(List.mem_of_getElem? (i := 3) rfl), good_of_word rfl⟩, (fun _ h => absurd h List.not_mem_nil)⟩⟩⟩) gr_k_X12_later2_k_X12_isIn2
set_option maxHeartbeats 8000000 in
set_option maxRecDepth 100000 in
theorem k_X12_later2 (l : Launch) (D : va_G) (cy : Nat → ClassId) (ad : Nat → Nat) (g : Nat → va_E) {u0_0 : Value} {u0_1 : Value} {u0_2 : Value} {u0_3 : Value} {u0_4 : Value} {u0_5 : Value} {u0_6 : Value} {u0_7 : Value} {u0_8 : Value} {u0_9 : Value} {u0_10 : Value} {u0_11 : Value} {u0_12 : Value} {u0_13 : Value} {u0_14 : Value} {u0_15 : Value} {u0_16 : Value} {u0_17 : Value} {u0_18 : Value} {u0_19 : Value} {u0_20 : Value} {u0_21 : Value} {u0_22 : Value} {u0_23 : Value} {u0_24 : Value} {u0_25 : Value} {u0_26 : Value} {u0_27 : Value} {u0_28 : Value} {u0_29 : Value} {u0_30 : Value} {u0_31 : Value} {u0_32 : Value} {u0_33 : Value} {u0_34 : Value} {u0_35 : Value} {u0_36 : Value} {u0_37 : Value} {u0_38 : Value} {u0_39 : Value} {u0_40 : Value} {u0_41 : Value} {u0_42 : Value} {u0_43 : Value} {u0_44 : Value} {u0_45 : Value} {u0_46 : Value} {u0_47 : Value} {u0_48 : Value} {u0_49 : Value} {u0_50 : Value} {u0_51 : Value} {u0_52 : Value} {u0_53 : Value} {u0_54 : Value} {u0_55 : Value} {u0_56 : Value} {u0_57 : Value} {u0_58 : Value} {u0_59 : Value} {u0_60 : Value} {u0_61 : Value} {u0_62 : Value} {u0_63 : Value} {u0_64 : Value} {u0_65 : Value} {u0_66 : Value} {u0_67 : Value} {u0_68 : Value} {u0_69 : Value} {u0_70 : Value} {x0_71 : Int32} {u0_72 : Value} {u0_73 : Value} {byx : Int32} (o0 : g 0 = .inr (12, [u0_0, u0_1, u0_2, u0_3, u0_4, u0_5, u0_6, u0_7, u0_8, u0_9, u0_10, u0_11, u0_12, u0_13, u0_14, u0_15, u0_16, u0_17, u0_18, u0_19, u0_20, u0_21, u0_22, u0_23, u0_24, u0_25, u0_26, u0_27, u0_28, u0_29, u0_30, u0_31, u0_32, u0_33, u0_34, u0_35, u0_36, u0_37, u0_38, u0_39, u0_40, u0_41, u0_42, u0_43, u0_44, u0_45, u0_46, u0_47, u0_48, u0_49, u0_50, u0_51, u0_52, u0_53, u0_54, u0_55, u0_56, u0_57, u0_58, u0_59, u0_60, u0_61, u0_62, u0_63, u0_64, u0_65, u0_66, u0_67, u0_68, u0_69, u0_70, .int x0_71, u0_72, u0_73])) (b0_71 : zi 0 100000 x0_71) : cMi l yX12_later wq_k_X12_later2 { frames := 1, cells := 0, slots := 0, locals := 22 } 1 0 0 0 D cy ad g [.ref (ad 0), .int byx] (fun r nw lu => ∃ (y0_71 : Int32), (zi 0 100000 y0_71) ∧ (zi (-1) 100000 r) ∧ (LTm (x0_71 : Int32) (byx : Int32) (r : Int32) (y0_71 : Int32)) ∧ (lu = [(0, .inr (12, [u0_0, u0_1, u0_2, u0_3, u0_4, u0_5, u0_6, u0_7, u0_8, u0_9, u0_10, u0_11, u0_12, u0_13, u0_14, u0_15, u0_16, u0_17, u0_18, u0_19, u0_20, u0_21, u0_22, u0_23, u0_24, u0_25, u0_26, u0_27, u0_28, u0_29, u0_30, u0_31, u0_32, u0_33, u0_34, u0_35, u0_36, u0_37, u0_38, u0_39, u0_40, u0_41, u0_42, u0_43, u0_44, u0_45, u0_46, u0_47, u0_48, u0_49, u0_50, u0_51, u0_52, u0_53, u0_54, u0_55, u0_56, u0_57, u0_58, u0_59, u0_60, u0_61, u0_62, u0_63, u0_64, u0_65, u0_66, u0_67, u0_68, u0_69, u0_70, .int y0_71, u0_72, u0_73]))])) := by
  refine cM_of (Qc := fun A => cQi (fun r nw lu => ∃ (y0_71 : Int32), (zi 0 100000 y0_71) ∧ (zi (-1) 100000 r) ∧ (LTm (x0_71 : Int32) (byx : Int32) (r : Int32) (y0_71 : Int32)) ∧ (lu = [(0, .inr (12, [u0_0, u0_1, u0_2, u0_3, u0_4, u0_5, u0_6, u0_7, u0_8, u0_9, u0_10, u0_11, u0_12, u0_13, u0_14, u0_15, u0_16, u0_17, u0_18, u0_19, u0_20, u0_21, u0_22, u0_23, u0_24, u0_25, u0_26, u0_27, u0_28, u0_29, u0_30, u0_31, u0_32, u0_33, u0_34, u0_35, u0_36, u0_37, u0_38, u0_39, u0_40, u0_41, u0_42, u0_43, u0_44, u0_45, u0_46, u0_47, u0_48, u0_49, u0_50, u0_51, u0_52, u0_53, u0_54, u0_55, u0_56, u0_57, u0_58, u0_59, u0_60, u0_61, u0_62, u0_63, u0_64, u0_65, u0_66, u0_67, u0_68, u0_69, u0_70, .int y0_71, u0_72, u0_73]))])) D 1 0 ad g A) (cc := cX12_later) (maxL := 2) (ret := (some .int)) (by decide) rfl (Nat.le_of_ble_eq_true rfl) ?_
  intro p e s m below meth c A hC hr hlk hnm hO ls hl
  have hC : CallFix p m c cX12_later 2 s [.ref (ad 0), .int byx].toArray wq_k_X12_later2 RX12 := hC
  obtain ⟨hx, hb, hml, hown, hts⟩ := id hC
  have hl : lv_has ls 2 [(0, .ref (ad 0)), (1, .int byx)] := hl
  have zc0 : (0 : Int32).toInt = 0 := by decide
  have zc1 : (1 : Int32).toInt = 1 := by decide
  have zc2 : (2 : Int32).toInt = 2 := by decide
  have zc3 : (3 : Int32).toInt = 3 := by decide
  have zc4 : (4 : Int32).toInt = 4 := by decide
  have zc5 : (5 : Int32).toInt = 5 := by decide
  have zc6 : (6 : Int32).toInt = 6 := by decide
  have zc7 : (7 : Int32).toInt = 7 := by decide
  have zc8 : (8 : Int32).toInt = 8 := by decide
  have zc1000 : (1000 : Int32).toInt = 1000 := by decide
  have zcm1 : ((-1) : Int32).toInt = -1 := by decide
  have zc100000 : (100000 : Int32).toInt = 100000 := by decide
  have i_X12 : ∀ w ∈ wsX120, w ∈ wq_k_X12_later2 := fun w h => List.mem_cons_of_mem _ (List.mem_append_right _ h)
  have hO := hO.notes [(0, .inr (12, [u0_0, u0_1, u0_2, u0_3, u0_4, u0_5, u0_6, u0_7, u0_8, u0_9, u0_10, u0_11, u0_12, u0_13, u0_14, u0_15, u0_16, u0_17, u0_18, u0_19, u0_20, u0_21, u0_22, u0_23, u0_24, u0_25, u0_26, u0_27, u0_28, u0_29, u0_30, u0_31, u0_32, u0_33, u0_34, u0_35, u0_36, u0_37, u0_38, u0_39, u0_40, u0_41, u0_42, u0_43, u0_44, u0_45, u0_46, u0_47, u0_48, u0_49, u0_50, u0_51, u0_52, u0_53, u0_54, u0_55, u0_56, u0_57, u0_58, u0_59, u0_60, u0_61, u0_62, u0_63, u0_64, u0_65, u0_66, u0_67, u0_68, u0_69, u0_70, .int x0_71, u0_72, u0_73]))] (List.forall_mem_cons.mpr ⟨o0, (fun _ h => absurd h List.not_mem_nil)⟩)
  refine lv_iload_n hx hb ddX12_later_0 rfl (lv_at hl 1 rfl) ?_
  refine lv_iconst (v := 0) hx hb ddX12_later_1 (by decide) ?_
  refine lv_sipush (v := 1000) hx hb ddX12_later_2 (by decide) ?_
  refine cg_Si (As := [.int byx, .int 0, .int 1000]) (rest := []) (mc := 0) (ms := 0) (rm := { frames := 0, cells := 0, slots := 0, locals := 0 }) hC hl.1 hO [] (by decide +kernel) (k_X12_isIn2 l D cy _ _ (v := byx) (least := 0) (most := 1000) ) gq_k_X12_later2_k_X12_isIn2_366 rfl rfl rfl 3 (by decide +kernel) ⟨Nat.le_of_ble_eq_true rfl, Nat.le_of_ble_eq_true rfl⟩ rfl rfl (Nat.le_of_ble_eq_true rfl) ddX12_later_5 ⟨Nat.le_of_ble_eq_true rfl, Nat.le_of_ble_eq_true rfl⟩ (fun r_5_47 nw_5_45 l_5_46 H locs hw hO => ?_)
  rcases hw with hw | hw
  · obtain ⟨q_5_48, q_5_49, rfl, rfl⟩ := hw
    have hO : cO D cy A s.heap s 1 ad (cup [(0, .inr (12, [u0_0, u0_1, u0_2, u0_3, u0_4, u0_5, u0_6, u0_7, u0_8, u0_9, u0_10, u0_11, u0_12, u0_13, u0_14, u0_15, u0_16, u0_17, u0_18, u0_19, u0_20, u0_21, u0_22, u0_23, u0_24, u0_25, u0_26, u0_27, u0_28, u0_29, u0_30, u0_31, u0_32, u0_33, u0_34, u0_35, u0_36, u0_37, u0_38, u0_39, u0_40, u0_41, u0_42, u0_43, u0_44, u0_45, u0_46, u0_47, u0_48, u0_49, u0_50, u0_51, u0_52, u0_53, u0_54, u0_55, u0_56, u0_57, u0_58, u0_59, u0_60, u0_61, u0_62, u0_63, u0_64, u0_65, u0_66, u0_67, u0_68, u0_69, u0_70, .int x0_71, u0_72, u0_73]))] g) _ _ := hO
    have q_5_50 := q_5_48
    have z_5_51 : zi 0 2147483647 byx := zd_le q_5_50 (zi_k (a := 0) (b := 0) (x := 0) rfl) (zi_all byx) (by decide)
    have q_5_52 := q_5_49
    have z_5_53 : zi 0 1000 byx := zu_le q_5_52 z_5_51 (zi_k (a := 1000) (b := 1000) (x := 1000) rfl) (by decide)
    refine lv_if_eq (tgt := 23) hx hb ddX12_later_8 (by decide) (fun h => absurd h (by decide)) (fun _ => ?_)
    refine lv_aload_n hx hb ddX12_later_11 rfl (lv_at hl 0 rfl) ?_
    refine cg_get hC hO 0 (by decide) rfl rfl i_X12 71 (by decide) (List.mem_of_getElem? (i := 5) rfl) rfl ddX12_later_12 ?_
    refine lv_iload_n hx hb ddX12_later_15 rfl (lv_at hl 1 rfl) ?_
    refine lv_iadd hx hb ddX12_later_16 ?_
    refine zg_top2 (P := fun v => zi 0 101000 v) (E := fun v => v.toInt = (x0_71 : Int32).toInt + (byx : Int32).toInt) (zi_add b0_71 z_5_53 (by decide)) (fun v_16_54 z_16_55 q_16_56 => ?_)
    refine lv_ldcw (v := 100000) hx hb hown (hts _ (List.mem_of_getElem? (i := 6) rfl)) ddX12_later_17 ?_
    refine lv_icmp_le (tgt := 25) hx hb ddX12_later_20 (by decide) (fun h_20_57 => ?_) (fun h_20_57 => ?_)
    · have q_20_58 := zr_le h_20_57
      have z_20_59 : zi 0 100000 v_16_54 := zu_le q_20_58 z_16_55 (zi_k (a := 100000) (b := 100000) (x := 100000) rfl) (by decide)
      refine lv_aload_n hx hb ddX12_later_25 rfl (lv_at hl 0 rfl) ?_
      refine lv_dup hx hb ddX12_later_26 rfl ?_
      refine cg_get hC hO 0 (by decide) rfl rfl i_X12 71 (by decide) (List.mem_of_getElem? (i := 5) rfl) rfl ddX12_later_27 ?_
      refine lv_iload_n hx hb ddX12_later_30 rfl (lv_at hl 1 rfl) ?_
      refine lv_iadd hx hb ddX12_later_31 ?_
      refine zg_top2 (P := fun v => zi 0 101000 v) (E := fun v => v.toInt = (x0_71 : Int32).toInt + (byx : Int32).toInt) (zi_add b0_71 z_5_53 (by decide)) (fun v_31_60 z_31_61 q_31_62 => ?_)
      have z_31_63 : zi 0 100000 v_31_60 := ze_eq (q_31_62.trans q_16_56.symm) z_31_61 z_20_59
      refine cg_put hC hO 0 (by decide) rfl rfl i_X12 tyX12_ok nmX12 71 (by decide) (List.mem_of_getElem? (i := 5) rfl) rfl rfl rfl (Nat.le_of_ble_eq_true rfl) ddX12_later_32 (fun H locs hO => ?_)
      have hO : cO D cy A s.heap s 1 ad (cup [(0, .inr (12, [u0_0, u0_1, u0_2, u0_3, u0_4, u0_5, u0_6, u0_7, u0_8, u0_9, u0_10, u0_11, u0_12, u0_13, u0_14, u0_15, u0_16, u0_17, u0_18, u0_19, u0_20, u0_21, u0_22, u0_23, u0_24, u0_25, u0_26, u0_27, u0_28, u0_29, u0_30, u0_31, u0_32, u0_33, u0_34, u0_35, u0_36, u0_37, u0_38, u0_39, u0_40, u0_41, u0_42, u0_43, u0_44, u0_45, u0_46, u0_47, u0_48, u0_49, u0_50, u0_51, u0_52, u0_53, u0_54, u0_55, u0_56, u0_57, u0_58, u0_59, u0_60, u0_61, u0_62, u0_63, u0_64, u0_65, u0_66, u0_67, u0_68, u0_69, u0_70, .int v_31_60, u0_72, u0_73]))] g) _ _ := hO
      refine lv_aload_n hx hb ddX12_later_35 rfl (lv_at hl 0 rfl) ?_
      refine cg_get hC hO 0 (by decide) rfl rfl i_X12 71 (by decide) (List.mem_of_getElem? (i := 5) rfl) rfl ddX12_later_36 ?_
      exact cg_iret (nw := fun _ => 0) hC hr hlk hO.same rfl (Nat.le_of_ble_eq_true rfl) (Nat.le_of_ble_eq_true rfl) (⟨v_31_60, z_31_63, (zi_w (c := (-1)) (d := 100000) z_31_63 (by decide)), (by unfold LTm; omega), rfl⟩) ddX12_later_39
    · have q_20_64 := zr_nle h_20_57
      have z_20_65 : zi 100001 101000 v_16_54 := zd_lt q_20_64 (zi_k (a := 100000) (b := 100000) (x := 100000) rfl) z_16_55 (by decide)
      refine lv_iconst (v := (-1)) hx hb ddX12_later_23 (by decide) ?_
      exact cg_iret (nw := fun _ => 0) hC hr hlk hO.same rfl (Nat.le_of_ble_eq_true rfl) (Nat.le_of_ble_eq_true rfl) (⟨x0_71, b0_71, (zi_k (a := (-1)) (b := 100000) (x := (-1)) rfl), (by unfold LTm; omega), rfl⟩) ddX12_later_24
  · obtain ⟨xf_5_66, rfl, rfl⟩ := hw
    have hO : cO D cy A s.heap s 1 ad (cup [(0, .inr (12, [u0_0, u0_1, u0_2, u0_3, u0_4, u0_5, u0_6, u0_7, u0_8, u0_9, u0_10, u0_11, u0_12, u0_13, u0_14, u0_15, u0_16, u0_17, u0_18, u0_19, u0_20, u0_21, u0_22, u0_23, u0_24, u0_25, u0_26, u0_27, u0_28, u0_29, u0_30, u0_31, u0_32, u0_33, u0_34, u0_35, u0_36, u0_37, u0_38, u0_39, u0_40, u0_41, u0_42, u0_43, u0_44, u0_45, u0_46, u0_47, u0_48, u0_49, u0_50, u0_51, u0_52, u0_53, u0_54, u0_55, u0_56, u0_57, u0_58, u0_59, u0_60, u0_61, u0_62, u0_63, u0_64, u0_65, u0_66, u0_67, u0_68, u0_69, u0_70, .int x0_71, u0_72, u0_73]))] g) _ _ := hO
    refine lv_if_eq (tgt := 23) hx hb ddX12_later_8 (by decide) (fun _ => ?_) (fun h => absurd h (by decide))
    refine lv_iconst (v := (-1)) hx hb ddX12_later_23 (by decide) ?_
    exact cg_iret (nw := fun _ => 0) hC hr hlk hO.same rfl (Nat.le_of_ble_eq_true rfl) (Nat.le_of_ble_eq_true rfl) (⟨x0_71, b0_71, (zi_k (a := (-1)) (b := 100000) (x := (-1)) rfl), (by unfold LTm; omega), rfl⟩) ddX12_later_24

