theorem ddX12_sign_0 : decode cX12_sign 0 = .ok (.iload_n 1, 1) := by decide +kernel
theorem ddX12_sign_1 : decode cX12_sign 1 = .ok (.aload_n 0, 1) := by decide +kernel
theorem ddX12_sign_2 : decode cX12_sign 2 = .ok (.getfield 182, 3) := by decide +kernel
theorem ddX12_sign_5 : decode cX12_sign 5 = .ok (.if_icmp .ge 16, 3) := by decide +kernel
theorem ddX12_sign_8 : decode cX12_sign 8 = .ok (.aload_n 0, 1) := by decide +kernel
theorem ddX12_sign_9 : decode cX12_sign 9 = .ok (.getfield 13, 3) := by decide +kernel
theorem ddX12_sign_12 : decode cX12_sign 12 = .ok (.iload_n 1, 1) := by decide +kernel
theorem ddX12_sign_13 : decode cX12_sign 13 = .ok (.baload, 1) := by decide +kernel
theorem ddX12_sign_14 : decode cX12_sign 14 = .ok (.sipush 255, 3) := by decide +kernel
theorem ddX12_sign_17 : decode cX12_sign 17 = .ok (.iand, 1) := by decide +kernel
theorem ddX12_sign_18 : decode cX12_sign 18 = .ok (.goto 4, 3) := by decide +kernel
theorem ddX12_sign_21 : decode cX12_sign 21 = .ok (.iconst 0, 1) := by decide +kernel
theorem ddX12_sign_22 : decode cX12_sign 22 = .ok (.ireturn, 1) := by decide +kernel
def wq_k_X12_sign : List Cond := Cond.code yX12_sign cX12_sign 2 (some .int) :: (([Cond.fieldLink RX12 182 "CrowTollModel" "size" "I", Cond.fieldLink RX12 13 "CrowTollModel" "text" "[B"] : List Cond) ++ wsX120)
set_option maxHeartbeats 8000000 in
set_option maxRecDepth 100000 in
theorem k_X12_sign (l : Launch) (D : va_G) (cy : Nat → ClassId) (ad : Nat → Nat) (g : Nat → va_E) {u0_0 : Value} {u0_2 : Value} {x0_3 : Int32} {u0_4 : Value} {u0_5 : Value} {u0_6 : Value} {u0_7 : Value} {u0_8 : Value} {u0_9 : Value} {u0_10 : Value} {u0_11 : Value} {u0_12 : Value} {u0_13 : Value} {u0_14 : Value} {u0_15 : Value} {u0_16 : Value} {u0_17 : Value} {u0_18 : Value} {u0_19 : Value} {u0_20 : Value} {u0_21 : Value} {u0_22 : Value} {u0_23 : Value} {u0_24 : Value} {u0_25 : Value} {u0_26 : Value} {u0_27 : Value} {u0_28 : Value} {u0_29 : Value} {u0_30 : Value} {u0_31 : Value} {u0_32 : Value} {u0_33 : Value} {u0_34 : Value} {u0_35 : Value} {u0_36 : Value} {u0_37 : Value} {u0_38 : Value} {u0_39 : Value} {u0_40 : Value} {u0_41 : Value} {u0_42 : Value} {u0_43 : Value} {u0_44 : Value} {u0_45 : Value} {u0_46 : Value} {u0_47 : Value} {u0_48 : Value} {u0_49 : Value} {u0_50 : Value} {u0_51 : Value} {u0_52 : Value} {u0_53 : Value} {u0_54 : Value} {u0_55 : Value} {u0_56 : Value} {u0_57 : Value} {u0_58 : Value} {u0_59 : Value} {u0_60 : Value} {u0_61 : Value} {u0_62 : Value} {u0_63 : Value} {u0_64 : Value} {u0_65 : Value} {u0_66 : Value} {u0_67 : Value} {u0_68 : Value} {u0_69 : Value} {u0_70 : Value} {u0_71 : Value} {u0_72 : Value} {u0_73 : Value} {c1 : Nat → Int32} {k : Int32} (o0 : g 0 = .inr (12, [u0_0, .ref (ad 1), u0_2, .int x0_3, u0_4, u0_5, u0_6, u0_7, u0_8, u0_9, u0_10, u0_11, u0_12, u0_13, u0_14, u0_15, u0_16, u0_17, u0_18, u0_19, u0_20, u0_21, u0_22, u0_23, u0_24, u0_25, u0_26, u0_27, u0_28, u0_29, u0_30, u0_31, u0_32, u0_33, u0_34, u0_35, u0_36, u0_37, u0_38, u0_39, u0_40, u0_41, u0_42, u0_43, u0_44, u0_45, u0_46, u0_47, u0_48, u0_49, u0_50, u0_51, u0_52, u0_53, u0_54, u0_55, u0_56, u0_57, u0_58, u0_59, u0_60, u0_61, u0_62, u0_63, u0_64, u0_65, u0_66, u0_67, u0_68, u0_69, u0_70, u0_71, u0_72, u0_73])) (a1 : g 1 = .inl (cy 3, 1600, .inl c1)) (b0_3 : zi 0 1600 x0_3) (p_k : zi 0 1600 k) : cMi l yX12_sign wq_k_X12_sign { frames := 0, cells := 0, slots := 0, locals := 0 } 2 0 0 0 D cy ad g [.ref (ad 0), .int k] (fun r nw lu => (zi 0 255 r) ∧ ((r : Int32) = sgn c1 (x0_3 : Int32) (k : Int32)) ∧ (((r : Int32).toInt = 0 ∨ (k : Int32).toInt < (x0_3 : Int32).toInt)) ∧ (lu = [])) := by
  refine cM_of (Qc := fun A => cQi (fun r nw lu => (zi 0 255 r) ∧ ((r : Int32) = sgn c1 (x0_3 : Int32) (k : Int32)) ∧ (((r : Int32).toInt = 0 ∨ (k : Int32).toInt < (x0_3 : Int32).toInt)) ∧ (lu = [])) D 2 0 ad g A) (cc := cX12_sign) (maxL := 2) (ret := (some .int)) (by decide) rfl (Nat.le_of_ble_eq_true rfl) ?_
  intro p e s m below meth c A hC hr hlk hnm hO ls hl
  have hC : CallFix p m c cX12_sign 2 s [.ref (ad 0), .int k].toArray wq_k_X12_sign RX12 := hC
  obtain ⟨hx, hb, hml, hown, hts⟩ := id hC
  have hl : lv_has ls 2 [(0, .ref (ad 0)), (1, .int k)] := hl
  have zc0 : (0 : Int32).toInt = 0 := by decide
  have zc1 : (1 : Int32).toInt = 1 := by decide
  have zc2 : (2 : Int32).toInt = 2 := by decide
  have zc3 : (3 : Int32).toInt = 3 := by decide
  have zc4 : (4 : Int32).toInt = 4 := by decide
  have zc5 : (5 : Int32).toInt = 5 := by decide
  have zc6 : (6 : Int32).toInt = 6 := by decide
  have zc7 : (7 : Int32).toInt = 7 := by decide
  have zc8 : (8 : Int32).toInt = 8 := by decide
  have i_X12 : ∀ w ∈ wsX120, w ∈ wq_k_X12_sign := fun w h => List.mem_cons_of_mem _ (List.mem_append_right _ h)
  refine lv_iload_n hx hb ddX12_sign_0 rfl (lv_at hl 1 rfl) ?_
  refine lv_aload_n hx hb ddX12_sign_1 rfl (lv_at hl 0 rfl) ?_
  refine cg_get hC hO 0 (by decide) o0 rfl i_X12 3 (by decide) (List.mem_of_getElem? (i := 1) rfl) rfl ddX12_sign_2 ?_
  refine lv_icmp_ge (tgt := 21) hx hb ddX12_sign_5 (by decide) (fun h_5_11 => ?_) (fun h_5_11 => ?_)
  · have q_5_12 := zr_le h_5_11
    refine lv_iconst (v := 0) hx hb ddX12_sign_21 (by decide) ?_
    exact cg_iret (nw := fun _ => 0) hC hr hlk hO.same rfl (Nat.le_of_ble_eq_true rfl) (Nat.le_of_ble_eq_true rfl) (⟨(zi_k (a := 0) (b := 255) (x := 0) rfl), (sgn_ge (by omega)).symm, (by omega), rfl⟩) ddX12_sign_22
  · have q_5_13 := zr_nle h_5_11
    have z_5_14 : zi 0 1599 k := zu_lt q_5_13 p_k b0_3 (by decide)
    have z_5_15 : zi 1 1600 x0_3 := zd_lt q_5_13 p_k b0_3 (by decide)
    refine lv_aload_n hx hb ddX12_sign_8 rfl (lv_at hl 0 rfl) ?_
    refine cg_get hC hO 0 (by decide) o0 rfl i_X12 1 (by decide) (List.mem_of_getElem? (i := 2) rfl) rfl ddX12_sign_9 ?_
    refine lv_iload_n hx hb ddX12_sign_12 rfl (lv_at hl 1 rfl) ?_
    refine cg_bald hC hO 1 (by decide) a1 (zi_in z_5_14 (by decide)) ddX12_sign_13 ?_
    refine lv_topi (fun v_13_16 eq_13_17 => ?_)
    refine lv_sipush (v := 255) hx hb ddX12_sign_14 (by decide) ?_
    refine lv_iand hx hb ddX12_sign_17 ?_
    refine zg_top2 (P := fun v => zi 0 255 v) (E := fun v => v = v_13_16 &&& 255) (⟨zi_and (zi_k (a := 0) (b := 255) (x := 255) rfl), rfl⟩) (fun v_17_18 z_17_19 eq_17_20 => ?_)
    refine lv_goto (tgt := 22) hx hb ddX12_sign_18 (by decide) ?_
    exact cg_iret (nw := fun _ => 0) hC hr hlk hO.same rfl (Nat.le_of_ble_eq_true rfl) (Nat.le_of_ble_eq_true rfl) (⟨z_17_19, (by rw [eq_17_20, eq_13_17]; exact (sgn_lt (by omega)).symm), (by omega), rfl⟩) ddX12_sign_22

theorem ddX12_isDigit_0 : decode cX12_isDigit 0 = .ok (.iload_n 0, 1) := by decide +kernel
theorem ddX12_isDigit_1 : decode cX12_isDigit 1 = .ok (.bipush 48, 2) := by decide +kernel
theorem ddX12_isDigit_3 : decode cX12_isDigit 3 = .ok (.if_icmp .lt 13, 3) := by decide +kernel
theorem ddX12_isDigit_6 : decode cX12_isDigit 6 = .ok (.iload_n 0, 1) := by decide +kernel
theorem ddX12_isDigit_7 : decode cX12_isDigit 7 = .ok (.bipush 57, 2) := by decide +kernel
theorem ddX12_isDigit_9 : decode cX12_isDigit 9 = .ok (.if_icmp .gt 7, 3) := by decide +kernel
theorem ddX12_isDigit_12 : decode cX12_isDigit 12 = .ok (.iconst 1, 1) := by decide +kernel
theorem ddX12_isDigit_13 : decode cX12_isDigit 13 = .ok (.goto 4, 3) := by decide +kernel
theorem ddX12_isDigit_16 : decode cX12_isDigit 16 = .ok (.iconst 0, 1) := by decide +kernel
theorem ddX12_isDigit_17 : decode cX12_isDigit 17 = .ok (.ireturn, 1) := by decide +kernel
def wq_k_X12_isDigit : List Cond := Cond.code yX12_isDigit cX12_isDigit 1 (some .boolean) :: (([] : List Cond))
set_option maxHeartbeats 8000000 in
set_option maxRecDepth 100000 in
theorem k_X12_isDigit (l : Launch) (D : va_G) (cy : Nat → ClassId) (ad : Nat → Nat) (g : Nat → va_E) {n : Int32}  : cMi l yX12_isDigit wq_k_X12_isDigit { frames := 0, cells := 0, slots := 0, locals := 0 } 0 0 0 0 D cy ad g [.int n] (fun r nw lu => ((zi 48 57 n) ∧ ((48 : Int32).toInt ≤ (n : Int32).toInt) ∧ ((n : Int32).toInt ≤ (57 : Int32).toInt) ∧ (r = 1) ∧ (lu = [])) ∨ (((¬ (48 ≤ n.toInt ∧ n.toInt ≤ 57))) ∧ (r = 0) ∧ (lu = []))) := by
  refine cM_of (Qc := fun A => cQi (fun r nw lu => ((zi 48 57 n) ∧ ((48 : Int32).toInt ≤ (n : Int32).toInt) ∧ ((n : Int32).toInt ≤ (57 : Int32).toInt) ∧ (r = 1) ∧ (lu = [])) ∨ (((¬ (48 ≤ n.toInt ∧ n.toInt ≤ 57))) ∧ (r = 0) ∧ (lu = []))) D 0 0 ad g A) (cc := cX12_isDigit) (maxL := 1) (ret := (some .boolean)) (by decide) rfl (Nat.le_of_ble_eq_true rfl) ?_
  intro p e s m below meth c A hC hr hlk hnm hO ls hl
  have hC : CallFix p m c cX12_isDigit 1 s [.int n].toArray wq_k_X12_isDigit RX12 := hC
  obtain ⟨hx, hb, hml, hown, hts⟩ := id hC
  have hl : lv_has ls 1 [(0, .int n)] := hl
  refine lv_iload_n hx hb ddX12_isDigit_0 rfl (lv_at hl 0 rfl) ?_
  refine lv_bipush (v := 48) hx hb ddX12_isDigit_1 (by decide) ?_
  refine lv_icmp_lt (tgt := 16) hx hb ddX12_isDigit_3 (by decide) (fun h_3_11 => ?_) (fun h_3_11 => ?_)
  · have q_3_12 := zr_lt h_3_11
    have z_3_13 : zi (-2147483648) 47 n := zu_lt q_3_12 (zi_all n) (zi_k (a := 48) (b := 48) (x := 48) rfl) (by decide)
    refine lv_iconst (v := 0) hx hb ddX12_isDigit_16 (by decide) ?_
    exact cg_iret (nw := fun _ => 0) hC hr hlk hO.same rfl (Nat.le_of_ble_eq_true rfl) (Nat.le_of_ble_eq_true rfl) (Or.inr ⟨(by have z1 : (48 : Int32).toInt = 48 := (by decide); have z2 : (57 : Int32).toInt = 57 := (by decide); omega), rfl, rfl⟩) ddX12_isDigit_17
  · have q_3_14 := zr_nlt h_3_11
    have z_3_15 : zi 48 2147483647 n := zd_le q_3_14 (zi_k (a := 48) (b := 48) (x := 48) rfl) (zi_all n) (by decide)
    refine lv_iload_n hx hb ddX12_isDigit_6 rfl (lv_at hl 0 rfl) ?_
    refine lv_bipush (v := 57) hx hb ddX12_isDigit_7 (by decide) ?_
    refine lv_icmp_gt (tgt := 16) hx hb ddX12_isDigit_9 (by decide) (fun h_9_16 => ?_) (fun h_9_16 => ?_)
    · have q_9_17 := zr_lt h_9_16
      have z_9_18 : zi 58 2147483647 n := zd_lt q_9_17 (zi_k (a := 57) (b := 57) (x := 57) rfl) z_3_15 (by decide)
      refine lv_iconst (v := 0) hx hb ddX12_isDigit_16 (by decide) ?_
      exact cg_iret (nw := fun _ => 0) hC hr hlk hO.same rfl (Nat.le_of_ble_eq_true rfl) (Nat.le_of_ble_eq_true rfl) (Or.inr ⟨(by have z1 : (48 : Int32).toInt = 48 := (by decide); have z2 : (57 : Int32).toInt = 57 := (by decide); omega), rfl, rfl⟩) ddX12_isDigit_17
    · have q_9_19 := zr_nlt h_9_16
      have z_9_20 : zi 48 57 n := zu_le q_9_19 z_3_15 (zi_k (a := 57) (b := 57) (x := 57) rfl) (by decide)
      refine lv_iconst (v := 1) hx hb ddX12_isDigit_12 (by decide) ?_
      refine lv_goto (tgt := 17) hx hb ddX12_isDigit_13 (by decide) ?_
      exact cg_iret (nw := fun _ => 0) hC hr hlk hO.same rfl (Nat.le_of_ble_eq_true rfl) (Nat.le_of_ble_eq_true rfl) (Or.inl ⟨z_9_20, q_3_14, q_9_19, rfl, rfl⟩) ddX12_isDigit_17

theorem ddX12_isGood_0 : decode cX12_isGood 0 = .ok (.aload_n 0, 1) := by decide +kernel
theorem ddX12_isGood_1 : decode cX12_isGood 1 = .ok (.getfield 185, 3) := by decide +kernel
theorem ddX12_isGood_4 : decode cX12_isGood 4 = .ok (.ifCond .ne 7, 3) := by decide +kernel
theorem ddX12_isGood_7 : decode cX12_isGood 7 = .ok (.iconst 1, 1) := by decide +kernel
theorem ddX12_isGood_8 : decode cX12_isGood 8 = .ok (.goto 4, 3) := by decide +kernel
theorem ddX12_isGood_11 : decode cX12_isGood 11 = .ok (.iconst 0, 1) := by decide +kernel
theorem ddX12_isGood_12 : decode cX12_isGood 12 = .ok (.ireturn, 1) := by decide +kernel
def wq_k_X12_isGood : List Cond := Cond.code yX12_isGood cX12_isGood 1 (some .boolean) :: (([Cond.fieldLink RX12 185 "CrowTollModel" "faultKind" "I"] : List Cond) ++ wsX120)
set_option maxHeartbeats 8000000 in
set_option maxRecDepth 100000 in
theorem k_X12_isGood (l : Launch) (D : va_G) (cy : Nat → ClassId) (ad : Nat → Nat) (g : Nat → va_E) {u0_0 : Value} {u0_1 : Value} {u0_2 : Value} {u0_3 : Value} {x0_4 : Int32} {u0_5 : Value} {u0_6 : Value} {u0_7 : Value} {u0_8 : Value} {u0_9 : Value} {u0_10 : Value} {u0_11 : Value} {u0_12 : Value} {u0_13 : Value} {u0_14 : Value} {u0_15 : Value} {u0_16 : Value} {u0_17 : Value} {u0_18 : Value} {u0_19 : Value} {u0_20 : Value} {u0_21 : Value} {u0_22 : Value} {u0_23 : Value} {u0_24 : Value} {u0_25 : Value} {u0_26 : Value} {u0_27 : Value} {u0_28 : Value} {u0_29 : Value} {u0_30 : Value} {u0_31 : Value} {u0_32 : Value} {u0_33 : Value} {u0_34 : Value} {u0_35 : Value} {u0_36 : Value} {u0_37 : Value} {u0_38 : Value} {u0_39 : Value} {u0_40 : Value} {u0_41 : Value} {u0_42 : Value} {u0_43 : Value} {u0_44 : Value} {u0_45 : Value} {u0_46 : Value} {u0_47 : Value} {u0_48 : Value} {u0_49 : Value} {u0_50 : Value} {u0_51 : Value} {u0_52 : Value} {u0_53 : Value} {u0_54 : Value} {u0_55 : Value} {u0_56 : Value} {u0_57 : Value} {u0_58 : Value} {u0_59 : Value} {u0_60 : Value} {u0_61 : Value} {u0_62 : Value} {u0_63 : Value} {u0_64 : Value} {u0_65 : Value} {u0_66 : Value} {u0_67 : Value} {u0_68 : Value} {u0_69 : Value} {u0_70 : Value} {u0_71 : Value} {u0_72 : Value} {u0_73 : Value} (o0 : g 0 = .inr (12, [u0_0, u0_1, u0_2, u0_3, .int x0_4, u0_5, u0_6, u0_7, u0_8, u0_9, u0_10, u0_11, u0_12, u0_13, u0_14, u0_15, u0_16, u0_17, u0_18, u0_19, u0_20, u0_21, u0_22, u0_23, u0_24, u0_25, u0_26, u0_27, u0_28, u0_29, u0_30, u0_31, u0_32, u0_33, u0_34, u0_35, u0_36, u0_37, u0_38, u0_39, u0_40, u0_41, u0_42, u0_43, u0_44, u0_45, u0_46, u0_47, u0_48, u0_49, u0_50, u0_51, u0_52, u0_53, u0_54, u0_55, u0_56, u0_57, u0_58, u0_59, u0_60, u0_61, u0_62, u0_63, u0_64, u0_65, u0_66, u0_67, u0_68, u0_69, u0_70, u0_71, u0_72, u0_73])) (b0_4 : zi 0 5 x0_4) : cMi l yX12_isGood wq_k_X12_isGood { frames := 0, cells := 0, slots := 0, locals := 0 } 1 0 0 0 D cy ad g [.ref (ad 0)] (fun r nw lu => ((zi 0 0 x0_4) ∧ ((x0_4 : Int32).toInt = (0 : Int32).toInt) ∧ (r = 1) ∧ (lu = [])) ∨ ((zi 1 5 x0_4) ∧ (r = 0) ∧ (lu = []))) := by
  refine cM_of (Qc := fun A => cQi (fun r nw lu => ((zi 0 0 x0_4) ∧ ((x0_4 : Int32).toInt = (0 : Int32).toInt) ∧ (r = 1) ∧ (lu = [])) ∨ ((zi 1 5 x0_4) ∧ (r = 0) ∧ (lu = []))) D 1 0 ad g A) (cc := cX12_isGood) (maxL := 1) (ret := (some .boolean)) (by decide) rfl (Nat.le_of_ble_eq_true rfl) ?_
  intro p e s m below meth c A hC hr hlk hnm hO ls hl
  have hC : CallFix p m c cX12_isGood 1 s [.ref (ad 0)].toArray wq_k_X12_isGood RX12 := hC
  obtain ⟨hx, hb, hml, hown, hts⟩ := id hC
  have hl : lv_has ls 1 [(0, .ref (ad 0))] := hl
  have i_X12 : ∀ w ∈ wsX120, w ∈ wq_k_X12_isGood := fun w h => List.mem_cons_of_mem _ (List.mem_append_right _ h)
  refine lv_aload_n hx hb ddX12_isGood_0 rfl (lv_at hl 0 rfl) ?_
  refine cg_get hC hO 0 (by decide) o0 rfl i_X12 4 (by decide) (List.mem_of_getElem? (i := 1) rfl) rfl ddX12_isGood_1 ?_
  refine lv_if_ne (tgt := 11) hx hb ddX12_isGood_4 (by decide) (fun h_4_6 => ?_) (fun h_4_6 => ?_)
  · have q_4_7 := zr_ne h_4_6
    have z_4_8 : zi 1 5 x0_4 := zn_lo q_4_7 b0_4 (zi_k (a := 0) (b := 0) (x := 0) rfl) (by decide)
    refine lv_iconst (v := 0) hx hb ddX12_isGood_11 (by decide) ?_
    exact cg_iret (nw := fun _ => 0) hC hr hlk hO.same rfl (Nat.le_of_ble_eq_true rfl) (Nat.le_of_ble_eq_true rfl) (Or.inr ⟨z_4_8, rfl, rfl⟩) ddX12_isGood_12
  · have q_4_9 := zr_eq h_4_6
    have z_4_10 : zi 0 0 x0_4 := ze_eq q_4_9 b0_4 (zi_k (a := 0) (b := 0) (x := 0) rfl)
    refine lv_iconst (v := 1) hx hb ddX12_isGood_7 (by decide) ?_
    refine lv_goto (tgt := 12) hx hb ddX12_isGood_8 (by decide) ?_
    exact cg_iret (nw := fun _ => 0) hC hr hlk hO.same rfl (Nat.le_of_ble_eq_true rfl) (Nat.le_of_ble_eq_true rfl) (Or.inl ⟨z_4_10, q_4_9, rfl, rfl⟩) ddX12_isGood_12

theorem ddX12_fails_0 : decode cX12_fails 0 = .ok (.aload_n 0, 1) := by decide +kernel
theorem ddX12_fails_1 : decode cX12_fails 1 = .ok (.getfield 185, 3) := by decide +kernel
theorem ddX12_fails_4 : decode cX12_fails 4 = .ok (.ifCond .le 4, 3) := by decide +kernel
theorem ddX12_fails_7 : decode cX12_fails 7 = .ok (.return_, 1) := by decide +kernel
theorem ddX12_fails_8 : decode cX12_fails 8 = .ok (.aload_n 0, 1) := by decide +kernel
theorem ddX12_fails_9 : decode cX12_fails 9 = .ok (.iload_n 1, 1) := by decide +kernel
theorem ddX12_fails_10 : decode cX12_fails 10 = .ok (.putfield 185, 3) := by decide +kernel
theorem ddX12_fails_13 : decode cX12_fails 13 = .ok (.aload_n 0, 1) := by decide +kernel
theorem ddX12_fails_14 : decode cX12_fails 14 = .ok (.iload_n 2, 1) := by decide +kernel
theorem ddX12_fails_15 : decode cX12_fails 15 = .ok (.putfield 16, 3) := by decide +kernel
theorem ddX12_fails_18 : decode cX12_fails 18 = .ok (.return_, 1) := by decide +kernel
def wq_k_X12_fails : List Cond := Cond.code yX12_fails cX12_fails 3 none :: (([Cond.fieldLink RX12 185 "CrowTollModel" "faultKind" "I", Cond.fieldLink RX12 16 "CrowTollModel" "faultPlace" "I"] : List Cond) ++ wsX120)
set_option maxHeartbeats 8000000 in
set_option maxRecDepth 100000 in
theorem k_X12_fails (l : Launch) (D : va_G) (cy : Nat → ClassId) (ad : Nat → Nat) (g : Nat → va_E) {u0_0 : Value} {u0_1 : Value} {u0_2 : Value} {u0_3 : Value} {x0_4 : Int32} {x0_5 : Int32} {u0_6 : Value} {u0_7 : Value} {u0_8 : Value} {u0_9 : Value} {u0_10 : Value} {u0_11 : Value} {u0_12 : Value} {u0_13 : Value} {u0_14 : Value} {u0_15 : Value} {u0_16 : Value} {u0_17 : Value} {u0_18 : Value} {u0_19 : Value} {u0_20 : Value} {u0_21 : Value} {u0_22 : Value} {u0_23 : Value} {u0_24 : Value} {u0_25 : Value} {u0_26 : Value} {u0_27 : Value} {u0_28 : Value} {u0_29 : Value} {u0_30 : Value} {u0_31 : Value} {u0_32 : Value} {u0_33 : Value} {u0_34 : Value} {u0_35 : Value} {u0_36 : Value} {u0_37 : Value} {u0_38 : Value} {u0_39 : Value} {u0_40 : Value} {u0_41 : Value} {u0_42 : Value} {u0_43 : Value} {u0_44 : Value} {u0_45 : Value} {u0_46 : Value} {u0_47 : Value} {u0_48 : Value} {u0_49 : Value} {u0_50 : Value} {u0_51 : Value} {u0_52 : Value} {u0_53 : Value} {u0_54 : Value} {u0_55 : Value} {u0_56 : Value} {u0_57 : Value} {u0_58 : Value} {u0_59 : Value} {u0_60 : Value} {u0_61 : Value} {u0_62 : Value} {u0_63 : Value} {u0_64 : Value} {u0_65 : Value} {u0_66 : Value} {u0_67 : Value} {u0_68 : Value} {u0_69 : Value} {u0_70 : Value} {u0_71 : Value} {u0_72 : Value} {u0_73 : Value} {kind : Int32} {place : Int32} (o0 : g 0 = .inr (12, [u0_0, u0_1, u0_2, u0_3, .int x0_4, .int x0_5, u0_6, u0_7, u0_8, u0_9, u0_10, u0_11, u0_12, u0_13, u0_14, u0_15, u0_16, u0_17, u0_18, u0_19, u0_20, u0_21, u0_22, u0_23, u0_24, u0_25, u0_26, u0_27, u0_28, u0_29, u0_30, u0_31, u0_32, u0_33, u0_34, u0_35, u0_36, u0_37, u0_38, u0_39, u0_40, u0_41, u0_42, u0_43, u0_44, u0_45, u0_46, u0_47, u0_48, u0_49, u0_50, u0_51, u0_52, u0_53, u0_54, u0_55, u0_56, u0_57, u0_58, u0_59, u0_60, u0_61, u0_62, u0_63, u0_64, u0_65, u0_66, u0_67, u0_68, u0_69, u0_70, u0_71, u0_72, u0_73])) (b0_4 : zi 0 5 x0_4) (p_kind : zi 1 5 kind) : cMv l yX12_fails wq_k_X12_fails { frames := 0, cells := 0, slots := 0, locals := 0 } 1 0 0 0 D cy ad g [.ref (ad 0), .int kind, .int place] (fun nw lu => ∃ (y0_4 : Int32) (y0_5 : Int32), (zi 1 5 y0_4) ∧ (lu = [(0, .inr (12, [u0_0, u0_1, u0_2, u0_3, .int y0_4, .int y0_5, u0_6, u0_7, u0_8, u0_9, u0_10, u0_11, u0_12, u0_13, u0_14, u0_15, u0_16, u0_17, u0_18, u0_19, u0_20, u0_21, u0_22, u0_23, u0_24, u0_25, u0_26, u0_27, u0_28, u0_29, u0_30, u0_31, u0_32, u0_33, u0_34, u0_35, u0_36, u0_37, u0_38, u0_39, u0_40, u0_41, u0_42, u0_43, u0_44, u0_45, u0_46, u0_47, u0_48, u0_49, u0_50, u0_51, u0_52, u0_53, u0_54, u0_55, u0_56, u0_57, u0_58, u0_59, u0_60, u0_61, u0_62, u0_63, u0_64, u0_65, u0_66, u0_67, u0_68, u0_69, u0_70, u0_71, u0_72, u0_73]))])) := by
  refine cM_of (Qc := fun A => cQv (fun nw lu => ∃ (y0_4 : Int32) (y0_5 : Int32), (zi 1 5 y0_4) ∧ (lu = [(0, .inr (12, [u0_0, u0_1, u0_2, u0_3, .int y0_4, .int y0_5, u0_6, u0_7, u0_8, u0_9, u0_10, u0_11, u0_12, u0_13, u0_14, u0_15, u0_16, u0_17, u0_18, u0_19, u0_20, u0_21, u0_22, u0_23, u0_24, u0_25, u0_26, u0_27, u0_28, u0_29, u0_30, u0_31, u0_32, u0_33, u0_34, u0_35, u0_36, u0_37, u0_38, u0_39, u0_40, u0_41, u0_42, u0_43, u0_44, u0_45, u0_46, u0_47, u0_48, u0_49, u0_50, u0_51, u0_52, u0_53, u0_54, u0_55, u0_56, u0_57, u0_58, u0_59, u0_60, u0_61, u0_62, u0_63, u0_64, u0_65, u0_66, u0_67, u0_68, u0_69, u0_70, u0_71, u0_72, u0_73]))])) D 1 0 ad g A) (cc := cX12_fails) (maxL := 3) (ret := none) (by decide) rfl (Nat.le_of_ble_eq_true rfl) ?_
  intro p e s m below meth c A hC hr hlk hnm hO ls hl
  have hC : CallFix p m c cX12_fails 3 s [.ref (ad 0), .int kind, .int place].toArray wq_k_X12_fails RX12 := hC
  obtain ⟨hx, hb, hml, hown, hts⟩ := id hC
  have hl : lv_has ls 3 [(0, .ref (ad 0)), (1, .int kind), (2, .int place)] := hl
  have i_X12 : ∀ w ∈ wsX120, w ∈ wq_k_X12_fails := fun w h => List.mem_cons_of_mem _ (List.mem_append_right _ h)
  have hO := hO.notes [(0, .inr (12, [u0_0, u0_1, u0_2, u0_3, .int x0_4, .int x0_5, u0_6, u0_7, u0_8, u0_9, u0_10, u0_11, u0_12, u0_13, u0_14, u0_15, u0_16, u0_17, u0_18, u0_19, u0_20, u0_21, u0_22, u0_23, u0_24, u0_25, u0_26, u0_27, u0_28, u0_29, u0_30, u0_31, u0_32, u0_33, u0_34, u0_35, u0_36, u0_37, u0_38, u0_39, u0_40, u0_41, u0_42, u0_43, u0_44, u0_45, u0_46, u0_47, u0_48, u0_49, u0_50, u0_51, u0_52, u0_53, u0_54, u0_55, u0_56, u0_57, u0_58, u0_59, u0_60, u0_61, u0_62, u0_63, u0_64, u0_65, u0_66, u0_67, u0_68, u0_69, u0_70, u0_71, u0_72, u0_73]))] (List.forall_mem_cons.mpr ⟨o0, (fun _ h => absurd h List.not_mem_nil)⟩)
  refine lv_aload_n hx hb ddX12_fails_0 rfl (lv_at hl 0 rfl) ?_
  refine cg_get hC hO 0 (by decide) rfl rfl i_X12 4 (by decide) (List.mem_of_getElem? (i := 1) rfl) rfl ddX12_fails_1 ?_
  refine lv_if_le (tgt := 8) hx hb ddX12_fails_4 (by decide) (fun h_4_11 => ?_) (fun h_4_11 => ?_)
  · have q_4_12 := zr_le h_4_11
    have z_4_13 : zi 0 0 x0_4 := zu_le q_4_12 b0_4 (zi_k (a := 0) (b := 0) (x := 0) rfl) (by decide)
    refine lv_aload_n hx hb ddX12_fails_8 rfl (lv_at hl 0 rfl) ?_
    refine lv_iload_n hx hb ddX12_fails_9 rfl (lv_at hl 1 rfl) ?_
    refine cg_put hC hO 0 (by decide) rfl rfl i_X12 tyX12_ok nmX12 4 (by decide) (List.mem_of_getElem? (i := 1) rfl) rfl rfl rfl (Nat.le_of_ble_eq_true rfl) ddX12_fails_10 (fun H locs hO => ?_)
    have hO : cO D cy A s.heap s 1 ad (cup [(0, .inr (12, [u0_0, u0_1, u0_2, u0_3, .int kind, .int x0_5, u0_6, u0_7, u0_8, u0_9, u0_10, u0_11, u0_12, u0_13, u0_14, u0_15, u0_16, u0_17, u0_18, u0_19, u0_20, u0_21, u0_22, u0_23, u0_24, u0_25, u0_26, u0_27, u0_28, u0_29, u0_30, u0_31, u0_32, u0_33, u0_34, u0_35, u0_36, u0_37, u0_38, u0_39, u0_40, u0_41, u0_42, u0_43, u0_44, u0_45, u0_46, u0_47, u0_48, u0_49, u0_50, u0_51, u0_52, u0_53, u0_54, u0_55, u0_56, u0_57, u0_58, u0_59, u0_60, u0_61, u0_62, u0_63, u0_64, u0_65, u0_66, u0_67, u0_68, u0_69, u0_70, u0_71, u0_72, u0_73]))] g) _ _ := hO
    refine lv_aload_n hx hb ddX12_fails_13 rfl (lv_at hl 0 rfl) ?_
    refine lv_iload_n hx hb ddX12_fails_14 rfl (lv_at hl 2 rfl) ?_
    refine cg_put hC hO 0 (by decide) rfl rfl i_X12 tyX12_ok nmX12 5 (by decide) (List.mem_of_getElem? (i := 2) rfl) rfl rfl rfl (Nat.le_of_ble_eq_true rfl) ddX12_fails_15 (fun H locs hO => ?_)
    have hO : cO D cy A s.heap s 1 ad (cup [(0, .inr (12, [u0_0, u0_1, u0_2, u0_3, .int kind, .int place, u0_6, u0_7, u0_8, u0_9, u0_10, u0_11, u0_12, u0_13, u0_14, u0_15, u0_16, u0_17, u0_18, u0_19, u0_20, u0_21, u0_22, u0_23, u0_24, u0_25, u0_26, u0_27, u0_28, u0_29, u0_30, u0_31, u0_32, u0_33, u0_34, u0_35, u0_36, u0_37, u0_38, u0_39, u0_40, u0_41, u0_42, u0_43, u0_44, u0_45, u0_46, u0_47, u0_48, u0_49, u0_50, u0_51, u0_52, u0_53, u0_54, u0_55, u0_56, u0_57, u0_58, u0_59, u0_60, u0_61, u0_62, u0_63, u0_64, u0_65, u0_66, u0_67, u0_68, u0_69, u0_70, u0_71, u0_72, u0_73]))] g) _ _ := hO
    exact cg_vret (nw := fun _ => 0) hC hr hlk hO.same (Nat.le_of_ble_eq_true rfl) (Nat.le_of_ble_eq_true rfl) (⟨kind, place, p_kind, rfl⟩) ddX12_fails_18
  · have q_4_14 := zr_nle h_4_11
    have z_4_15 : zi 1 5 x0_4 := zd_lt q_4_14 (zi_k (a := 0) (b := 0) (x := 0) rfl) b0_4 (by decide)
    exact cg_vret (nw := fun _ => 0) hC hr hlk hO.same (Nat.le_of_ble_eq_true rfl) (Nat.le_of_ble_eq_true rfl) (⟨x0_4, x0_5, z_4_15, rfl⟩) ddX12_fails_7

theorem ddX12_isKept_0 : decode cX12_isKept 0 = .ok (.lload_n 0, 1) := by decide +kernel
theorem ddX12_isKept_1 : decode cX12_isKept 1 = .ok (.ldc2_w 188, 3) := by decide +kernel
theorem ddX12_isKept_4 : decode cX12_isKept 4 = .ok (.lcmp, 1) := by decide +kernel
theorem ddX12_isKept_5 : decode cX12_isKept 5 = .ok (.ifCond .eq 59, 3) := by decide +kernel
theorem ddX12_isKept_8 : decode cX12_isKept 8 = .ok (.lload_n 0, 1) := by decide +kernel
theorem ddX12_isKept_9 : decode cX12_isKept 9 = .ok (.ldc2_w 190, 3) := by decide +kernel
theorem ddX12_isKept_12 : decode cX12_isKept 12 = .ok (.lcmp, 1) := by decide +kernel
theorem ddX12_isKept_13 : decode cX12_isKept 13 = .ok (.ifCond .eq 51, 3) := by decide +kernel
theorem ddX12_isKept_16 : decode cX12_isKept 16 = .ok (.lload_n 0, 1) := by decide +kernel
theorem ddX12_isKept_17 : decode cX12_isKept 17 = .ok (.ldc2_w 192, 3) := by decide +kernel
theorem ddX12_isKept_20 : decode cX12_isKept 20 = .ok (.lcmp, 1) := by decide +kernel
theorem ddX12_isKept_21 : decode cX12_isKept 21 = .ok (.ifCond .eq 43, 3) := by decide +kernel
theorem ddX12_isKept_24 : decode cX12_isKept 24 = .ok (.lload_n 0, 1) := by decide +kernel
theorem ddX12_isKept_25 : decode cX12_isKept 25 = .ok (.ldc2_w 194, 3) := by decide +kernel
theorem ddX12_isKept_28 : decode cX12_isKept 28 = .ok (.lcmp, 1) := by decide +kernel
theorem ddX12_isKept_29 : decode cX12_isKept 29 = .ok (.ifCond .eq 35, 3) := by decide +kernel
theorem ddX12_isKept_32 : decode cX12_isKept 32 = .ok (.lload_n 0, 1) := by decide +kernel
theorem ddX12_isKept_33 : decode cX12_isKept 33 = .ok (.ldc2_w 196, 3) := by decide +kernel
theorem ddX12_isKept_36 : decode cX12_isKept 36 = .ok (.lcmp, 1) := by decide +kernel
theorem ddX12_isKept_37 : decode cX12_isKept 37 = .ok (.ifCond .eq 27, 3) := by decide +kernel
theorem ddX12_isKept_40 : decode cX12_isKept 40 = .ok (.lload_n 0, 1) := by decide +kernel
theorem ddX12_isKept_41 : decode cX12_isKept 41 = .ok (.ldc2_w 198, 3) := by decide +kernel
theorem ddX12_isKept_44 : decode cX12_isKept 44 = .ok (.lcmp, 1) := by decide +kernel
theorem ddX12_isKept_45 : decode cX12_isKept 45 = .ok (.ifCond .eq 19, 3) := by decide +kernel
theorem ddX12_isKept_48 : decode cX12_isKept 48 = .ok (.lload_n 0, 1) := by decide +kernel
theorem ddX12_isKept_49 : decode cX12_isKept 49 = .ok (.ldc2_w 200, 3) := by decide +kernel
theorem ddX12_isKept_52 : decode cX12_isKept 52 = .ok (.lcmp, 1) := by decide +kernel
theorem ddX12_isKept_53 : decode cX12_isKept 53 = .ok (.ifCond .eq 11, 3) := by decide +kernel
theorem ddX12_isKept_56 : decode cX12_isKept 56 = .ok (.lload_n 0, 1) := by decide +kernel
theorem ddX12_isKept_57 : decode cX12_isKept 57 = .ok (.ldc2_w 202, 3) := by decide +kernel
theorem ddX12_isKept_60 : decode cX12_isKept 60 = .ok (.lcmp, 1) := by decide +kernel
theorem ddX12_isKept_61 : decode cX12_isKept 61 = .ok (.ifCond .ne 7, 3) := by decide +kernel
theorem ddX12_isKept_64 : decode cX12_isKept 64 = .ok (.iconst 1, 1) := by decide +kernel
theorem ddX12_isKept_65 : decode cX12_isKept 65 = .ok (.goto 4, 3) := by decide +kernel
theorem ddX12_isKept_68 : decode cX12_isKept 68 = .ok (.iconst 0, 1) := by decide +kernel
theorem ddX12_isKept_69 : decode cX12_isKept 69 = .ok (.istore_n 2, 1) := by decide +kernel
theorem ddX12_isKept_70 : decode cX12_isKept 70 = .ok (.iload_n 2, 1) := by decide +kernel
theorem ddX12_isKept_71 : decode cX12_isKept 71 = .ok (.ifCond .ne 59, 3) := by decide +kernel
theorem ddX12_isKept_74 : decode cX12_isKept 74 = .ok (.lload_n 0, 1) := by decide +kernel
theorem ddX12_isKept_75 : decode cX12_isKept 75 = .ok (.ldc2_w 204, 3) := by decide +kernel
theorem ddX12_isKept_78 : decode cX12_isKept 78 = .ok (.lcmp, 1) := by decide +kernel
theorem ddX12_isKept_79 : decode cX12_isKept 79 = .ok (.ifCond .eq 51, 3) := by decide +kernel
theorem ddX12_isKept_82 : decode cX12_isKept 82 = .ok (.lload_n 0, 1) := by decide +kernel
theorem ddX12_isKept_83 : decode cX12_isKept 83 = .ok (.ldc2_w 206, 3) := by decide +kernel
theorem ddX12_isKept_86 : decode cX12_isKept 86 = .ok (.lcmp, 1) := by decide +kernel
theorem ddX12_isKept_87 : decode cX12_isKept 87 = .ok (.ifCond .eq 43, 3) := by decide +kernel
theorem ddX12_isKept_90 : decode cX12_isKept 90 = .ok (.lload_n 0, 1) := by decide +kernel
theorem ddX12_isKept_91 : decode cX12_isKept 91 = .ok (.ldc2_w 208, 3) := by decide +kernel
theorem ddX12_isKept_94 : decode cX12_isKept 94 = .ok (.lcmp, 1) := by decide +kernel
theorem ddX12_isKept_95 : decode cX12_isKept 95 = .ok (.ifCond .eq 35, 3) := by decide +kernel
theorem ddX12_isKept_98 : decode cX12_isKept 98 = .ok (.lload_n 0, 1) := by decide +kernel
theorem ddX12_isKept_99 : decode cX12_isKept 99 = .ok (.ldc2_w 210, 3) := by decide +kernel
theorem ddX12_isKept_102 : decode cX12_isKept 102 = .ok (.lcmp, 1) := by decide +kernel
theorem ddX12_isKept_103 : decode cX12_isKept 103 = .ok (.ifCond .eq 27, 3) := by decide +kernel
theorem ddX12_isKept_106 : decode cX12_isKept 106 = .ok (.lload_n 0, 1) := by decide +kernel
theorem ddX12_isKept_107 : decode cX12_isKept 107 = .ok (.ldc2_w 212, 3) := by decide +kernel
theorem ddX12_isKept_110 : decode cX12_isKept 110 = .ok (.lcmp, 1) := by decide +kernel
theorem ddX12_isKept_111 : decode cX12_isKept 111 = .ok (.ifCond .eq 19, 3) := by decide +kernel
theorem ddX12_isKept_114 : decode cX12_isKept 114 = .ok (.lload_n 0, 1) := by decide +kernel
theorem ddX12_isKept_115 : decode cX12_isKept 115 = .ok (.ldc2_w 214, 3) := by decide +kernel
theorem ddX12_isKept_118 : decode cX12_isKept 118 = .ok (.lcmp, 1) := by decide +kernel
theorem ddX12_isKept_119 : decode cX12_isKept 119 = .ok (.ifCond .eq 11, 3) := by decide +kernel
theorem ddX12_isKept_122 : decode cX12_isKept 122 = .ok (.lload_n 0, 1) := by decide +kernel
theorem ddX12_isKept_123 : decode cX12_isKept 123 = .ok (.ldc2_w 216, 3) := by decide +kernel
theorem ddX12_isKept_126 : decode cX12_isKept 126 = .ok (.lcmp, 1) := by decide +kernel
theorem ddX12_isKept_127 : decode cX12_isKept 127 = .ok (.ifCond .ne 7, 3) := by decide +kernel
theorem ddX12_isKept_130 : decode cX12_isKept 130 = .ok (.iconst 1, 1) := by decide +kernel
theorem ddX12_isKept_131 : decode cX12_isKept 131 = .ok (.goto 4, 3) := by decide +kernel
theorem ddX12_isKept_134 : decode cX12_isKept 134 = .ok (.iconst 0, 1) := by decide +kernel
theorem ddX12_isKept_135 : decode cX12_isKept 135 = .ok (.ireturn, 1) := by decide +kernel
def wq_k_X12_isKept : List Cond := Cond.code yX12_isKept cX12_isKept 3 (some .boolean) :: (([Cond.constantLong RX12 188 (1651077732), Cond.constantLong RX12 190 (109330362692723), Cond.constantLong RX12 192 (6775152), Cond.constantLong RX12 194 (499850634611), Cond.constantLong RX12 196 (1886352244), Cond.constantLong RX12 198 (24948), Cond.constantLong RX12 200 (1953459308), Cond.constantLong RX12 202 (1667330676), Cond.constantLong RX12 204 (495555144563), Cond.constantLong RX12 206 (469786780261), Cond.constantLong RX12 208 (7102839), Cond.constantLong RX12 210 (7238760), Cond.constantLong RX12 212 (28530), Cond.constantLong RX12 214 (6385252), Cond.constantLong RX12 216 (7237492)] : List Cond))
set_option maxHeartbeats 8000000 in
set_option maxRecDepth 100000 in
theorem k_X12_isKept (l : Launch) (D : va_G) (cy : Nat → ClassId) (ad : Nat → Nat) (g : Nat → va_E) {name : Int64}  : cMi l yX12_isKept wq_k_X12_isKept { frames := 0, cells := 0, slots := 0, locals := 0 } 0 0 0 0 D cy ad g [.long name] (fun r nw lu => (zi 0 1 r) ∧ (lu = [])) := by
  refine cM_of (Qc := fun A => cQi (fun r nw lu => (zi 0 1 r) ∧ (lu = [])) D 0 0 ad g A) (cc := cX12_isKept) (maxL := 3) (ret := (some .boolean)) (by decide) rfl (Nat.le_of_ble_eq_true rfl) ?_
  intro p e s m below meth c A hC hr hlk hnm hO ls hl
  have hC : CallFix p m c cX12_isKept 3 s [.long name].toArray wq_k_X12_isKept RX12 := hC
  obtain ⟨hx, hb, hml, hown, hts⟩ := id hC
  have hl : lv_has ls 3 [(0, .long name)] := hl
  refine lv_lload_n hx hb ddX12_isKept_0 rfl (lv_at hl 0 rfl) ?_
  refine lv_ldc2 (v := 1651077732) hx hb hown (hts _ (List.mem_of_getElem? (i := 1) rfl)) ddX12_isKept_1 ?_
  refine zg_lcmpN hx hb ddX12_isKept_4 (fun v_4_142 z_4_143 q_4_144 => ?_)
  have J_69_192 : ∀ (v_69_190 : Int32), zi 0 1 v_69_190 → ∀ (H : Heap) (locs : List Loc), cO D cy A s.heap s 0 ad (cup [] g) H locs → ∀ ls : Array Slot, lv_has ls 3 [(0, .long name)] → W p l e { frames := 0, cells := 0, slots := 0, locals := 0 } s m [.long name].toArray below meth c H locs 0 0 (MQ below (cQi (fun r nw lu => (zi 0 1 r) ∧ (lu = [])) D 0 0 ad g A) [.long name].toArray s 0 0 A) (F0 m 69 ls [.int v_69_190]) := by
    intro v_69_190 z_69_191 H locs hO ls hl
    refine lv_istore_n (lv' := [(2, .int v_69_190), (0, .long name)]) hx hb ddX12_isKept_69 rfl hl (by decide) rfl (fun ls hl => ?_)
    refine lv_iload_n hx hb ddX12_isKept_70 rfl (lv_at hl 0 rfl) ?_
    refine lv_if_ne (tgt := 130) hx hb ddX12_isKept_71 (by decide) (fun h_71_193 => ?_) (fun h_71_193 => ?_)
    · have q_71_194 := zr_ne h_71_193
      have z_71_195 : zi 1 1 v_69_190 := zn_lo q_71_194 z_69_191 (zi_k (a := 0) (b := 0) (x := 0) rfl) (by decide)
      refine lv_iconst (v := 1) hx hb ddX12_isKept_130 (by decide) ?_
      refine lv_goto (tgt := 135) hx hb ddX12_isKept_131 (by decide) ?_
      exact cg_iret (nw := fun _ => 0) hC hr hlk hO.same rfl (Nat.le_of_ble_eq_true rfl) (Nat.le_of_ble_eq_true rfl) (⟨(zi_k (a := 0) (b := 1) (x := 1) rfl), rfl⟩) ddX12_isKept_135
    · have q_71_196 := zr_eq h_71_193
      have z_71_197 : zi 0 0 v_69_190 := ze_eq q_71_196 z_69_191 (zi_k (a := 0) (b := 0) (x := 0) rfl)
      refine lv_lload_n hx hb ddX12_isKept_74 rfl (lv_at hl 1 rfl) ?_
      refine lv_ldc2 (v := 495555144563) hx hb hown (hts _ (List.mem_of_getElem? (i := 9) rfl)) ddX12_isKept_75 ?_
      refine zg_lcmpN hx hb ddX12_isKept_78 (fun v_78_198 z_78_199 q_78_200 => ?_)
      refine lv_if_eq (tgt := 130) hx hb ddX12_isKept_79 (by decide) (fun h_79_201 => ?_) (fun h_79_201 => ?_)
      · have q_79_202 := zr_eq h_79_201
        have z_79_203 : zi 0 0 v_78_198 := ze_eq q_79_202 z_78_199 (zi_k (a := 0) (b := 0) (x := 0) rfl)
        refine lv_iconst (v := 1) hx hb ddX12_isKept_130 (by decide) ?_
        refine lv_goto (tgt := 135) hx hb ddX12_isKept_131 (by decide) ?_
        exact cg_iret (nw := fun _ => 0) hC hr hlk hO.same rfl (Nat.le_of_ble_eq_true rfl) (Nat.le_of_ble_eq_true rfl) (⟨(zi_k (a := 0) (b := 1) (x := 1) rfl), rfl⟩) ddX12_isKept_135
      · refine lv_lload_n hx hb ddX12_isKept_82 rfl (lv_at hl 1 rfl) ?_
        refine lv_ldc2 (v := 469786780261) hx hb hown (hts _ (List.mem_of_getElem? (i := 10) rfl)) ddX12_isKept_83 ?_
        refine zg_lcmpN hx hb ddX12_isKept_86 (fun v_86_204 z_86_205 q_86_206 => ?_)
        refine lv_if_eq (tgt := 130) hx hb ddX12_isKept_87 (by decide) (fun h_87_207 => ?_) (fun h_87_207 => ?_)
        · have q_87_208 := zr_eq h_87_207
          have z_87_209 : zi 0 0 v_86_204 := ze_eq q_87_208 z_86_205 (zi_k (a := 0) (b := 0) (x := 0) rfl)
          refine lv_iconst (v := 1) hx hb ddX12_isKept_130 (by decide) ?_
          refine lv_goto (tgt := 135) hx hb ddX12_isKept_131 (by decide) ?_
          exact cg_iret (nw := fun _ => 0) hC hr hlk hO.same rfl (Nat.le_of_ble_eq_true rfl) (Nat.le_of_ble_eq_true rfl) (⟨(zi_k (a := 0) (b := 1) (x := 1) rfl), rfl⟩) ddX12_isKept_135
        · refine lv_lload_n hx hb ddX12_isKept_90 rfl (lv_at hl 1 rfl) ?_
          refine lv_ldc2 (v := 7102839) hx hb hown (hts _ (List.mem_of_getElem? (i := 11) rfl)) ddX12_isKept_91 ?_
          refine zg_lcmpN hx hb ddX12_isKept_94 (fun v_94_210 z_94_211 q_94_212 => ?_)
          refine lv_if_eq (tgt := 130) hx hb ddX12_isKept_95 (by decide) (fun h_95_213 => ?_) (fun h_95_213 => ?_)
          · have q_95_214 := zr_eq h_95_213
            have z_95_215 : zi 0 0 v_94_210 := ze_eq q_95_214 z_94_211 (zi_k (a := 0) (b := 0) (x := 0) rfl)
            refine lv_iconst (v := 1) hx hb ddX12_isKept_130 (by decide) ?_
            refine lv_goto (tgt := 135) hx hb ddX12_isKept_131 (by decide) ?_
            exact cg_iret (nw := fun _ => 0) hC hr hlk hO.same rfl (Nat.le_of_ble_eq_true rfl) (Nat.le_of_ble_eq_true rfl) (⟨(zi_k (a := 0) (b := 1) (x := 1) rfl), rfl⟩) ddX12_isKept_135
          · refine lv_lload_n hx hb ddX12_isKept_98 rfl (lv_at hl 1 rfl) ?_
            refine lv_ldc2 (v := 7238760) hx hb hown (hts _ (List.mem_of_getElem? (i := 12) rfl)) ddX12_isKept_99 ?_
            refine zg_lcmpN hx hb ddX12_isKept_102 (fun v_102_216 z_102_217 q_102_218 => ?_)
            refine lv_if_eq (tgt := 130) hx hb ddX12_isKept_103 (by decide) (fun h_103_219 => ?_) (fun h_103_219 => ?_)
            · have q_103_220 := zr_eq h_103_219
              have z_103_221 : zi 0 0 v_102_216 := ze_eq q_103_220 z_102_217 (zi_k (a := 0) (b := 0) (x := 0) rfl)
              refine lv_iconst (v := 1) hx hb ddX12_isKept_130 (by decide) ?_
              refine lv_goto (tgt := 135) hx hb ddX12_isKept_131 (by decide) ?_
              exact cg_iret (nw := fun _ => 0) hC hr hlk hO.same rfl (Nat.le_of_ble_eq_true rfl) (Nat.le_of_ble_eq_true rfl) (⟨(zi_k (a := 0) (b := 1) (x := 1) rfl), rfl⟩) ddX12_isKept_135
            · refine lv_lload_n hx hb ddX12_isKept_106 rfl (lv_at hl 1 rfl) ?_
              refine lv_ldc2 (v := 28530) hx hb hown (hts _ (List.mem_of_getElem? (i := 13) rfl)) ddX12_isKept_107 ?_
              refine zg_lcmpN hx hb ddX12_isKept_110 (fun v_110_222 z_110_223 q_110_224 => ?_)
              refine lv_if_eq (tgt := 130) hx hb ddX12_isKept_111 (by decide) (fun h_111_225 => ?_) (fun h_111_225 => ?_)
              · have q_111_226 := zr_eq h_111_225
                have z_111_227 : zi 0 0 v_110_222 := ze_eq q_111_226 z_110_223 (zi_k (a := 0) (b := 0) (x := 0) rfl)
                refine lv_iconst (v := 1) hx hb ddX12_isKept_130 (by decide) ?_
                refine lv_goto (tgt := 135) hx hb ddX12_isKept_131 (by decide) ?_
                exact cg_iret (nw := fun _ => 0) hC hr hlk hO.same rfl (Nat.le_of_ble_eq_true rfl) (Nat.le_of_ble_eq_true rfl) (⟨(zi_k (a := 0) (b := 1) (x := 1) rfl), rfl⟩) ddX12_isKept_135
              · refine lv_lload_n hx hb ddX12_isKept_114 rfl (lv_at hl 1 rfl) ?_
                refine lv_ldc2 (v := 6385252) hx hb hown (hts _ (List.mem_of_getElem? (i := 14) rfl)) ddX12_isKept_115 ?_
                refine zg_lcmpN hx hb ddX12_isKept_118 (fun v_118_228 z_118_229 q_118_230 => ?_)
                refine lv_if_eq (tgt := 130) hx hb ddX12_isKept_119 (by decide) (fun h_119_231 => ?_) (fun h_119_231 => ?_)
                · have q_119_232 := zr_eq h_119_231
                  have z_119_233 : zi 0 0 v_118_228 := ze_eq q_119_232 z_118_229 (zi_k (a := 0) (b := 0) (x := 0) rfl)
                  refine lv_iconst (v := 1) hx hb ddX12_isKept_130 (by decide) ?_
                  refine lv_goto (tgt := 135) hx hb ddX12_isKept_131 (by decide) ?_
                  exact cg_iret (nw := fun _ => 0) hC hr hlk hO.same rfl (Nat.le_of_ble_eq_true rfl) (Nat.le_of_ble_eq_true rfl) (⟨(zi_k (a := 0) (b := 1) (x := 1) rfl), rfl⟩) ddX12_isKept_135
                · refine lv_lload_n hx hb ddX12_isKept_122 rfl (lv_at hl 1 rfl) ?_
                  refine lv_ldc2 (v := 7237492) hx hb hown (hts _ (List.mem_of_getElem? (i := 15) rfl)) ddX12_isKept_123 ?_
                  refine zg_lcmpN hx hb ddX12_isKept_126 (fun v_126_234 z_126_235 q_126_236 => ?_)
                  refine lv_if_ne (tgt := 134) hx hb ddX12_isKept_127 (by decide) (fun h_127_237 => ?_) (fun h_127_237 => ?_)
                  · refine lv_iconst (v := 0) hx hb ddX12_isKept_134 (by decide) ?_
                    exact cg_iret (nw := fun _ => 0) hC hr hlk hO.same rfl (Nat.le_of_ble_eq_true rfl) (Nat.le_of_ble_eq_true rfl) (⟨(zi_k (a := 0) (b := 1) (x := 0) rfl), rfl⟩) ddX12_isKept_135
                  · have q_127_238 := zr_eq h_127_237
                    have z_127_239 : zi 0 0 v_126_234 := ze_eq q_127_238 z_126_235 (zi_k (a := 0) (b := 0) (x := 0) rfl)
                    refine lv_iconst (v := 1) hx hb ddX12_isKept_130 (by decide) ?_
                    refine lv_goto (tgt := 135) hx hb ddX12_isKept_131 (by decide) ?_
                    exact cg_iret (nw := fun _ => 0) hC hr hlk hO.same rfl (Nat.le_of_ble_eq_true rfl) (Nat.le_of_ble_eq_true rfl) (⟨(zi_k (a := 0) (b := 1) (x := 1) rfl), rfl⟩) ddX12_isKept_135
  refine lv_if_eq (tgt := 64) hx hb ddX12_isKept_5 (by decide) (fun h_5_145 => ?_) (fun h_5_145 => ?_)
  · have q_5_240 := zr_eq h_5_145
    have z_5_241 : zi 0 0 v_4_142 := ze_eq q_5_240 z_4_143 (zi_k (a := 0) (b := 0) (x := 0) rfl)
    refine lv_iconst (v := 1) hx hb ddX12_isKept_64 (by decide) ?_
    refine lv_goto (tgt := 69) hx hb ddX12_isKept_65 (by decide) ?_
    exact J_69_192 1 (zi_k (a := 0) (b := 1) (x := 1) rfl) _ _ hO ls (lv_sub hl [0] rfl)
  · refine lv_lload_n hx hb ddX12_isKept_8 rfl (lv_at hl 0 rfl) ?_
    refine lv_ldc2 (v := 109330362692723) hx hb hown (hts _ (List.mem_of_getElem? (i := 2) rfl)) ddX12_isKept_9 ?_
    refine zg_lcmpN hx hb ddX12_isKept_12 (fun v_12_242 z_12_243 q_12_244 => ?_)
    refine lv_if_eq (tgt := 64) hx hb ddX12_isKept_13 (by decide) (fun h_13_245 => ?_) (fun h_13_245 => ?_)
    · have q_13_246 := zr_eq h_13_245
      have z_13_247 : zi 0 0 v_12_242 := ze_eq q_13_246 z_12_243 (zi_k (a := 0) (b := 0) (x := 0) rfl)
      refine lv_iconst (v := 1) hx hb ddX12_isKept_64 (by decide) ?_
      refine lv_goto (tgt := 69) hx hb ddX12_isKept_65 (by decide) ?_
      exact J_69_192 1 (zi_k (a := 0) (b := 1) (x := 1) rfl) _ _ hO ls (lv_sub hl [0] rfl)
    · refine lv_lload_n hx hb ddX12_isKept_16 rfl (lv_at hl 0 rfl) ?_
      refine lv_ldc2 (v := 6775152) hx hb hown (hts _ (List.mem_of_getElem? (i := 3) rfl)) ddX12_isKept_17 ?_
      refine zg_lcmpN hx hb ddX12_isKept_20 (fun v_20_248 z_20_249 q_20_250 => ?_)
      refine lv_if_eq (tgt := 64) hx hb ddX12_isKept_21 (by decide) (fun h_21_251 => ?_) (fun h_21_251 => ?_)
      · have q_21_252 := zr_eq h_21_251
        have z_21_253 : zi 0 0 v_20_248 := ze_eq q_21_252 z_20_249 (zi_k (a := 0) (b := 0) (x := 0) rfl)
        refine lv_iconst (v := 1) hx hb ddX12_isKept_64 (by decide) ?_
        refine lv_goto (tgt := 69) hx hb ddX12_isKept_65 (by decide) ?_
        exact J_69_192 1 (zi_k (a := 0) (b := 1) (x := 1) rfl) _ _ hO ls (lv_sub hl [0] rfl)
      · refine lv_lload_n hx hb ddX12_isKept_24 rfl (lv_at hl 0 rfl) ?_
        refine lv_ldc2 (v := 499850634611) hx hb hown (hts _ (List.mem_of_getElem? (i := 4) rfl)) ddX12_isKept_25 ?_
        refine zg_lcmpN hx hb ddX12_isKept_28 (fun v_28_254 z_28_255 q_28_256 => ?_)
        refine lv_if_eq (tgt := 64) hx hb ddX12_isKept_29 (by decide) (fun h_29_257 => ?_) (fun h_29_257 => ?_)
        · have q_29_258 := zr_eq h_29_257
          have z_29_259 : zi 0 0 v_28_254 := ze_eq q_29_258 z_28_255 (zi_k (a := 0) (b := 0) (x := 0) rfl)
          refine lv_iconst (v := 1) hx hb ddX12_isKept_64 (by decide) ?_
          refine lv_goto (tgt := 69) hx hb ddX12_isKept_65 (by decide) ?_
          exact J_69_192 1 (zi_k (a := 0) (b := 1) (x := 1) rfl) _ _ hO ls (lv_sub hl [0] rfl)
        · refine lv_lload_n hx hb ddX12_isKept_32 rfl (lv_at hl 0 rfl) ?_
          refine lv_ldc2 (v := 1886352244) hx hb hown (hts _ (List.mem_of_getElem? (i := 5) rfl)) ddX12_isKept_33 ?_
          refine zg_lcmpN hx hb ddX12_isKept_36 (fun v_36_260 z_36_261 q_36_262 => ?_)
          refine lv_if_eq (tgt := 64) hx hb ddX12_isKept_37 (by decide) (fun h_37_263 => ?_) (fun h_37_263 => ?_)
          · have q_37_264 := zr_eq h_37_263
            have z_37_265 : zi 0 0 v_36_260 := ze_eq q_37_264 z_36_261 (zi_k (a := 0) (b := 0) (x := 0) rfl)
            refine lv_iconst (v := 1) hx hb ddX12_isKept_64 (by decide) ?_
            refine lv_goto (tgt := 69) hx hb ddX12_isKept_65 (by decide) ?_
            exact J_69_192 1 (zi_k (a := 0) (b := 1) (x := 1) rfl) _ _ hO ls (lv_sub hl [0] rfl)
          · refine lv_lload_n hx hb ddX12_isKept_40 rfl (lv_at hl 0 rfl) ?_
            refine lv_ldc2 (v := 24948) hx hb hown (hts _ (List.mem_of_getElem? (i := 6) rfl)) ddX12_isKept_41 ?_
            refine zg_lcmpN hx hb ddX12_isKept_44 (fun v_44_266 z_44_267 q_44_268 => ?_)
            refine lv_if_eq (tgt := 64) hx hb ddX12_isKept_45 (by decide) (fun h_45_269 => ?_) (fun h_45_269 => ?_)
            · have q_45_270 := zr_eq h_45_269
              have z_45_271 : zi 0 0 v_44_266 := ze_eq q_45_270 z_44_267 (zi_k (a := 0) (b := 0) (x := 0) rfl)
              refine lv_iconst (v := 1) hx hb ddX12_isKept_64 (by decide) ?_
              refine lv_goto (tgt := 69) hx hb ddX12_isKept_65 (by decide) ?_
              exact J_69_192 1 (zi_k (a := 0) (b := 1) (x := 1) rfl) _ _ hO ls (lv_sub hl [0] rfl)
            · refine lv_lload_n hx hb ddX12_isKept_48 rfl (lv_at hl 0 rfl) ?_
              refine lv_ldc2 (v := 1953459308) hx hb hown (hts _ (List.mem_of_getElem? (i := 7) rfl)) ddX12_isKept_49 ?_
              refine zg_lcmpN hx hb ddX12_isKept_52 (fun v_52_272 z_52_273 q_52_274 => ?_)
              refine lv_if_eq (tgt := 64) hx hb ddX12_isKept_53 (by decide) (fun h_53_275 => ?_) (fun h_53_275 => ?_)
              · have q_53_276 := zr_eq h_53_275
                have z_53_277 : zi 0 0 v_52_272 := ze_eq q_53_276 z_52_273 (zi_k (a := 0) (b := 0) (x := 0) rfl)
                refine lv_iconst (v := 1) hx hb ddX12_isKept_64 (by decide) ?_
                refine lv_goto (tgt := 69) hx hb ddX12_isKept_65 (by decide) ?_
                exact J_69_192 1 (zi_k (a := 0) (b := 1) (x := 1) rfl) _ _ hO ls (lv_sub hl [0] rfl)
              · refine lv_lload_n hx hb ddX12_isKept_56 rfl (lv_at hl 0 rfl) ?_
                refine lv_ldc2 (v := 1667330676) hx hb hown (hts _ (List.mem_of_getElem? (i := 8) rfl)) ddX12_isKept_57 ?_
                refine zg_lcmpN hx hb ddX12_isKept_60 (fun v_60_278 z_60_279 q_60_280 => ?_)
                refine lv_if_ne (tgt := 68) hx hb ddX12_isKept_61 (by decide) (fun h_61_281 => ?_) (fun h_61_281 => ?_)
                · refine lv_iconst (v := 0) hx hb ddX12_isKept_68 (by decide) ?_
                  exact J_69_192 0 (zi_k (a := 0) (b := 1) (x := 0) rfl) _ _ hO ls (lv_sub hl [0] rfl)
                · have q_61_282 := zr_eq h_61_281
                  have z_61_283 : zi 0 0 v_60_278 := ze_eq q_61_282 z_60_279 (zi_k (a := 0) (b := 0) (x := 0) rfl)
                  refine lv_iconst (v := 1) hx hb ddX12_isKept_64 (by decide) ?_
                  refine lv_goto (tgt := 69) hx hb ddX12_isKept_65 (by decide) ?_
                  exact J_69_192 1 (zi_k (a := 0) (b := 1) (x := 1) rfl) _ _ hO ls (lv_sub hl [0] rfl)

theorem ddX12_isSign_0 : decode cX12_isSign 0 = .ok (.iload_n 0, 1) := by decide +kernel
theorem ddX12_isSign_1 : decode cX12_isSign 1 = .ok (.bipush 59, 2) := by decide +kernel
theorem ddX12_isSign_3 : decode cX12_isSign 3 = .ok (.if_icmp .eq 63, 3) := by decide +kernel
theorem ddX12_isSign_6 : decode cX12_isSign 6 = .ok (.iload_n 0, 1) := by decide +kernel
theorem ddX12_isSign_7 : decode cX12_isSign 7 = .ok (.bipush 40, 2) := by decide +kernel
theorem ddX12_isSign_9 : decode cX12_isSign 9 = .ok (.if_icmp .eq 57, 3) := by decide +kernel
theorem ddX12_isSign_12 : decode cX12_isSign 12 = .ok (.iload_n 0, 1) := by decide +kernel
theorem ddX12_isSign_13 : decode cX12_isSign 13 = .ok (.bipush 41, 2) := by decide +kernel
theorem ddX12_isSign_15 : decode cX12_isSign 15 = .ok (.if_icmp .eq 51, 3) := by decide +kernel
theorem ddX12_isSign_18 : decode cX12_isSign 18 = .ok (.iload_n 0, 1) := by decide +kernel
theorem ddX12_isSign_19 : decode cX12_isSign 19 = .ok (.bipush 60, 2) := by decide +kernel
theorem ddX12_isSign_21 : decode cX12_isSign 21 = .ok (.if_icmp .eq 45, 3) := by decide +kernel
theorem ddX12_isSign_24 : decode cX12_isSign 24 = .ok (.iload_n 0, 1) := by decide +kernel
theorem ddX12_isSign_25 : decode cX12_isSign 25 = .ok (.bipush 62, 2) := by decide +kernel
theorem ddX12_isSign_27 : decode cX12_isSign 27 = .ok (.if_icmp .eq 39, 3) := by decide +kernel
theorem ddX12_isSign_30 : decode cX12_isSign 30 = .ok (.iload_n 0, 1) := by decide +kernel
theorem ddX12_isSign_31 : decode cX12_isSign 31 = .ok (.bipush 61, 2) := by decide +kernel
theorem ddX12_isSign_33 : decode cX12_isSign 33 = .ok (.if_icmp .eq 33, 3) := by decide +kernel
theorem ddX12_isSign_36 : decode cX12_isSign 36 = .ok (.iload_n 0, 1) := by decide +kernel
theorem ddX12_isSign_37 : decode cX12_isSign 37 = .ok (.bipush 43, 2) := by decide +kernel
theorem ddX12_isSign_39 : decode cX12_isSign 39 = .ok (.if_icmp .eq 27, 3) := by decide +kernel
theorem ddX12_isSign_42 : decode cX12_isSign 42 = .ok (.iload_n 0, 1) := by decide +kernel
theorem ddX12_isSign_43 : decode cX12_isSign 43 = .ok (.bipush 45, 2) := by decide +kernel
theorem ddX12_isSign_45 : decode cX12_isSign 45 = .ok (.if_icmp .eq 21, 3) := by decide +kernel
theorem ddX12_isSign_48 : decode cX12_isSign 48 = .ok (.iload_n 0, 1) := by decide +kernel
theorem ddX12_isSign_49 : decode cX12_isSign 49 = .ok (.bipush 42, 2) := by decide +kernel
theorem ddX12_isSign_51 : decode cX12_isSign 51 = .ok (.if_icmp .eq 15, 3) := by decide +kernel
theorem ddX12_isSign_54 : decode cX12_isSign 54 = .ok (.iload_n 0, 1) := by decide +kernel
theorem ddX12_isSign_55 : decode cX12_isSign 55 = .ok (.bipush 47, 2) := by decide +kernel
theorem ddX12_isSign_57 : decode cX12_isSign 57 = .ok (.if_icmp .eq 9, 3) := by decide +kernel
theorem ddX12_isSign_60 : decode cX12_isSign 60 = .ok (.iload_n 0, 1) := by decide +kernel
theorem ddX12_isSign_61 : decode cX12_isSign 61 = .ok (.bipush 37, 2) := by decide +kernel
theorem ddX12_isSign_63 : decode cX12_isSign 63 = .ok (.if_icmp .ne 7, 3) := by decide +kernel
theorem ddX12_isSign_66 : decode cX12_isSign 66 = .ok (.iconst 1, 1) := by decide +kernel
theorem ddX12_isSign_67 : decode cX12_isSign 67 = .ok (.goto 4, 3) := by decide +kernel
theorem ddX12_isSign_70 : decode cX12_isSign 70 = .ok (.iconst 0, 1) := by decide +kernel
theorem ddX12_isSign_71 : decode cX12_isSign 71 = .ok (.ireturn, 1) := by decide +kernel
def wq_k_X12_isSign : List Cond := Cond.code yX12_isSign cX12_isSign 1 (some .boolean) :: (([] : List Cond))
set_option maxHeartbeats 8000000 in
set_option maxRecDepth 100000 in
theorem k_X12_isSign (l : Launch) (D : va_G) (cy : Nat → ClassId) (ad : Nat → Nat) (g : Nat → va_E) {n : Int32}  : cMi l yX12_isSign wq_k_X12_isSign { frames := 0, cells := 0, slots := 0, locals := 0 } 0 0 0 0 D cy ad g [.int n] (fun r nw lu => (zi 0 1 r) ∧ (lu = [])) := by
  refine cM_of (Qc := fun A => cQi (fun r nw lu => (zi 0 1 r) ∧ (lu = [])) D 0 0 ad g A) (cc := cX12_isSign) (maxL := 1) (ret := (some .boolean)) (by decide) rfl (Nat.le_of_ble_eq_true rfl) ?_
  intro p e s m below meth c A hC hr hlk hnm hO ls hl
  have hC : CallFix p m c cX12_isSign 1 s [.int n].toArray wq_k_X12_isSign RX12 := hC
  obtain ⟨hx, hb, hml, hown, hts⟩ := id hC
  have hl : lv_has ls 1 [(0, .int n)] := hl
  refine lv_iload_n hx hb ddX12_isSign_0 rfl (lv_at hl 0 rfl) ?_
  refine lv_bipush (v := 59) hx hb ddX12_isSign_1 (by decide) ?_
  refine lv_icmp_eq (tgt := 66) hx hb ddX12_isSign_3 (by decide) (fun h_3_34 => ?_) (fun h_3_34 => ?_)
  · have q_3_35 := zr_eq h_3_34
    have z_3_36 : zi 59 59 n := ze_eq q_3_35 (zi_all n) (zi_k (a := 59) (b := 59) (x := 59) rfl)
    refine lv_iconst (v := 1) hx hb ddX12_isSign_66 (by decide) ?_
    refine lv_goto (tgt := 71) hx hb ddX12_isSign_67 (by decide) ?_
    exact cg_iret (nw := fun _ => 0) hC hr hlk hO.same rfl (Nat.le_of_ble_eq_true rfl) (Nat.le_of_ble_eq_true rfl) (⟨(zi_k (a := 0) (b := 1) (x := 1) rfl), rfl⟩) ddX12_isSign_71
  · refine lv_iload_n hx hb ddX12_isSign_6 rfl (lv_at hl 0 rfl) ?_
    refine lv_bipush (v := 40) hx hb ddX12_isSign_7 (by decide) ?_
    refine lv_icmp_eq (tgt := 66) hx hb ddX12_isSign_9 (by decide) (fun h_9_37 => ?_) (fun h_9_37 => ?_)
    · have q_9_38 := zr_eq h_9_37
      have z_9_39 : zi 40 40 n := ze_eq q_9_38 (zi_all n) (zi_k (a := 40) (b := 40) (x := 40) rfl)
      refine lv_iconst (v := 1) hx hb ddX12_isSign_66 (by decide) ?_
      refine lv_goto (tgt := 71) hx hb ddX12_isSign_67 (by decide) ?_
      exact cg_iret (nw := fun _ => 0) hC hr hlk hO.same rfl (Nat.le_of_ble_eq_true rfl) (Nat.le_of_ble_eq_true rfl) (⟨(zi_k (a := 0) (b := 1) (x := 1) rfl), rfl⟩) ddX12_isSign_71
    · refine lv_iload_n hx hb ddX12_isSign_12 rfl (lv_at hl 0 rfl) ?_
      refine lv_bipush (v := 41) hx hb ddX12_isSign_13 (by decide) ?_
      refine lv_icmp_eq (tgt := 66) hx hb ddX12_isSign_15 (by decide) (fun h_15_40 => ?_) (fun h_15_40 => ?_)
      · have q_15_41 := zr_eq h_15_40
        have z_15_42 : zi 41 41 n := ze_eq q_15_41 (zi_all n) (zi_k (a := 41) (b := 41) (x := 41) rfl)
        refine lv_iconst (v := 1) hx hb ddX12_isSign_66 (by decide) ?_
        refine lv_goto (tgt := 71) hx hb ddX12_isSign_67 (by decide) ?_
        exact cg_iret (nw := fun _ => 0) hC hr hlk hO.same rfl (Nat.le_of_ble_eq_true rfl) (Nat.le_of_ble_eq_true rfl) (⟨(zi_k (a := 0) (b := 1) (x := 1) rfl), rfl⟩) ddX12_isSign_71
      · refine lv_iload_n hx hb ddX12_isSign_18 rfl (lv_at hl 0 rfl) ?_
        refine lv_bipush (v := 60) hx hb ddX12_isSign_19 (by decide) ?_
        refine lv_icmp_eq (tgt := 66) hx hb ddX12_isSign_21 (by decide) (fun h_21_43 => ?_) (fun h_21_43 => ?_)
        · have q_21_44 := zr_eq h_21_43
          have z_21_45 : zi 60 60 n := ze_eq q_21_44 (zi_all n) (zi_k (a := 60) (b := 60) (x := 60) rfl)
          refine lv_iconst (v := 1) hx hb ddX12_isSign_66 (by decide) ?_
          refine lv_goto (tgt := 71) hx hb ddX12_isSign_67 (by decide) ?_
          exact cg_iret (nw := fun _ => 0) hC hr hlk hO.same rfl (Nat.le_of_ble_eq_true rfl) (Nat.le_of_ble_eq_true rfl) (⟨(zi_k (a := 0) (b := 1) (x := 1) rfl), rfl⟩) ddX12_isSign_71
        · refine lv_iload_n hx hb ddX12_isSign_24 rfl (lv_at hl 0 rfl) ?_
          refine lv_bipush (v := 62) hx hb ddX12_isSign_25 (by decide) ?_
          refine lv_icmp_eq (tgt := 66) hx hb ddX12_isSign_27 (by decide) (fun h_27_46 => ?_) (fun h_27_46 => ?_)
          · have q_27_47 := zr_eq h_27_46
            have z_27_48 : zi 62 62 n := ze_eq q_27_47 (zi_all n) (zi_k (a := 62) (b := 62) (x := 62) rfl)
            refine lv_iconst (v := 1) hx hb ddX12_isSign_66 (by decide) ?_
            refine lv_goto (tgt := 71) hx hb ddX12_isSign_67 (by decide) ?_
            exact cg_iret (nw := fun _ => 0) hC hr hlk hO.same rfl (Nat.le_of_ble_eq_true rfl) (Nat.le_of_ble_eq_true rfl) (⟨(zi_k (a := 0) (b := 1) (x := 1) rfl), rfl⟩) ddX12_isSign_71
          · refine lv_iload_n hx hb ddX12_isSign_30 rfl (lv_at hl 0 rfl) ?_
            refine lv_bipush (v := 61) hx hb ddX12_isSign_31 (by decide) ?_
            refine lv_icmp_eq (tgt := 66) hx hb ddX12_isSign_33 (by decide) (fun h_33_49 => ?_) (fun h_33_49 => ?_)
            · have q_33_50 := zr_eq h_33_49
              have z_33_51 : zi 61 61 n := ze_eq q_33_50 (zi_all n) (zi_k (a := 61) (b := 61) (x := 61) rfl)
              refine lv_iconst (v := 1) hx hb ddX12_isSign_66 (by decide) ?_
              refine lv_goto (tgt := 71) hx hb ddX12_isSign_67 (by decide) ?_
              exact cg_iret (nw := fun _ => 0) hC hr hlk hO.same rfl (Nat.le_of_ble_eq_true rfl) (Nat.le_of_ble_eq_true rfl) (⟨(zi_k (a := 0) (b := 1) (x := 1) rfl), rfl⟩) ddX12_isSign_71
            · refine lv_iload_n hx hb ddX12_isSign_36 rfl (lv_at hl 0 rfl) ?_
              refine lv_bipush (v := 43) hx hb ddX12_isSign_37 (by decide) ?_
              refine lv_icmp_eq (tgt := 66) hx hb ddX12_isSign_39 (by decide) (fun h_39_52 => ?_) (fun h_39_52 => ?_)
              · have q_39_53 := zr_eq h_39_52
                have z_39_54 : zi 43 43 n := ze_eq q_39_53 (zi_all n) (zi_k (a := 43) (b := 43) (x := 43) rfl)
                refine lv_iconst (v := 1) hx hb ddX12_isSign_66 (by decide) ?_
                refine lv_goto (tgt := 71) hx hb ddX12_isSign_67 (by decide) ?_
                exact cg_iret (nw := fun _ => 0) hC hr hlk hO.same rfl (Nat.le_of_ble_eq_true rfl) (Nat.le_of_ble_eq_true rfl) (⟨(zi_k (a := 0) (b := 1) (x := 1) rfl), rfl⟩) ddX12_isSign_71
              · refine lv_iload_n hx hb ddX12_isSign_42 rfl (lv_at hl 0 rfl) ?_
                refine lv_bipush (v := 45) hx hb ddX12_isSign_43 (by decide) ?_
                refine lv_icmp_eq (tgt := 66) hx hb ddX12_isSign_45 (by decide) (fun h_45_55 => ?_) (fun h_45_55 => ?_)
                · have q_45_56 := zr_eq h_45_55
                  have z_45_57 : zi 45 45 n := ze_eq q_45_56 (zi_all n) (zi_k (a := 45) (b := 45) (x := 45) rfl)
                  refine lv_iconst (v := 1) hx hb ddX12_isSign_66 (by decide) ?_
                  refine lv_goto (tgt := 71) hx hb ddX12_isSign_67 (by decide) ?_
                  exact cg_iret (nw := fun _ => 0) hC hr hlk hO.same rfl (Nat.le_of_ble_eq_true rfl) (Nat.le_of_ble_eq_true rfl) (⟨(zi_k (a := 0) (b := 1) (x := 1) rfl), rfl⟩) ddX12_isSign_71
                · refine lv_iload_n hx hb ddX12_isSign_48 rfl (lv_at hl 0 rfl) ?_
                  refine lv_bipush (v := 42) hx hb ddX12_isSign_49 (by decide) ?_
                  refine lv_icmp_eq (tgt := 66) hx hb ddX12_isSign_51 (by decide) (fun h_51_58 => ?_) (fun h_51_58 => ?_)
                  · have q_51_59 := zr_eq h_51_58
                    have z_51_60 : zi 42 42 n := ze_eq q_51_59 (zi_all n) (zi_k (a := 42) (b := 42) (x := 42) rfl)
                    refine lv_iconst (v := 1) hx hb ddX12_isSign_66 (by decide) ?_
                    refine lv_goto (tgt := 71) hx hb ddX12_isSign_67 (by decide) ?_
                    exact cg_iret (nw := fun _ => 0) hC hr hlk hO.same rfl (Nat.le_of_ble_eq_true rfl) (Nat.le_of_ble_eq_true rfl) (⟨(zi_k (a := 0) (b := 1) (x := 1) rfl), rfl⟩) ddX12_isSign_71
                  · refine lv_iload_n hx hb ddX12_isSign_54 rfl (lv_at hl 0 rfl) ?_
                    refine lv_bipush (v := 47) hx hb ddX12_isSign_55 (by decide) ?_
                    refine lv_icmp_eq (tgt := 66) hx hb ddX12_isSign_57 (by decide) (fun h_57_61 => ?_) (fun h_57_61 => ?_)
                    · have q_57_62 := zr_eq h_57_61
                      have z_57_63 : zi 47 47 n := ze_eq q_57_62 (zi_all n) (zi_k (a := 47) (b := 47) (x := 47) rfl)
                      refine lv_iconst (v := 1) hx hb ddX12_isSign_66 (by decide) ?_
                      refine lv_goto (tgt := 71) hx hb ddX12_isSign_67 (by decide) ?_
                      exact cg_iret (nw := fun _ => 0) hC hr hlk hO.same rfl (Nat.le_of_ble_eq_true rfl) (Nat.le_of_ble_eq_true rfl) (⟨(zi_k (a := 0) (b := 1) (x := 1) rfl), rfl⟩) ddX12_isSign_71
                    · refine lv_iload_n hx hb ddX12_isSign_60 rfl (lv_at hl 0 rfl) ?_
                      refine lv_bipush (v := 37) hx hb ddX12_isSign_61 (by decide) ?_
                      refine lv_icmp_ne (tgt := 70) hx hb ddX12_isSign_63 (by decide) (fun h_63_64 => ?_) (fun h_63_64 => ?_)
                      · refine lv_iconst (v := 0) hx hb ddX12_isSign_70 (by decide) ?_
                        exact cg_iret (nw := fun _ => 0) hC hr hlk hO.same rfl (Nat.le_of_ble_eq_true rfl) (Nat.le_of_ble_eq_true rfl) (⟨(zi_k (a := 0) (b := 1) (x := 0) rfl), rfl⟩) ddX12_isSign_71
                      · have q_63_65 := zr_eq h_63_64
                        have z_63_66 : zi 37 37 n := ze_eq q_63_65 (zi_all n) (zi_k (a := 37) (b := 37) (x := 37) rfl)
                        refine lv_iconst (v := 1) hx hb ddX12_isSign_66 (by decide) ?_
                        refine lv_goto (tgt := 71) hx hb ddX12_isSign_67 (by decide) ?_
                        exact cg_iret (nw := fun _ => 0) hC hr hlk hO.same rfl (Nat.le_of_ble_eq_true rfl) (Nat.le_of_ble_eq_true rfl) (⟨(zi_k (a := 0) (b := 1) (x := 1) rfl), rfl⟩) ddX12_isSign_71

