theorem ddX12_isTaught_0 : decode cX12_isTaught 0 = .ok (.iconst 0, 1) := by decide +kernel
theorem ddX12_isTaught_1 : decode cX12_isTaught 1 = .ok (.istore_n 2, 1) := by decide +kernel
theorem ddX12_isTaught_2 : decode cX12_isTaught 2 = .ok (.iconst 0, 1) := by decide +kernel
theorem ddX12_isTaught_3 : decode cX12_isTaught 3 = .ok (.istore_n 3, 1) := by decide +kernel
theorem ddX12_isTaught_4 : decode cX12_isTaught 4 = .ok (.iload_n 3, 1) := by decide +kernel
theorem ddX12_isTaught_5 : decode cX12_isTaught 5 = .ok (.aload_n 0, 1) := by decide +kernel
theorem ddX12_isTaught_6 : decode cX12_isTaught 6 = .ok (.invokevirtual 363, 3) := by decide +kernel
theorem ddX12_isTaught_9 : decode cX12_isTaught 9 = .ok (.if_icmp .ge 41, 3) := by decide +kernel
theorem ddX12_isTaught_12 : decode cX12_isTaught 12 = .ok (.iload_n 2, 1) := by decide +kernel
theorem ddX12_isTaught_13 : decode cX12_isTaught 13 = .ok (.aload_n 0, 1) := by decide +kernel
theorem ddX12_isTaught_14 : decode cX12_isTaught 14 = .ok (.getfield 152, 3) := by decide +kernel
theorem ddX12_isTaught_17 : decode cX12_isTaught 17 = .ok (.iload_n 3, 1) := by decide +kernel
theorem ddX12_isTaught_18 : decode cX12_isTaught 18 = .ok (.iaload, 1) := by decide +kernel
theorem ddX12_isTaught_19 : decode cX12_isTaught 19 = .ok (.iadd, 1) := by decide +kernel
theorem ddX12_isTaught_20 : decode cX12_isTaught 20 = .ok (.istore_n 2, 1) := by decide +kernel
theorem ddX12_isTaught_21 : decode cX12_isTaught 21 = .ok (.aload_n 0, 1) := by decide +kernel
theorem ddX12_isTaught_22 : decode cX12_isTaught 22 = .ok (.getfield 98, 3) := by decide +kernel
theorem ddX12_isTaught_25 : decode cX12_isTaught 25 = .ok (.bipush 73, 2) := by decide +kernel
theorem ddX12_isTaught_27 : decode cX12_isTaught 27 = .ok (.iload_n 3, 1) := by decide +kernel
theorem ddX12_isTaught_28 : decode cX12_isTaught 28 = .ok (.iadd, 1) := by decide +kernel
theorem ddX12_isTaught_29 : decode cX12_isTaught 29 = .ok (.iaload, 1) := by decide +kernel
theorem ddX12_isTaught_30 : decode cX12_isTaught 30 = .ok (.aload_n 0, 1) := by decide +kernel
theorem ddX12_isTaught_31 : decode cX12_isTaught 31 = .ok (.getfield 152, 3) := by decide +kernel
theorem ddX12_isTaught_34 : decode cX12_isTaught 34 = .ok (.iload_n 3, 1) := by decide +kernel
theorem ddX12_isTaught_35 : decode cX12_isTaught 35 = .ok (.iaload, 1) := by decide +kernel
theorem ddX12_isTaught_36 : decode cX12_isTaught 36 = .ok (.iadd, 1) := by decide +kernel
theorem ddX12_isTaught_37 : decode cX12_isTaught 37 = .ok (.bipush 20, 2) := by decide +kernel
theorem ddX12_isTaught_39 : decode cX12_isTaught 39 = .ok (.if_icmp .le 5, 3) := by decide +kernel
theorem ddX12_isTaught_42 : decode cX12_isTaught 42 = .ok (.iconst 0, 1) := by decide +kernel
theorem ddX12_isTaught_43 : decode cX12_isTaught 43 = .ok (.ireturn, 1) := by decide +kernel
theorem ddX12_isTaught_44 : decode cX12_isTaught 44 = .ok (.iinc 3 1, 3) := by decide +kernel
theorem ddX12_isTaught_47 : decode cX12_isTaught 47 = .ok (.goto (-43), 3) := by decide +kernel
theorem ddX12_isTaught_50 : decode cX12_isTaught 50 = .ok (.iload_n 2, 1) := by decide +kernel
theorem ddX12_isTaught_51 : decode cX12_isTaught 51 = .ok (.iload_n 1, 1) := by decide +kernel
theorem ddX12_isTaught_52 : decode cX12_isTaught 52 = .ok (.if_icmp .ne 7, 3) := by decide +kernel
theorem ddX12_isTaught_55 : decode cX12_isTaught 55 = .ok (.iconst 1, 1) := by decide +kernel
theorem ddX12_isTaught_56 : decode cX12_isTaught 56 = .ok (.goto 4, 3) := by decide +kernel
theorem ddX12_isTaught_59 : decode cX12_isTaught 59 = .ok (.iconst 0, 1) := by decide +kernel
theorem ddX12_isTaught_60 : decode cX12_isTaught 60 = .ok (.ireturn, 1) := by decide +kernel
def wq_k_X12_isTaught : List Cond := Cond.code yX12_isTaught cX12_isTaught 4 (some .boolean) :: (([Cond.methodLink RX12 363 yX12_birdMany, Cond.instanceMethod yX12_birdMany, Cond.selects RX12 yX12_birdMany yX12_birdMany, Cond.initialized RX12, Cond.code yX12_birdMany cX12_birdMany 1 (some .int), Cond.fieldLink RX12 20 "CrowTollModel" "birds" "[I", Cond.fieldLink RX12 286 "CrowTollModel" "bank" "I", Cond.fieldLink RX12 152 "CrowTollModel" "row" "[I", Cond.fieldLink RX12 98 "CrowTollModel" "state" "[I"] : List Cond) ++ wsX120)
set_option maxRecDepth 20000 in
theorem gr_k_X12_isTaught_k_X12_birdMany : GoodIn wq_k_X12_isTaught wq_k_X12_birdMany := List.forall_mem_cons.mpr ⟨⟨(List.mem_of_getElem? (i := 5) rfl), good_of_word rfl⟩, List.forall_mem_append.mpr ⟨List.forall_mem_cons.mpr ⟨⟨(List.mem_of_getElem? (i := 6) rfl), good_of_word rfl⟩, List.forall_mem_cons.mpr ⟨⟨(List.mem_of_getElem? (i := 7) rfl), good_of_word rfl⟩, (fun _ h => absurd h List.not_mem_nil)⟩⟩, fun w h => ⟨(fun w h => List.mem_cons_of_mem _ (List.mem_append_right _ h)) w h, good_of_word (List.all_eq_true.mp gw_X12 w h)⟩⟩⟩
set_option maxRecDepth 20000 in
theorem gq_k_X12_isTaught_k_X12_birdMany_363 : GoodIn wq_k_X12_isTaught (wsV RX12 363 RX12 yX12_birdMany wq_k_X12_birdMany) := goodIn_app (List.forall_mem_cons.mpr ⟨⟨(List.mem_of_getElem? (i := 1) rfl), good_of_word rfl⟩, List.forall_mem_cons.mpr ⟨⟨(List.mem_of_getElem? (i := 2) rfl), good_of_word rfl⟩, List.forall_mem_cons.mpr ⟨⟨(List.mem_of_getElem? (i := 3) rfl), good_of_word rfl⟩, List.forall_mem_cons.mpr ⟨⟨(List.mem_of_getElem? (i := 4) rfl), good_of_word rfl⟩, (fun _ h => absurd h List.not_mem_nil)⟩⟩⟩⟩) gr_k_X12_isTaught_k_X12_birdMany
set_option maxHeartbeats 8000000 in
set_option maxRecDepth 100000 in
theorem k_X12_isTaught (l : Launch) (D : va_G) (cy : Nat → ClassId) (ad : Nat → Nat) (g : Nat → va_E) {u0_0 : Value} {u0_1 : Value} {u0_2 : Value} {u0_3 : Value} {u0_4 : Value} {u0_5 : Value} {u0_6 : Value} {u0_7 : Value} {u0_8 : Value} {u0_9 : Value} {u0_10 : Value} {u0_12 : Value} {u0_13 : Value} {u0_14 : Value} {u0_15 : Value} {u0_16 : Value} {u0_17 : Value} {u0_18 : Value} {u0_19 : Value} {u0_20 : Value} {u0_21 : Value} {u0_22 : Value} {u0_23 : Value} {u0_24 : Value} {u0_25 : Value} {u0_26 : Value} {u0_27 : Value} {u0_28 : Value} {u0_29 : Value} {u0_30 : Value} {u0_31 : Value} {u0_32 : Value} {u0_33 : Value} {u0_34 : Value} {u0_35 : Value} {x0_36 : Int32} {u0_37 : Value} {u0_38 : Value} {u0_39 : Value} {u0_40 : Value} {u0_42 : Value} {u0_43 : Value} {u0_44 : Value} {u0_45 : Value} {u0_46 : Value} {u0_47 : Value} {u0_48 : Value} {u0_49 : Value} {u0_50 : Value} {u0_51 : Value} {u0_52 : Value} {u0_53 : Value} {u0_54 : Value} {u0_55 : Value} {u0_56 : Value} {u0_57 : Value} {u0_58 : Value} {u0_59 : Value} {u0_60 : Value} {u0_61 : Value} {u0_62 : Value} {u0_63 : Value} {u0_65 : Value} {u0_66 : Value} {u0_67 : Value} {u0_68 : Value} {u0_69 : Value} {u0_70 : Value} {u0_71 : Value} {u0_72 : Value} {u0_73 : Value} {c1 : Nat → Int32} {c2 : Nat → Int32} {c3 : Nat → Int32} {so : Int32} (o0 : g 0 = .inr (12, [u0_0, u0_1, u0_2, u0_3, u0_4, u0_5, u0_6, u0_7, u0_8, u0_9, u0_10, .ref (ad 1), u0_12, u0_13, u0_14, u0_15, u0_16, u0_17, u0_18, u0_19, u0_20, u0_21, u0_22, u0_23, u0_24, u0_25, u0_26, u0_27, u0_28, u0_29, u0_30, u0_31, u0_32, u0_33, u0_34, u0_35, .int x0_36, u0_37, u0_38, u0_39, u0_40, .ref (ad 3), u0_42, u0_43, u0_44, u0_45, u0_46, u0_47, u0_48, u0_49, u0_50, u0_51, u0_52, u0_53, u0_54, u0_55, u0_56, u0_57, u0_58, u0_59, u0_60, u0_61, u0_62, u0_63, .ref (ad 2), u0_65, u0_66, u0_67, u0_68, u0_69, u0_70, u0_71, u0_72, u0_73])) (a1 : g 1 = .inl (cy 0, 2, .inl c1)) (a2 : g 2 = .inl (cy 0, 5, .inl c2)) (a3 : g 3 = .inl (cy 0, 80, .inl c3)) (b0_36 : zi 0 1 x0_36) (ha1 : za 0 5 c1) (ha2 : za 0 3 c2) (ha3 : zs c3) : cMi l yX12_isTaught wq_k_X12_isTaught { frames := 1, cells := 0, slots := 0, locals := 20 } 4 0 0 0 D cy ad g [.ref (ad 0), .int so] (fun r nw lu => (zi 0 1 r) ∧ (lu = [])) := by
  refine cM_of (Qc := fun A => cQi (fun r nw lu => (zi 0 1 r) ∧ (lu = [])) D 4 0 ad g A) (cc := cX12_isTaught) (maxL := 4) (ret := (some .boolean)) (by decide) rfl (Nat.le_of_ble_eq_true rfl) ?_
  intro p e s m below meth c A hC hr hlk hnm hO ls hl
  have hC : CallFix p m c cX12_isTaught 4 s [.ref (ad 0), .int so].toArray wq_k_X12_isTaught RX12 := hC
  obtain ⟨hx, hb, hml, hown, hts⟩ := id hC
  have hl : lv_has ls 4 [(0, .ref (ad 0)), (1, .int so)] := hl
  have i_X12 : ∀ w ∈ wsX120, w ∈ wq_k_X12_isTaught := fun w h => List.mem_cons_of_mem _ (List.mem_append_right _ h)
  refine lv_iconst (v := 0) hx hb ddX12_isTaught_0 (by decide) ?_
  refine lv_istore_n (lv' := [(2, .int 0), (0, .ref (ad 0)), (1, .int so)]) hx hb ddX12_isTaught_1 rfl hl (by decide) rfl (fun ls hl => ?_)
  refine lv_iconst (v := 0) hx hb ddX12_isTaught_2 (by decide) ?_
  refine lv_istore_n (lv' := [(3, .int 0), (2, .int 0), (0, .ref (ad 0)), (1, .int so)]) hx hb ddX12_isTaught_3 rfl hl (by decide) rfl (fun ls hl => ?_)
  have loop_4_679 : ∀ (d_4_680 : Nat) (v_4_643 : Int32) (v_4_645 : Int32), zi 0 5 v_4_643 → (5 + 1 - v_4_643.toInt).toNat < d_4_680 → ∀ (H : Heap) (locs : List Loc), cO D cy A s.heap s 4 ad (cup [] g) H locs → ∀ ls : Array Slot, lv_has ls 4 [(3, .int v_4_643), (2, .int v_4_645), (0, .ref (ad 0)), (1, .int so)] → W p l e { frames := 1, cells := 0, slots := 0, locals := 20 } s m [.ref (ad 0), .int so].toArray below meth c H locs 0 0 (MQ below (cQi (fun r nw lu => (zi 0 1 r) ∧ (lu = [])) D 4 0 ad g A) [.ref (ad 0), .int so].toArray s 0 0 A) (F0 m 4 ls [])  := by
    intro d_4_680
    induction d_4_680 with
    | zero => intro v_4_643 v_4_645 z_4_644 mu_4_681; exact absurd mu_4_681 (Nat.not_lt_zero _)
    | succ d_4_680 ih_4_682 =>
      intro v_4_643 v_4_645 z_4_644 mu_4_681 H locs hO ls hl
      refine lv_iload_n hx hb ddX12_isTaught_4 rfl (lv_at hl 0 rfl) ?_
      refine lv_aload_n hx hb ddX12_isTaught_5 rfl (lv_at hl 2 rfl) ?_
      refine cg_Vi (As := []) (rest := [.int v_4_643]) (mc := 0) (ms := 0) (rm := { frames := 0, cells := 0, slots := 0, locals := 0 }) hC hl.1 hO [0, 1] (by decide +kernel) (k_X12_birdMany l D cy _ _ (u0_0 := u0_0) (u0_1 := u0_1) (u0_2 := u0_2) (u0_3 := u0_3) (u0_4 := u0_4) (u0_5 := u0_5) (u0_6 := u0_6) (u0_7 := u0_7) (u0_8 := u0_8) (u0_9 := u0_9) (u0_10 := u0_10) (c1 := c1) (u0_12 := u0_12) (u0_13 := u0_13) (u0_14 := u0_14) (u0_15 := u0_15) (u0_16 := u0_16) (u0_17 := u0_17) (u0_18 := u0_18) (u0_19 := u0_19) (u0_20 := u0_20) (u0_21 := u0_21) (u0_22 := u0_22) (u0_23 := u0_23) (u0_24 := u0_24) (u0_25 := u0_25) (u0_26 := u0_26) (u0_27 := u0_27) (u0_28 := u0_28) (u0_29 := u0_29) (u0_30 := u0_30) (u0_31 := u0_31) (u0_32 := u0_32) (u0_33 := u0_33) (u0_34 := u0_34) (u0_35 := u0_35) (x0_36 := x0_36) (u0_37 := u0_37) (u0_38 := u0_38) (u0_39 := u0_39) (u0_40 := u0_40) (u0_41 := .ref (ad 3)) (u0_42 := u0_42) (u0_43 := u0_43) (u0_44 := u0_44) (u0_45 := u0_45) (u0_46 := u0_46) (u0_47 := u0_47) (u0_48 := u0_48) (u0_49 := u0_49) (u0_50 := u0_50) (u0_51 := u0_51) (u0_52 := u0_52) (u0_53 := u0_53) (u0_54 := u0_54) (u0_55 := u0_55) (u0_56 := u0_56) (u0_57 := u0_57) (u0_58 := u0_58) (u0_59 := u0_59) (u0_60 := u0_60) (u0_61 := u0_61) (u0_62 := u0_62) (u0_63 := u0_63) (u0_64 := .ref (ad 2)) (u0_65 := u0_65) (u0_66 := u0_66) (u0_67 := u0_67) (u0_68 := u0_68) (u0_69 := u0_69) (u0_70 := u0_70) (u0_71 := u0_71) (u0_72 := u0_72) (u0_73 := u0_73) o0 a1 b0_36 ha1) gq_k_X12_isTaught_k_X12_birdMany_363 rfl rfl rfl 0 (by decide +kernel) ⟨Nat.le_of_ble_eq_true rfl, Nat.le_of_ble_eq_true rfl⟩ rfl (by decide) o0 rfl rfl (Nat.le_of_ble_eq_true rfl) ddX12_isTaught_6 ⟨Nat.le_of_ble_eq_true rfl, Nat.le_of_ble_eq_true rfl⟩ (fun r_6_685 nw_6_683 l_6_684 H locs hw hO => ?_)
      obtain ⟨z_6_686, el_6_687, rfl⟩ := hw
      have hO : cO D cy A s.heap s 4 ad (cup [] g) _ _ := hO
      refine lv_icmp_ge (tgt := 50) hx hb ddX12_isTaught_9 (by decide) (fun h_9_688 => ?_) (fun h_9_688 => ?_)
      · have q_9_689 := zr_le h_9_688
        refine lv_iload_n hx hb ddX12_isTaught_50 rfl (lv_at hl 1 rfl) ?_
        refine lv_iload_n hx hb ddX12_isTaught_51 rfl (lv_at hl 3 rfl) ?_
        refine lv_icmp_ne (tgt := 59) hx hb ddX12_isTaught_52 (by decide) (fun h_52_690 => ?_) (fun h_52_690 => ?_)
        · refine lv_iconst (v := 0) hx hb ddX12_isTaught_59 (by decide) ?_
          exact cg_iret (nw := fun _ => 0) hC hr hlk hO.same rfl (Nat.le_of_ble_eq_true rfl) (Nat.le_of_ble_eq_true rfl) (⟨(zi_k (a := 0) (b := 1) (x := 0) rfl), rfl⟩) ddX12_isTaught_60
        · have q_52_691 := zr_eq h_52_690
          refine lv_iconst (v := 1) hx hb ddX12_isTaught_55 (by decide) ?_
          refine lv_goto (tgt := 60) hx hb ddX12_isTaught_56 (by decide) ?_
          exact cg_iret (nw := fun _ => 0) hC hr hlk hO.same rfl (Nat.le_of_ble_eq_true rfl) (Nat.le_of_ble_eq_true rfl) (⟨(zi_k (a := 0) (b := 1) (x := 1) rfl), rfl⟩) ddX12_isTaught_60
      · have q_9_692 := zr_nle h_9_688
        have z_9_693 : zi 0 4 v_4_643 := zu_lt q_9_692 z_4_644 z_6_686 (by decide)
        have z_9_694 : zi 1 5 r_6_685 := zd_lt q_9_692 z_4_644 z_6_686 (by decide)
        refine lv_iload_n hx hb ddX12_isTaught_12 rfl (lv_at hl 1 rfl) ?_
        refine lv_aload_n hx hb ddX12_isTaught_13 rfl (lv_at hl 2 rfl) ?_
        refine cg_get hC hO 0 (by decide) o0 rfl i_X12 64 (by decide) (List.mem_of_getElem? (i := 8) rfl) rfl ddX12_isTaught_14 ?_
        refine lv_iload_n hx hb ddX12_isTaught_17 rfl (lv_at hl 0 rfl) ?_
        refine zg_iald hC hO 2 (by decide) a2 ha2 (zi_in z_9_693 (by decide)) ddX12_isTaught_18 (fun v_18_695 z_18_696 => ?_)
        refine lv_iadd hx hb ddX12_isTaught_19 ?_
        refine lv_topi (fun v_19_697 _ => ?_)
        refine lv_istore_n (lv' := [(2, .int v_19_697), (3, .int v_4_643), (0, .ref (ad 0)), (1, .int so)]) hx hb ddX12_isTaught_20 rfl hl (by decide) rfl (fun ls hl => ?_)
        refine lv_aload_n hx hb ddX12_isTaught_21 rfl (lv_at hl 2 rfl) ?_
        refine cg_get hC hO 0 (by decide) o0 rfl i_X12 41 (by decide) (List.mem_of_getElem? (i := 9) rfl) rfl ddX12_isTaught_22 ?_
        refine lv_bipush (v := 73) hx hb ddX12_isTaught_25 (by decide) ?_
        refine lv_iload_n hx hb ddX12_isTaught_27 rfl (lv_at hl 1 rfl) ?_
        refine lv_iadd hx hb ddX12_isTaught_28 ?_
        refine zg_top2 (P := fun v => zi 73 77 v) (E := fun v => v.toInt = (73 : Int32).toInt + (v_4_643 : Int32).toInt) (zi_add (zi_k (a := 73) (b := 73) (x := 73) rfl) z_9_693 (by decide)) (fun v_28_698 z_28_699 q_28_700 => ?_)
        refine zg_ialdS hC hO 3 (by decide) a3 ha3 (zi_in z_28_699 (by decide)) ddX12_isTaught_29 (fun v_29_701 z_29_702 el_29_703 => ?_)
        refine lv_aload_n hx hb ddX12_isTaught_30 rfl (lv_at hl 2 rfl) ?_
        refine cg_get hC hO 0 (by decide) o0 rfl i_X12 64 (by decide) (List.mem_of_getElem? (i := 8) rfl) rfl ddX12_isTaught_31 ?_
        refine lv_iload_n hx hb ddX12_isTaught_34 rfl (lv_at hl 1 rfl) ?_
        refine zg_iald hC hO 2 (by decide) a2 ha2 (zi_in z_9_693 (by decide)) ddX12_isTaught_35 (fun v_35_704 z_35_705 => ?_)
        refine lv_iadd hx hb ddX12_isTaught_36 ?_
        refine lv_topi (fun v_36_706 _ => ?_)
        refine lv_bipush (v := 20) hx hb ddX12_isTaught_37 (by decide) ?_
        refine lv_icmp_le (tgt := 44) hx hb ddX12_isTaught_39 (by decide) (fun h_39_707 => ?_) (fun h_39_707 => ?_)
        · have q_39_708 := zr_le h_39_707
          have z_39_709 : zi (-2147483648) 20 v_36_706 := zu_le q_39_708 (zi_all v_36_706) (zi_k (a := 20) (b := 20) (x := 20) rfl) (by decide)
          obtain ⟨v_44_710, e_44_711, z_44_712, q_44_713⟩ := zi_inc (e := 1) (f := 5) 1 z_9_693 (by decide)
          refine lv_iinc (v := v_44_710) (lv' := [(3, .int v_44_710), (2, .int v_19_697), (0, .ref (ad 0)), (1, .int so)]) hx hb ddX12_isTaught_44 hl (k := 1) rfl e_44_711 (by decide) rfl (fun ls hl => ?_)
          refine lv_goto (tgt := 4) hx hb ddX12_isTaught_47 (by decide) ?_
          exact ih_4_682 v_44_710 v_19_697 (zi_w (c := 0) (d := 5) z_44_712 (by decide)) (zm_up q_44_713 ((zi_w (c := 0) (d := 5) z_44_712 (by decide))).2 (by decide) mu_4_681) _ _ hO ls (lv_sub hl [0, 1, 2, 3] rfl)
        · have q_39_714 := zr_nle h_39_707
          have z_39_715 : zi 21 2147483647 v_36_706 := zd_lt q_39_714 (zi_k (a := 20) (b := 20) (x := 20) rfl) (zi_all v_36_706) (by decide)
          refine lv_iconst (v := 0) hx hb ddX12_isTaught_42 (by decide) ?_
          exact cg_iret (nw := fun _ => 0) hC hr hlk hO.same rfl (Nat.le_of_ble_eq_true rfl) (Nat.le_of_ble_eq_true rfl) (⟨(zi_k (a := 0) (b := 1) (x := 0) rfl), rfl⟩) ddX12_isTaught_43
  exact loop_4_679 ((5 + 1 - (0 : Int32).toInt).toNat + 1) 0 0 (zi_k (a := 0) (b := 5) (x := 0) rfl) (Nat.lt_succ_self _) _ _ hO ls (lv_sub hl [0, 1, 2, 3] rfl)

theorem ddX12_takeRow_0 : decode cX12_takeRow 0 = .ok (.aload_n 0, 1) := by decide +kernel
theorem ddX12_takeRow_1 : decode cX12_takeRow 1 = .ok (.invokevirtual 421, 3) := by decide +kernel
theorem ddX12_takeRow_4 : decode cX12_takeRow 4 = .ok (.istore_n 2, 1) := by decide +kernel
theorem ddX12_takeRow_5 : decode cX12_takeRow 5 = .ok (.iload_n 1, 1) := by decide +kernel
theorem ddX12_takeRow_6 : decode cX12_takeRow 6 = .ok (.ifCond .lt 10, 3) := by decide +kernel
theorem ddX12_takeRow_9 : decode cX12_takeRow 9 = .ok (.iload_n 2, 1) := by decide +kernel
theorem ddX12_takeRow_10 : decode cX12_takeRow 10 = .ok (.iload_n 1, 1) := by decide +kernel
theorem ddX12_takeRow_11 : decode cX12_takeRow 11 = .ok (.if_icmp .gt 5, 3) := by decide +kernel
theorem ddX12_takeRow_14 : decode cX12_takeRow 14 = .ok (.iload_n 1, 1) := by decide +kernel
theorem ddX12_takeRow_15 : decode cX12_takeRow 15 = .ok (.ireturn, 1) := by decide +kernel
theorem ddX12_takeRow_16 : decode cX12_takeRow 16 = .ok (.iconst 0, 1) := by decide +kernel
theorem ddX12_takeRow_17 : decode cX12_takeRow 17 = .ok (.istore_n 3, 1) := by decide +kernel
theorem ddX12_takeRow_18 : decode cX12_takeRow 18 = .ok (.iload_n 3, 1) := by decide +kernel
theorem ddX12_takeRow_19 : decode cX12_takeRow 19 = .ok (.aload_n 0, 1) := by decide +kernel
theorem ddX12_takeRow_20 : decode cX12_takeRow 20 = .ok (.invokevirtual 363, 3) := by decide +kernel
theorem ddX12_takeRow_23 : decode cX12_takeRow 23 = .ok (.if_icmp .ge 21, 3) := by decide +kernel
theorem ddX12_takeRow_26 : decode cX12_takeRow 26 = .ok (.aload_n 0, 1) := by decide +kernel
theorem ddX12_takeRow_27 : decode cX12_takeRow 27 = .ok (.getfield 146, 3) := by decide +kernel
theorem ddX12_takeRow_30 : decode cX12_takeRow 30 = .ok (.iload_n 3, 1) := by decide +kernel
theorem ddX12_takeRow_31 : decode cX12_takeRow 31 = .ok (.aload_n 0, 1) := by decide +kernel
theorem ddX12_takeRow_32 : decode cX12_takeRow 32 = .ok (.getfield 152, 3) := by decide +kernel
theorem ddX12_takeRow_35 : decode cX12_takeRow 35 = .ok (.iload_n 3, 1) := by decide +kernel
theorem ddX12_takeRow_36 : decode cX12_takeRow 36 = .ok (.iaload, 1) := by decide +kernel
theorem ddX12_takeRow_37 : decode cX12_takeRow 37 = .ok (.iastore, 1) := by decide +kernel
theorem ddX12_takeRow_38 : decode cX12_takeRow 38 = .ok (.iinc 3 1, 3) := by decide +kernel
theorem ddX12_takeRow_41 : decode cX12_takeRow 41 = .ok (.goto (-23), 3) := by decide +kernel
theorem ddX12_takeRow_44 : decode cX12_takeRow 44 = .ok (.iload_n 2, 1) := by decide +kernel
theorem ddX12_takeRow_45 : decode cX12_takeRow 45 = .ok (.ireturn, 1) := by decide +kernel
def wq_k_X12_takeRow : List Cond := Cond.code yX12_takeRow cX12_takeRow 4 (some .int) :: (([Cond.methodLink RX12 421 yX12_incomeOf, Cond.instanceMethod yX12_incomeOf, Cond.selects RX12 yX12_incomeOf yX12_incomeOf, Cond.initialized RX12, Cond.code yX12_incomeOf cX12_incomeOf 3 (some .int), Cond.fieldLink RX12 379 "CrowTollModel" "dMany" "I", Cond.methodLink RX12 397 yX12_paidBy, Cond.instanceMethod yX12_paidBy, Cond.selects RX12 yX12_paidBy yX12_paidBy, Cond.code yX12_paidBy cX12_paidBy 4 (some .int), Cond.methodLink RX12 370 yX12_postMany, Cond.instanceMethod yX12_postMany, Cond.selects RX12 yX12_postMany yX12_postMany, Cond.code yX12_postMany cX12_postMany 1 (some .int), Cond.fieldLink RX12 24 "CrowTollModel" "posts" "[I", Cond.fieldLink RX12 286 "CrowTollModel" "bank" "I", Cond.fieldLink RX12 119 "CrowTollModel" "paid" "[I", Cond.methodLink RX12 363 yX12_birdMany, Cond.instanceMethod yX12_birdMany, Cond.selects RX12 yX12_birdMany yX12_birdMany, Cond.code yX12_birdMany cX12_birdMany 1 (some .int), Cond.fieldLink RX12 20 "CrowTollModel" "birds" "[I", Cond.fieldLink RX12 146 "CrowTollModel" "laidRow" "[I", Cond.fieldLink RX12 152 "CrowTollModel" "row" "[I"] : List Cond) ++ wsX120)
set_option maxRecDepth 20000 in
theorem gr_k_X12_takeRow_k_X12_incomeOf : GoodIn wq_k_X12_takeRow wq_k_X12_incomeOf := List.forall_mem_cons.mpr ⟨⟨(List.mem_of_getElem? (i := 5) rfl), good_of_word rfl⟩, List.forall_mem_append.mpr ⟨List.forall_mem_cons.mpr ⟨⟨(List.mem_of_getElem? (i := 6) rfl), good_of_word rfl⟩, List.forall_mem_cons.mpr ⟨⟨(List.mem_of_getElem? (i := 7) rfl), good_of_word rfl⟩, List.forall_mem_cons.mpr ⟨⟨(List.mem_of_getElem? (i := 8) rfl), good_of_word rfl⟩, List.forall_mem_cons.mpr ⟨⟨(List.mem_of_getElem? (i := 9) rfl), good_of_word rfl⟩, List.forall_mem_cons.mpr ⟨⟨(List.mem_of_getElem? (i := 4) rfl), good_of_word rfl⟩, List.forall_mem_cons.mpr ⟨⟨(List.mem_of_getElem? (i := 10) rfl), good_of_word rfl⟩, List.forall_mem_cons.mpr ⟨⟨(List.mem_of_getElem? (i := 11) rfl), good_of_word rfl⟩, List.forall_mem_cons.mpr ⟨⟨(List.mem_of_getElem? (i := 12) rfl), good_of_word rfl⟩, List.forall_mem_cons.mpr ⟨⟨(List.mem_of_getElem? (i := 13) rfl), good_of_word rfl⟩, List.forall_mem_cons.mpr ⟨⟨(List.mem_of_getElem? (i := 14) rfl), good_of_word rfl⟩, List.forall_mem_cons.mpr ⟨⟨(List.mem_of_getElem? (i := 15) rfl), good_of_word rfl⟩, List.forall_mem_cons.mpr ⟨⟨(List.mem_of_getElem? (i := 16) rfl), good_of_word rfl⟩, List.forall_mem_cons.mpr ⟨⟨(List.mem_of_getElem? (i := 17) rfl), good_of_word rfl⟩, (fun _ h => absurd h List.not_mem_nil)⟩⟩⟩⟩⟩⟩⟩⟩⟩⟩⟩⟩⟩, fun w h => ⟨(fun w h => List.mem_cons_of_mem _ (List.mem_append_right _ h)) w h, good_of_word (List.all_eq_true.mp gw_X12 w h)⟩⟩⟩
set_option maxRecDepth 20000 in
theorem gq_k_X12_takeRow_k_X12_incomeOf_421 : GoodIn wq_k_X12_takeRow (wsV RX12 421 RX12 yX12_incomeOf wq_k_X12_incomeOf) := goodIn_app (List.forall_mem_cons.mpr ⟨⟨(List.mem_of_getElem? (i := 1) rfl), good_of_word rfl⟩, List.forall_mem_cons.mpr ⟨⟨(List.mem_of_getElem? (i := 2) rfl), good_of_word rfl⟩, List.forall_mem_cons.mpr ⟨⟨(List.mem_of_getElem? (i := 3) rfl), good_of_word rfl⟩, List.forall_mem_cons.mpr ⟨⟨(List.mem_of_getElem? (i := 4) rfl), good_of_word rfl⟩, (fun _ h => absurd h List.not_mem_nil)⟩⟩⟩⟩) gr_k_X12_takeRow_k_X12_incomeOf
set_option maxRecDepth 20000 in
theorem gr_k_X12_takeRow_k_X12_birdMany : GoodIn wq_k_X12_takeRow wq_k_X12_birdMany := List.forall_mem_cons.mpr ⟨⟨(List.mem_of_getElem? (i := 21) rfl), good_of_word rfl⟩, List.forall_mem_append.mpr ⟨List.forall_mem_cons.mpr ⟨⟨(List.mem_of_getElem? (i := 22) rfl), good_of_word rfl⟩, List.forall_mem_cons.mpr ⟨⟨(List.mem_of_getElem? (i := 16) rfl), good_of_word rfl⟩, (fun _ h => absurd h List.not_mem_nil)⟩⟩, fun w h => ⟨(fun w h => List.mem_cons_of_mem _ (List.mem_append_right _ h)) w h, good_of_word (List.all_eq_true.mp gw_X12 w h)⟩⟩⟩
set_option maxRecDepth 20000 in
theorem gq_k_X12_takeRow_k_X12_birdMany_363 : GoodIn wq_k_X12_takeRow (wsV RX12 363 RX12 yX12_birdMany wq_k_X12_birdMany) := goodIn_app (List.forall_mem_cons.mpr ⟨⟨(List.mem_of_getElem? (i := 18) rfl), good_of_word rfl⟩, List.forall_mem_cons.mpr ⟨⟨(List.mem_of_getElem? (i := 19) rfl), good_of_word rfl⟩, List.forall_mem_cons.mpr ⟨⟨(List.mem_of_getElem? (i := 20) rfl), good_of_word rfl⟩, List.forall_mem_cons.mpr ⟨⟨(List.mem_of_getElem? (i := 4) rfl), good_of_word rfl⟩, (fun _ h => absurd h List.not_mem_nil)⟩⟩⟩⟩) gr_k_X12_takeRow_k_X12_birdMany
set_option maxHeartbeats 8000000 in
set_option maxRecDepth 100000 in
theorem k_X12_takeRow (l : Launch) (D : va_G) (cy : Nat → ClassId) (ad : Nat → Nat) (g : Nat → va_E) {u0_0 : Value} {u0_1 : Value} {u0_2 : Value} {u0_3 : Value} {u0_4 : Value} {u0_5 : Value} {u0_6 : Value} {u0_7 : Value} {u0_8 : Value} {u0_9 : Value} {u0_10 : Value} {u0_13 : Value} {u0_14 : Value} {u0_15 : Value} {u0_16 : Value} {u0_17 : Value} {u0_18 : Value} {u0_19 : Value} {u0_20 : Value} {u0_21 : Value} {u0_22 : Value} {u0_23 : Value} {u0_24 : Value} {u0_25 : Value} {u0_26 : Value} {u0_27 : Value} {u0_28 : Value} {u0_29 : Value} {u0_30 : Value} {u0_31 : Value} {u0_32 : Value} {u0_33 : Value} {u0_34 : Value} {u0_35 : Value} {x0_36 : Int32} {u0_37 : Value} {u0_38 : Value} {u0_39 : Value} {u0_40 : Value} {u0_41 : Value} {u0_42 : Value} {u0_43 : Value} {u0_44 : Value} {u0_45 : Value} {u0_46 : Value} {u0_47 : Value} {u0_49 : Value} {u0_50 : Value} {u0_51 : Value} {u0_52 : Value} {u0_53 : Value} {u0_54 : Value} {u0_55 : Value} {x0_56 : Int32} {u0_57 : Value} {u0_58 : Value} {u0_59 : Value} {u0_60 : Value} {u0_62 : Value} {u0_63 : Value} {u0_65 : Value} {u0_66 : Value} {u0_67 : Value} {u0_68 : Value} {u0_69 : Value} {u0_70 : Value} {u0_71 : Value} {u0_72 : Value} {u0_73 : Value} {c1 : Nat → Int32} {c2 : Nat → Int32} {c3 : Nat → Int32} {c4 : Nat → Int32} {c5 : Nat → Int32} {best : Int32} (o0 : g 0 = .inr (12, [u0_0, u0_1, u0_2, u0_3, u0_4, u0_5, u0_6, u0_7, u0_8, u0_9, u0_10, .ref (ad 3), .ref (ad 1), u0_13, u0_14, u0_15, u0_16, u0_17, u0_18, u0_19, u0_20, u0_21, u0_22, u0_23, u0_24, u0_25, u0_26, u0_27, u0_28, u0_29, u0_30, u0_31, u0_32, u0_33, u0_34, u0_35, .int x0_36, u0_37, u0_38, u0_39, u0_40, u0_41, u0_42, u0_43, u0_44, u0_45, u0_46, u0_47, .ref (ad 2), u0_49, u0_50, u0_51, u0_52, u0_53, u0_54, u0_55, .int x0_56, u0_57, u0_58, u0_59, u0_60, .ref (ad 5), u0_62, u0_63, .ref (ad 4), u0_65, u0_66, u0_67, u0_68, u0_69, u0_70, u0_71, u0_72, u0_73])) (a1 : g 1 = .inl (cy 0, 2, .inl c1)) (a2 : g 2 = .inl (cy 0, 120, .inl c2)) (a3 : g 3 = .inl (cy 0, 2, .inl c3)) (a4 : g 4 = .inl (cy 0, 5, .inl c4)) (a5 : g 5 = .inl (cy 0, 24, .inl c5)) (b0_36 : zi 0 1 x0_36) (b0_56 : zi 0 30 x0_56) (ha1 : za 0 4 c1) (ha3 : za 0 5 c3) (ha4 : za 0 3 c4) : cMi l yX12_takeRow wq_k_X12_takeRow { frames := 3, cells := 0, slots := 0, locals := 65 } 6 0 0 0 D cy ad g [.ref (ad 0), .int best] (fun r nw lu => ∃ (d5 : Nat → Int32), lu = [(5, .inl (cy 0, 24, .inl d5))]) := by
  refine cM_of (Qc := fun A => cQi (fun r nw lu => ∃ (d5 : Nat → Int32), lu = [(5, .inl (cy 0, 24, .inl d5))]) D 6 0 ad g A) (cc := cX12_takeRow) (maxL := 4) (ret := (some .int)) (by decide) rfl (Nat.le_of_ble_eq_true rfl) ?_
  intro p e s m below meth c A hC hr hlk hnm hO ls hl
  have hC : CallFix p m c cX12_takeRow 4 s [.ref (ad 0), .int best].toArray wq_k_X12_takeRow RX12 := hC
  obtain ⟨hx, hb, hml, hown, hts⟩ := id hC
  have hl : lv_has ls 4 [(0, .ref (ad 0)), (1, .int best)] := hl
  have i_X12 : ∀ w ∈ wsX120, w ∈ wq_k_X12_takeRow := fun w h => List.mem_cons_of_mem _ (List.mem_append_right _ h)
  have hO := hO.notes [(5, .inl (cy 0, 24, .inl c5))] (List.forall_mem_cons.mpr ⟨a5, (fun _ h => absurd h List.not_mem_nil)⟩)
  refine lv_aload_n hx hb ddX12_takeRow_0 rfl (lv_at hl 0 rfl) ?_
  refine cg_Vi (As := []) (rest := []) (mc := 0) (ms := 0) (rm := { frames := 2, cells := 0, slots := 0, locals := 43 }) hC hl.1 hO [0, 1, 2] (by decide +kernel) (k_X12_incomeOf l D cy _ _ (u0_0 := u0_0) (u0_1 := u0_1) (u0_2 := u0_2) (u0_3 := u0_3) (u0_4 := u0_4) (u0_5 := u0_5) (u0_6 := u0_6) (u0_7 := u0_7) (u0_8 := u0_8) (u0_9 := u0_9) (u0_10 := u0_10) (u0_11 := .ref (ad 3)) (c1 := c1) (u0_13 := u0_13) (u0_14 := u0_14) (u0_15 := u0_15) (u0_16 := u0_16) (u0_17 := u0_17) (u0_18 := u0_18) (u0_19 := u0_19) (u0_20 := u0_20) (u0_21 := u0_21) (u0_22 := u0_22) (u0_23 := u0_23) (u0_24 := u0_24) (u0_25 := u0_25) (u0_26 := u0_26) (u0_27 := u0_27) (u0_28 := u0_28) (u0_29 := u0_29) (u0_30 := u0_30) (u0_31 := u0_31) (u0_32 := u0_32) (u0_33 := u0_33) (u0_34 := u0_34) (u0_35 := u0_35) (x0_36 := x0_36) (u0_37 := u0_37) (u0_38 := u0_38) (u0_39 := u0_39) (u0_40 := u0_40) (u0_41 := u0_41) (u0_42 := u0_42) (u0_43 := u0_43) (u0_44 := u0_44) (u0_45 := u0_45) (u0_46 := u0_46) (u0_47 := u0_47) (c2 := c2) (u0_49 := u0_49) (u0_50 := u0_50) (u0_51 := u0_51) (u0_52 := u0_52) (u0_53 := u0_53) (u0_54 := u0_54) (u0_55 := u0_55) (x0_56 := x0_56) (u0_57 := u0_57) (u0_58 := u0_58) (u0_59 := u0_59) (u0_60 := u0_60) (u0_61 := .ref (ad 5)) (u0_62 := u0_62) (u0_63 := u0_63) (u0_64 := .ref (ad 4)) (u0_65 := u0_65) (u0_66 := u0_66) (u0_67 := u0_67) (u0_68 := u0_68) (u0_69 := u0_69) (u0_70 := u0_70) (u0_71 := u0_71) (u0_72 := u0_72) (u0_73 := u0_73) o0 a1 a2 b0_36 b0_56 ha1) gq_k_X12_takeRow_k_X12_incomeOf_421 rfl rfl rfl 0 (by decide +kernel) ⟨Nat.le_of_ble_eq_true rfl, Nat.le_of_ble_eq_true rfl⟩ rfl (by decide) o0 rfl rfl (Nat.le_of_ble_eq_true rfl) ddX12_takeRow_1 ⟨Nat.le_of_ble_eq_true rfl, Nat.le_of_ble_eq_true rfl⟩ (fun r_1_505 nw_1_503 l_1_504 H locs hw hO => ?_)
  obtain rfl := hw
  have hO : cO D cy A s.heap s 6 ad (cup [(5, .inl (cy 0, 24, .inl c5))] g) _ _ := hO
  refine lv_istore_n (lv' := [(2, .int r_1_505), (0, .ref (ad 0)), (1, .int best)]) hx hb ddX12_takeRow_4 rfl hl (by decide) rfl (fun ls hl => ?_)
  refine lv_iload_n hx hb ddX12_takeRow_5 rfl (lv_at hl 2 rfl) ?_
  refine lv_if_lt (tgt := 16) hx hb ddX12_takeRow_6 (by decide) (fun h_6_506 => ?_) (fun h_6_506 => ?_)
  · have q_6_507 := zr_lt h_6_506
    have z_6_508 : zi (-2147483648) (-1) best := zu_lt q_6_507 (zi_all best) (zi_k (a := 0) (b := 0) (x := 0) rfl) (by decide)
    refine lv_iconst (v := 0) hx hb ddX12_takeRow_16 (by decide) ?_
    refine lv_istore_n (lv' := [(3, .int 0), (2, .int r_1_505), (0, .ref (ad 0)), (1, .int best)]) hx hb ddX12_takeRow_17 rfl hl (by decide) rfl (fun ls hl => ?_)
    have loop_18_633 : ∀ (d_18_634 : Nat) (v_18_611 : Int32) (c_18_613 : Nat → Int32), zi 0 5 v_18_611 → za (-2147483648) 2147483647 c_18_613 → (5 + 1 - v_18_611.toInt).toNat < d_18_634 → ∀ (H : Heap) (locs : List Loc), cO D cy A s.heap s 6 ad (cup [(5, .inl (cy 0, 24, .inl c_18_613))] g) H locs → ∀ ls : Array Slot, lv_has ls 4 [(3, .int v_18_611), (2, .int r_1_505), (0, .ref (ad 0)), (1, .int best)] → W p l e { frames := 3, cells := 0, slots := 0, locals := 65 } s m [.ref (ad 0), .int best].toArray below meth c H locs 0 0 (MQ below (cQi (fun r nw lu => ∃ (d5 : Nat → Int32), lu = [(5, .inl (cy 0, 24, .inl d5))]) D 6 0 ad g A) [.ref (ad 0), .int best].toArray s 0 0 A) (F0 m 18 ls [])  := by
      intro d_18_634
      induction d_18_634 with
      | zero => intro v_18_611 c_18_613 z_18_612 zc_18_614 mu_18_635; exact absurd mu_18_635 (Nat.not_lt_zero _)
      | succ d_18_634 ih_18_636 =>
        intro v_18_611 c_18_613 z_18_612 zc_18_614 mu_18_635 H locs hO ls hl
        refine lv_iload_n hx hb ddX12_takeRow_18 rfl (lv_at hl 0 rfl) ?_
        refine lv_aload_n hx hb ddX12_takeRow_19 rfl (lv_at hl 2 rfl) ?_
        refine cg_Vi (As := []) (rest := [.int v_18_611]) (mc := 0) (ms := 0) (rm := { frames := 0, cells := 0, slots := 0, locals := 0 }) hC hl.1 hO [0, 3] (by decide +kernel) (k_X12_birdMany l D cy _ _ (u0_0 := u0_0) (u0_1 := u0_1) (u0_2 := u0_2) (u0_3 := u0_3) (u0_4 := u0_4) (u0_5 := u0_5) (u0_6 := u0_6) (u0_7 := u0_7) (u0_8 := u0_8) (u0_9 := u0_9) (u0_10 := u0_10) (c1 := c3) (u0_12 := .ref (ad 1)) (u0_13 := u0_13) (u0_14 := u0_14) (u0_15 := u0_15) (u0_16 := u0_16) (u0_17 := u0_17) (u0_18 := u0_18) (u0_19 := u0_19) (u0_20 := u0_20) (u0_21 := u0_21) (u0_22 := u0_22) (u0_23 := u0_23) (u0_24 := u0_24) (u0_25 := u0_25) (u0_26 := u0_26) (u0_27 := u0_27) (u0_28 := u0_28) (u0_29 := u0_29) (u0_30 := u0_30) (u0_31 := u0_31) (u0_32 := u0_32) (u0_33 := u0_33) (u0_34 := u0_34) (u0_35 := u0_35) (x0_36 := x0_36) (u0_37 := u0_37) (u0_38 := u0_38) (u0_39 := u0_39) (u0_40 := u0_40) (u0_41 := u0_41) (u0_42 := u0_42) (u0_43 := u0_43) (u0_44 := u0_44) (u0_45 := u0_45) (u0_46 := u0_46) (u0_47 := u0_47) (u0_48 := .ref (ad 2)) (u0_49 := u0_49) (u0_50 := u0_50) (u0_51 := u0_51) (u0_52 := u0_52) (u0_53 := u0_53) (u0_54 := u0_54) (u0_55 := u0_55) (u0_56 := .int x0_56) (u0_57 := u0_57) (u0_58 := u0_58) (u0_59 := u0_59) (u0_60 := u0_60) (u0_61 := .ref (ad 5)) (u0_62 := u0_62) (u0_63 := u0_63) (u0_64 := .ref (ad 4)) (u0_65 := u0_65) (u0_66 := u0_66) (u0_67 := u0_67) (u0_68 := u0_68) (u0_69 := u0_69) (u0_70 := u0_70) (u0_71 := u0_71) (u0_72 := u0_72) (u0_73 := u0_73) o0 a3 b0_36 ha3) gq_k_X12_takeRow_k_X12_birdMany_363 rfl rfl rfl 0 (by decide +kernel) ⟨Nat.le_of_ble_eq_true rfl, Nat.le_of_ble_eq_true rfl⟩ rfl (by decide) o0 rfl rfl (Nat.le_of_ble_eq_true rfl) ddX12_takeRow_20 ⟨Nat.le_of_ble_eq_true rfl, Nat.le_of_ble_eq_true rfl⟩ (fun r_20_639 nw_20_637 l_20_638 H locs hw hO => ?_)
        obtain ⟨z_20_640, el_20_641, rfl⟩ := hw
        have hO : cO D cy A s.heap s 6 ad (cup [(5, .inl (cy 0, 24, .inl c_18_613))] g) _ _ := hO
        refine lv_icmp_ge (tgt := 44) hx hb ddX12_takeRow_23 (by decide) (fun h_23_642 => ?_) (fun h_23_642 => ?_)
        · have q_23_643 := zr_le h_23_642
          refine lv_iload_n hx hb ddX12_takeRow_44 rfl (lv_at hl 1 rfl) ?_
          exact cg_iret (nw := fun _ => 0) hC hr hlk hO.same rfl (Nat.le_of_ble_eq_true rfl) (Nat.le_of_ble_eq_true rfl) (⟨c_18_613, rfl⟩) ddX12_takeRow_45
        · have q_23_644 := zr_nle h_23_642
          have z_23_645 : zi 0 4 v_18_611 := zu_lt q_23_644 z_18_612 z_20_640 (by decide)
          have z_23_646 : zi 1 5 r_20_639 := zd_lt q_23_644 z_18_612 z_20_640 (by decide)
          refine lv_aload_n hx hb ddX12_takeRow_26 rfl (lv_at hl 2 rfl) ?_
          refine cg_get hC hO 0 (by decide) o0 rfl i_X12 61 (by decide) (List.mem_of_getElem? (i := 23) rfl) rfl ddX12_takeRow_27 ?_
          refine lv_iload_n hx hb ddX12_takeRow_30 rfl (lv_at hl 0 rfl) ?_
          refine lv_aload_n hx hb ddX12_takeRow_31 rfl (lv_at hl 2 rfl) ?_
          refine cg_get hC hO 0 (by decide) o0 rfl i_X12 64 (by decide) (List.mem_of_getElem? (i := 24) rfl) rfl ddX12_takeRow_32 ?_
          refine lv_iload_n hx hb ddX12_takeRow_35 rfl (lv_at hl 0 rfl) ?_
          refine zg_iald hC hO 4 (by decide) a4 ha4 (zi_in z_23_645 (by decide)) ddX12_takeRow_36 (fun v_36_647 z_36_648 => ?_)
          refine zg_iast hC hO 5 (by decide) rfl zc_18_614 (zi_w (c := (-2147483648)) (d := 2147483647) z_36_648 (by decide)) (zi_in z_23_645 (by decide)) ddX12_takeRow_37 (fun H locs c_37_649 zc_37_650 hO => ?_)
          have hO : cO D cy A s.heap s 6 ad (cup [(5, .inl (cy 0, 24, .inl c_37_649))] g) _ _ := hO
          obtain ⟨v_38_651, e_38_652, z_38_653, q_38_654⟩ := zi_inc (e := 1) (f := 5) 1 z_23_645 (by decide)
          refine lv_iinc (v := v_38_651) (lv' := [(3, .int v_38_651), (2, .int r_1_505), (0, .ref (ad 0)), (1, .int best)]) hx hb ddX12_takeRow_38 hl (k := 0) rfl e_38_652 (by decide) rfl (fun ls hl => ?_)
          refine lv_goto (tgt := 18) hx hb ddX12_takeRow_41 (by decide) ?_
          exact ih_18_636 v_38_651 c_37_649 (zi_w (c := 0) (d := 5) z_38_653 (by decide)) zc_37_650 (zm_up q_38_654 ((zi_w (c := 0) (d := 5) z_38_653 (by decide))).2 (by decide) mu_18_635) _ _ hO ls (lv_sub hl [0, 1, 2, 3] rfl)
    exact loop_18_633 ((5 + 1 - (0 : Int32).toInt).toNat + 1) 0 c5 (zi_k (a := 0) (b := 5) (x := 0) rfl) (za_all _) (Nat.lt_succ_self _) _ _ hO ls (lv_sub hl [0, 1, 2, 3] rfl)
  · have q_6_655 := zr_nlt h_6_506
    have z_6_656 : zi 0 2147483647 best := zd_le q_6_655 (zi_k (a := 0) (b := 0) (x := 0) rfl) (zi_all best) (by decide)
    refine lv_iload_n hx hb ddX12_takeRow_9 rfl (lv_at hl 0 rfl) ?_
    refine lv_iload_n hx hb ddX12_takeRow_10 rfl (lv_at hl 2 rfl) ?_
    refine lv_icmp_gt (tgt := 16) hx hb ddX12_takeRow_11 (by decide) (fun h_11_657 => ?_) (fun h_11_657 => ?_)
    · have q_11_658 := zr_lt h_11_657
      have z_11_659 : zi 0 2147483646 best := zu_lt q_11_658 z_6_656 (zi_all r_1_505) (by decide)
      have z_11_660 : zi 1 2147483647 r_1_505 := zd_lt q_11_658 z_6_656 (zi_all r_1_505) (by decide)
      refine lv_iconst (v := 0) hx hb ddX12_takeRow_16 (by decide) ?_
      refine lv_istore_n (lv' := [(3, .int 0), (2, .int r_1_505), (0, .ref (ad 0)), (1, .int best)]) hx hb ddX12_takeRow_17 rfl hl (by decide) rfl (fun ls hl => ?_)
      have loop_18_785 : ∀ (d_18_786 : Nat) (v_18_763 : Int32) (c_18_765 : Nat → Int32), zi 0 5 v_18_763 → za (-2147483648) 2147483647 c_18_765 → (5 + 1 - v_18_763.toInt).toNat < d_18_786 → ∀ (H : Heap) (locs : List Loc), cO D cy A s.heap s 6 ad (cup [(5, .inl (cy 0, 24, .inl c_18_765))] g) H locs → ∀ ls : Array Slot, lv_has ls 4 [(3, .int v_18_763), (2, .int r_1_505), (0, .ref (ad 0)), (1, .int best)] → W p l e { frames := 3, cells := 0, slots := 0, locals := 65 } s m [.ref (ad 0), .int best].toArray below meth c H locs 0 0 (MQ below (cQi (fun r nw lu => ∃ (d5 : Nat → Int32), lu = [(5, .inl (cy 0, 24, .inl d5))]) D 6 0 ad g A) [.ref (ad 0), .int best].toArray s 0 0 A) (F0 m 18 ls [])  := by
        intro d_18_786
        induction d_18_786 with
        | zero => intro v_18_763 c_18_765 z_18_764 zc_18_766 mu_18_787; exact absurd mu_18_787 (Nat.not_lt_zero _)
        | succ d_18_786 ih_18_788 =>
          intro v_18_763 c_18_765 z_18_764 zc_18_766 mu_18_787 H locs hO ls hl
          refine lv_iload_n hx hb ddX12_takeRow_18 rfl (lv_at hl 0 rfl) ?_
          refine lv_aload_n hx hb ddX12_takeRow_19 rfl (lv_at hl 2 rfl) ?_
          refine cg_Vi (As := []) (rest := [.int v_18_763]) (mc := 0) (ms := 0) (rm := { frames := 0, cells := 0, slots := 0, locals := 0 }) hC hl.1 hO [0, 3] (by decide +kernel) (k_X12_birdMany l D cy _ _ (u0_0 := u0_0) (u0_1 := u0_1) (u0_2 := u0_2) (u0_3 := u0_3) (u0_4 := u0_4) (u0_5 := u0_5) (u0_6 := u0_6) (u0_7 := u0_7) (u0_8 := u0_8) (u0_9 := u0_9) (u0_10 := u0_10) (c1 := c3) (u0_12 := .ref (ad 1)) (u0_13 := u0_13) (u0_14 := u0_14) (u0_15 := u0_15) (u0_16 := u0_16) (u0_17 := u0_17) (u0_18 := u0_18) (u0_19 := u0_19) (u0_20 := u0_20) (u0_21 := u0_21) (u0_22 := u0_22) (u0_23 := u0_23) (u0_24 := u0_24) (u0_25 := u0_25) (u0_26 := u0_26) (u0_27 := u0_27) (u0_28 := u0_28) (u0_29 := u0_29) (u0_30 := u0_30) (u0_31 := u0_31) (u0_32 := u0_32) (u0_33 := u0_33) (u0_34 := u0_34) (u0_35 := u0_35) (x0_36 := x0_36) (u0_37 := u0_37) (u0_38 := u0_38) (u0_39 := u0_39) (u0_40 := u0_40) (u0_41 := u0_41) (u0_42 := u0_42) (u0_43 := u0_43) (u0_44 := u0_44) (u0_45 := u0_45) (u0_46 := u0_46) (u0_47 := u0_47) (u0_48 := .ref (ad 2)) (u0_49 := u0_49) (u0_50 := u0_50) (u0_51 := u0_51) (u0_52 := u0_52) (u0_53 := u0_53) (u0_54 := u0_54) (u0_55 := u0_55) (u0_56 := .int x0_56) (u0_57 := u0_57) (u0_58 := u0_58) (u0_59 := u0_59) (u0_60 := u0_60) (u0_61 := .ref (ad 5)) (u0_62 := u0_62) (u0_63 := u0_63) (u0_64 := .ref (ad 4)) (u0_65 := u0_65) (u0_66 := u0_66) (u0_67 := u0_67) (u0_68 := u0_68) (u0_69 := u0_69) (u0_70 := u0_70) (u0_71 := u0_71) (u0_72 := u0_72) (u0_73 := u0_73) o0 a3 b0_36 ha3) gq_k_X12_takeRow_k_X12_birdMany_363 rfl rfl rfl 0 (by decide +kernel) ⟨Nat.le_of_ble_eq_true rfl, Nat.le_of_ble_eq_true rfl⟩ rfl (by decide) o0 rfl rfl (Nat.le_of_ble_eq_true rfl) ddX12_takeRow_20 ⟨Nat.le_of_ble_eq_true rfl, Nat.le_of_ble_eq_true rfl⟩ (fun r_20_791 nw_20_789 l_20_790 H locs hw hO => ?_)
          obtain ⟨z_20_792, el_20_793, rfl⟩ := hw
          have hO : cO D cy A s.heap s 6 ad (cup [(5, .inl (cy 0, 24, .inl c_18_765))] g) _ _ := hO
          refine lv_icmp_ge (tgt := 44) hx hb ddX12_takeRow_23 (by decide) (fun h_23_794 => ?_) (fun h_23_794 => ?_)
          · have q_23_795 := zr_le h_23_794
            refine lv_iload_n hx hb ddX12_takeRow_44 rfl (lv_at hl 1 rfl) ?_
            exact cg_iret (nw := fun _ => 0) hC hr hlk hO.same rfl (Nat.le_of_ble_eq_true rfl) (Nat.le_of_ble_eq_true rfl) (⟨c_18_765, rfl⟩) ddX12_takeRow_45
          · have q_23_796 := zr_nle h_23_794
            have z_23_797 : zi 0 4 v_18_763 := zu_lt q_23_796 z_18_764 z_20_792 (by decide)
            have z_23_798 : zi 1 5 r_20_791 := zd_lt q_23_796 z_18_764 z_20_792 (by decide)
            refine lv_aload_n hx hb ddX12_takeRow_26 rfl (lv_at hl 2 rfl) ?_
            refine cg_get hC hO 0 (by decide) o0 rfl i_X12 61 (by decide) (List.mem_of_getElem? (i := 23) rfl) rfl ddX12_takeRow_27 ?_
            refine lv_iload_n hx hb ddX12_takeRow_30 rfl (lv_at hl 0 rfl) ?_
            refine lv_aload_n hx hb ddX12_takeRow_31 rfl (lv_at hl 2 rfl) ?_
            refine cg_get hC hO 0 (by decide) o0 rfl i_X12 64 (by decide) (List.mem_of_getElem? (i := 24) rfl) rfl ddX12_takeRow_32 ?_
            refine lv_iload_n hx hb ddX12_takeRow_35 rfl (lv_at hl 0 rfl) ?_
            refine zg_iald hC hO 4 (by decide) a4 ha4 (zi_in z_23_797 (by decide)) ddX12_takeRow_36 (fun v_36_799 z_36_800 => ?_)
            refine zg_iast hC hO 5 (by decide) rfl zc_18_766 (zi_w (c := (-2147483648)) (d := 2147483647) z_36_800 (by decide)) (zi_in z_23_797 (by decide)) ddX12_takeRow_37 (fun H locs c_37_801 zc_37_802 hO => ?_)
            have hO : cO D cy A s.heap s 6 ad (cup [(5, .inl (cy 0, 24, .inl c_37_801))] g) _ _ := hO
            obtain ⟨v_38_803, e_38_804, z_38_805, q_38_806⟩ := zi_inc (e := 1) (f := 5) 1 z_23_797 (by decide)
            refine lv_iinc (v := v_38_803) (lv' := [(3, .int v_38_803), (2, .int r_1_505), (0, .ref (ad 0)), (1, .int best)]) hx hb ddX12_takeRow_38 hl (k := 0) rfl e_38_804 (by decide) rfl (fun ls hl => ?_)
            refine lv_goto (tgt := 18) hx hb ddX12_takeRow_41 (by decide) ?_
            exact ih_18_788 v_38_803 c_37_801 (zi_w (c := 0) (d := 5) z_38_805 (by decide)) zc_37_802 (zm_up q_38_806 ((zi_w (c := 0) (d := 5) z_38_805 (by decide))).2 (by decide) mu_18_787) _ _ hO ls (lv_sub hl [0, 1, 2, 3] rfl)
      exact loop_18_785 ((5 + 1 - (0 : Int32).toInt).toNat + 1) 0 c5 (zi_k (a := 0) (b := 5) (x := 0) rfl) (za_all _) (Nat.lt_succ_self _) _ _ hO ls (lv_sub hl [0, 1, 2, 3] rfl)
    · have q_11_807 := zr_nlt h_11_657
      refine lv_iload_n hx hb ddX12_takeRow_14 rfl (lv_at hl 2 rfl) ?_
      exact cg_iret (nw := fun _ => 0) hC hr hlk hO.same rfl (Nat.le_of_ble_eq_true rfl) (Nat.le_of_ble_eq_true rfl) (⟨c5, rfl⟩) ddX12_takeRow_15

