theorem ddX12_laySeats_0 : decode cX12_laySeats 0 = .ok (.iconst 0, 1) := by decide +kernel
theorem ddX12_laySeats_1 : decode cX12_laySeats 1 = .ok (.istore_n 1, 1) := by decide +kernel
theorem ddX12_laySeats_2 : decode cX12_laySeats 2 = .ok (.iload_n 1, 1) := by decide +kernel
theorem ddX12_laySeats_3 : decode cX12_laySeats 3 = .ok (.aload_n 0, 1) := by decide +kernel
theorem ddX12_laySeats_4 : decode cX12_laySeats 4 = .ok (.invokevirtual 370, 3) := by decide +kernel
theorem ddX12_laySeats_7 : decode cX12_laySeats 7 = .ok (.if_icmp .ge 73, 3) := by decide +kernel
theorem ddX12_laySeats_10 : decode cX12_laySeats 10 = .ok (.aload_n 0, 1) := by decide +kernel
theorem ddX12_laySeats_11 : decode cX12_laySeats 11 = .ok (.getfield 110, 3) := by decide +kernel
theorem ddX12_laySeats_14 : decode cX12_laySeats 14 = .ok (.iload_n 1, 1) := by decide +kernel
theorem ddX12_laySeats_15 : decode cX12_laySeats 15 = .ok (.aload_n 0, 1) := by decide +kernel
theorem ddX12_laySeats_16 : decode cX12_laySeats 16 = .ok (.getfield 51, 3) := by decide +kernel
theorem ddX12_laySeats_19 : decode cX12_laySeats 19 = .ok (.iconst 4, 1) := by decide +kernel
theorem ddX12_laySeats_20 : decode cX12_laySeats 20 = .ok (.aload_n 0, 1) := by decide +kernel
theorem ddX12_laySeats_21 : decode cX12_laySeats 21 = .ok (.getfield 286, 3) := by decide +kernel
theorem ddX12_laySeats_24 : decode cX12_laySeats 24 = .ok (.imul, 1) := by decide +kernel
theorem ddX12_laySeats_25 : decode cX12_laySeats 25 = .ok (.iload_n 1, 1) := by decide +kernel
theorem ddX12_laySeats_26 : decode cX12_laySeats 26 = .ok (.iadd, 1) := by decide +kernel
theorem ddX12_laySeats_27 : decode cX12_laySeats 27 = .ok (.iaload, 1) := by decide +kernel
theorem ddX12_laySeats_28 : decode cX12_laySeats 28 = .ok (.iastore, 1) := by decide +kernel
theorem ddX12_laySeats_29 : decode cX12_laySeats 29 = .ok (.iconst 0, 1) := by decide +kernel
theorem ddX12_laySeats_30 : decode cX12_laySeats 30 = .ok (.istore_n 2, 1) := by decide +kernel
theorem ddX12_laySeats_31 : decode cX12_laySeats 31 = .ok (.iload_n 2, 1) := by decide +kernel
theorem ddX12_laySeats_32 : decode cX12_laySeats 32 = .ok (.aload_n 0, 1) := by decide +kernel
theorem ddX12_laySeats_33 : decode cX12_laySeats 33 = .ok (.getfield 110, 3) := by decide +kernel
theorem ddX12_laySeats_36 : decode cX12_laySeats 36 = .ok (.iload_n 1, 1) := by decide +kernel
theorem ddX12_laySeats_37 : decode cX12_laySeats 37 = .ok (.iaload, 1) := by decide +kernel
theorem ddX12_laySeats_38 : decode cX12_laySeats 38 = .ok (.if_icmp .ge 36, 3) := by decide +kernel
theorem ddX12_laySeats_41 : decode cX12_laySeats 41 = .ok (.aload_n 0, 1) := by decide +kernel
theorem ddX12_laySeats_42 : decode cX12_laySeats 42 = .ok (.getfield 113, 3) := by decide +kernel
theorem ddX12_laySeats_45 : decode cX12_laySeats 45 = .ok (.iconst 5, 1) := by decide +kernel
theorem ddX12_laySeats_46 : decode cX12_laySeats 46 = .ok (.iload_n 1, 1) := by decide +kernel
theorem ddX12_laySeats_47 : decode cX12_laySeats 47 = .ok (.imul, 1) := by decide +kernel
theorem ddX12_laySeats_48 : decode cX12_laySeats 48 = .ok (.iload_n 2, 1) := by decide +kernel
theorem ddX12_laySeats_49 : decode cX12_laySeats 49 = .ok (.iadd, 1) := by decide +kernel
theorem ddX12_laySeats_50 : decode cX12_laySeats 50 = .ok (.aload_n 0, 1) := by decide +kernel
theorem ddX12_laySeats_51 : decode cX12_laySeats 51 = .ok (.getfield 54, 3) := by decide +kernel
theorem ddX12_laySeats_54 : decode cX12_laySeats 54 = .ok (.iconst 5, 1) := by decide +kernel
theorem ddX12_laySeats_55 : decode cX12_laySeats 55 = .ok (.iconst 4, 1) := by decide +kernel
theorem ddX12_laySeats_56 : decode cX12_laySeats 56 = .ok (.aload_n 0, 1) := by decide +kernel
theorem ddX12_laySeats_57 : decode cX12_laySeats 57 = .ok (.getfield 286, 3) := by decide +kernel
theorem ddX12_laySeats_60 : decode cX12_laySeats 60 = .ok (.imul, 1) := by decide +kernel
theorem ddX12_laySeats_61 : decode cX12_laySeats 61 = .ok (.iload_n 1, 1) := by decide +kernel
theorem ddX12_laySeats_62 : decode cX12_laySeats 62 = .ok (.iadd, 1) := by decide +kernel
theorem ddX12_laySeats_63 : decode cX12_laySeats 63 = .ok (.imul, 1) := by decide +kernel
theorem ddX12_laySeats_64 : decode cX12_laySeats 64 = .ok (.iload_n 2, 1) := by decide +kernel
theorem ddX12_laySeats_65 : decode cX12_laySeats 65 = .ok (.iadd, 1) := by decide +kernel
theorem ddX12_laySeats_66 : decode cX12_laySeats 66 = .ok (.iaload, 1) := by decide +kernel
theorem ddX12_laySeats_67 : decode cX12_laySeats 67 = .ok (.iastore, 1) := by decide +kernel
theorem ddX12_laySeats_68 : decode cX12_laySeats 68 = .ok (.iinc 2 1, 3) := by decide +kernel
theorem ddX12_laySeats_71 : decode cX12_laySeats 71 = .ok (.goto (-40), 3) := by decide +kernel
theorem ddX12_laySeats_74 : decode cX12_laySeats 74 = .ok (.iinc 1 1, 3) := by decide +kernel
theorem ddX12_laySeats_77 : decode cX12_laySeats 77 = .ok (.goto (-75), 3) := by decide +kernel
theorem ddX12_laySeats_80 : decode cX12_laySeats 80 = .ok (.return_, 1) := by decide +kernel
def wq_k_X12_laySeats : List Cond := Cond.code yX12_laySeats cX12_laySeats 3 none :: (([Cond.methodLink RX12 370 yX12_postMany, Cond.instanceMethod yX12_postMany, Cond.selects RX12 yX12_postMany yX12_postMany, Cond.initialized RX12, Cond.code yX12_postMany cX12_postMany 1 (some .int), Cond.fieldLink RX12 24 "CrowTollModel" "posts" "[I", Cond.fieldLink RX12 286 "CrowTollModel" "bank" "I", Cond.fieldLink RX12 110 "CrowTollModel" "dSeatMany" "[I", Cond.fieldLink RX12 51 "CrowTollModel" "seatMany" "[I", Cond.fieldLink RX12 113 "CrowTollModel" "dSeats" "[I", Cond.fieldLink RX12 54 "CrowTollModel" "seatOf" "[I"] : List Cond) ++ wsX120)
set_option maxRecDepth 20000 in
theorem gr_k_X12_laySeats_k_X12_postMany : GoodIn wq_k_X12_laySeats wq_k_X12_postMany := List.forall_mem_cons.mpr ⟨⟨(List.mem_of_getElem? (i := 5) rfl), good_of_word rfl⟩, List.forall_mem_append.mpr ⟨List.forall_mem_cons.mpr ⟨⟨(List.mem_of_getElem? (i := 6) rfl), good_of_word rfl⟩, List.forall_mem_cons.mpr ⟨⟨(List.mem_of_getElem? (i := 7) rfl), good_of_word rfl⟩, (fun _ h => absurd h List.not_mem_nil)⟩⟩, fun w h => ⟨(fun w h => List.mem_cons_of_mem _ (List.mem_append_right _ h)) w h, good_of_word (List.all_eq_true.mp gw_X12 w h)⟩⟩⟩
set_option maxRecDepth 20000 in
theorem gq_k_X12_laySeats_k_X12_postMany_370 : GoodIn wq_k_X12_laySeats (wsV RX12 370 RX12 yX12_postMany wq_k_X12_postMany) := goodIn_app (List.forall_mem_cons.mpr ⟨⟨(List.mem_of_getElem? (i := 1) rfl), good_of_word rfl⟩, List.forall_mem_cons.mpr ⟨⟨(List.mem_of_getElem? (i := 2) rfl), good_of_word rfl⟩, List.forall_mem_cons.mpr ⟨⟨(List.mem_of_getElem? (i := 3) rfl), good_of_word rfl⟩, List.forall_mem_cons.mpr ⟨⟨(List.mem_of_getElem? (i := 4) rfl), good_of_word rfl⟩, (fun _ h => absurd h List.not_mem_nil)⟩⟩⟩⟩) gr_k_X12_laySeats_k_X12_postMany
set_option maxHeartbeats 8000000 in
set_option maxRecDepth 100000 in
theorem k_X12_laySeats (l : Launch) (D : va_G) (cy : Nat → ClassId) (ad : Nat → Nat) (g : Nat → va_E) {u0_0 : Value} {u0_1 : Value} {u0_2 : Value} {u0_3 : Value} {u0_4 : Value} {u0_5 : Value} {u0_6 : Value} {u0_7 : Value} {u0_8 : Value} {u0_9 : Value} {u0_10 : Value} {u0_11 : Value} {u0_13 : Value} {u0_14 : Value} {u0_15 : Value} {u0_16 : Value} {u0_17 : Value} {u0_18 : Value} {u0_19 : Value} {u0_20 : Value} {u0_23 : Value} {u0_24 : Value} {u0_25 : Value} {u0_26 : Value} {u0_27 : Value} {u0_28 : Value} {u0_29 : Value} {u0_30 : Value} {u0_31 : Value} {u0_32 : Value} {u0_33 : Value} {u0_34 : Value} {u0_35 : Value} {x0_36 : Int32} {u0_37 : Value} {u0_38 : Value} {u0_39 : Value} {u0_40 : Value} {u0_41 : Value} {u0_42 : Value} {u0_43 : Value} {u0_44 : Value} {u0_47 : Value} {u0_48 : Value} {u0_49 : Value} {u0_50 : Value} {u0_51 : Value} {u0_52 : Value} {u0_53 : Value} {u0_54 : Value} {u0_55 : Value} {u0_56 : Value} {u0_57 : Value} {u0_58 : Value} {u0_59 : Value} {u0_60 : Value} {u0_61 : Value} {u0_62 : Value} {u0_63 : Value} {u0_64 : Value} {u0_65 : Value} {u0_66 : Value} {u0_67 : Value} {u0_68 : Value} {u0_69 : Value} {u0_70 : Value} {u0_71 : Value} {u0_72 : Value} {u0_73 : Value} {c1 : Nat → Int32} {c2 : Nat → Int32} {c3 : Nat → Int32} {c4 : Nat → Int32} {c5 : Nat → Int32} (o0 : g 0 = .inr (12, [u0_0, u0_1, u0_2, u0_3, u0_4, u0_5, u0_6, u0_7, u0_8, u0_9, u0_10, u0_11, .ref (ad 1), u0_13, u0_14, u0_15, u0_16, u0_17, u0_18, u0_19, u0_20, .ref (ad 2), .ref (ad 4), u0_23, u0_24, u0_25, u0_26, u0_27, u0_28, u0_29, u0_30, u0_31, u0_32, u0_33, u0_34, u0_35, .int x0_36, u0_37, u0_38, u0_39, u0_40, u0_41, u0_42, u0_43, u0_44, .ref (ad 3), .ref (ad 5), u0_47, u0_48, u0_49, u0_50, u0_51, u0_52, u0_53, u0_54, u0_55, u0_56, u0_57, u0_58, u0_59, u0_60, u0_61, u0_62, u0_63, u0_64, u0_65, u0_66, u0_67, u0_68, u0_69, u0_70, u0_71, u0_72, u0_73])) (a1 : g 1 = .inl (cy 0, 2, .inl c1)) (a2 : g 2 = .inl (cy 0, 8, .inl c2)) (a3 : g 3 = .inl (cy 0, 4, .inl c3)) (a4 : g 4 = .inl (cy 0, 40, .inl c4)) (a5 : g 5 = .inl (cy 0, 20, .inl c5)) (b0_36 : zi 0 1 x0_36) (ha1 : za 0 4 c1) (ha2 : za 0 5 c2) (ha3 : za 0 5 c3) (ha4 : za 0 4 c4) (ha5 : za 0 4 c5) : cMv l yX12_laySeats wq_k_X12_laySeats { frames := 1, cells := 0, slots := 0, locals := 20 } 6 0 0 0 D cy ad g [.ref (ad 0)] (fun nw lu => ∃ (d3 : Nat → Int32) (d5 : Nat → Int32), (za 0 5 d3) ∧ (za 0 4 d5) ∧ (lu = [(3, .inl (cy 0, 4, .inl d3)), (5, .inl (cy 0, 20, .inl d5))])) := by
  refine cM_of (Qc := fun A => cQv (fun nw lu => ∃ (d3 : Nat → Int32) (d5 : Nat → Int32), (za 0 5 d3) ∧ (za 0 4 d5) ∧ (lu = [(3, .inl (cy 0, 4, .inl d3)), (5, .inl (cy 0, 20, .inl d5))])) D 6 0 ad g A) (cc := cX12_laySeats) (maxL := 3) (ret := none) (by decide) rfl (Nat.le_of_ble_eq_true rfl) ?_
  intro p e s m below meth c A hC hr hlk hnm hO ls hl
  have hC : CallFix p m c cX12_laySeats 3 s [.ref (ad 0)].toArray wq_k_X12_laySeats RX12 := hC
  obtain ⟨hx, hb, hml, hown, hts⟩ := id hC
  have hl : lv_has ls 3 [(0, .ref (ad 0))] := hl
  have i_X12 : ∀ w ∈ wsX120, w ∈ wq_k_X12_laySeats := fun w h => List.mem_cons_of_mem _ (List.mem_append_right _ h)
  have hO := hO.notes [(3, .inl (cy 0, 4, .inl c3)), (5, .inl (cy 0, 20, .inl c5))] (List.forall_mem_cons.mpr ⟨a3, List.forall_mem_cons.mpr ⟨a5, (fun _ h => absurd h List.not_mem_nil)⟩⟩)
  refine lv_iconst (v := 0) hx hb ddX12_laySeats_0 (by decide) ?_
  refine lv_istore_n (lv' := [(1, .int 0), (0, .ref (ad 0))]) hx hb ddX12_laySeats_1 rfl hl (by decide) rfl (fun ls hl => ?_)
  have loop_2_8861 : ∀ (d_2_8862 : Nat) (v_2_8350 : Int32) (c_2_8352 : Nat → Int32) (c_2_8354 : Nat → Int32), zi 0 4 v_2_8350 → za 0 5 c_2_8352 → za 0 4 c_2_8354 → (4 + 1 - v_2_8350.toInt).toNat < d_2_8862 → ∀ (H : Heap) (locs : List Loc), cO D cy A s.heap s 6 ad (cup [(3, .inl (cy 0, 4, .inl c_2_8352)), (5, .inl (cy 0, 20, .inl c_2_8354))] g) H locs → ∀ ls : Array Slot, lv_has ls 3 [(1, .int v_2_8350), (0, .ref (ad 0))] → W p l e { frames := 1, cells := 0, slots := 0, locals := 20 } s m [.ref (ad 0)].toArray below meth c H locs 0 0 (MQ below (cQv (fun nw lu => ∃ (d3 : Nat → Int32) (d5 : Nat → Int32), (za 0 5 d3) ∧ (za 0 4 d5) ∧ (lu = [(3, .inl (cy 0, 4, .inl d3)), (5, .inl (cy 0, 20, .inl d5))])) D 6 0 ad g A) [.ref (ad 0)].toArray s 0 0 A) (F0 m 2 ls [])  := by
    intro d_2_8862
    induction d_2_8862 with
    | zero => intro v_2_8350 c_2_8352 c_2_8354 z_2_8351 zc_2_8353 zc_2_8355 mu_2_8863; exact absurd mu_2_8863 (Nat.not_lt_zero _)
    | succ d_2_8862 ih_2_8864 =>
      intro v_2_8350 c_2_8352 c_2_8354 z_2_8351 zc_2_8353 zc_2_8355 mu_2_8863 H locs hO ls hl
      refine lv_iload_n hx hb ddX12_laySeats_2 rfl (lv_at hl 0 rfl) ?_
      refine lv_aload_n hx hb ddX12_laySeats_3 rfl (lv_at hl 1 rfl) ?_
      refine cg_Vi (As := []) (rest := [.int v_2_8350]) (mc := 0) (ms := 0) (rm := { frames := 0, cells := 0, slots := 0, locals := 0 }) hC hl.1 hO [0, 1] (by decide +kernel) (k_X12_postMany l D cy _ _ (u0_0 := u0_0) (u0_1 := u0_1) (u0_2 := u0_2) (u0_3 := u0_3) (u0_4 := u0_4) (u0_5 := u0_5) (u0_6 := u0_6) (u0_7 := u0_7) (u0_8 := u0_8) (u0_9 := u0_9) (u0_10 := u0_10) (u0_11 := u0_11) (c1 := c1) (u0_13 := u0_13) (u0_14 := u0_14) (u0_15 := u0_15) (u0_16 := u0_16) (u0_17 := u0_17) (u0_18 := u0_18) (u0_19 := u0_19) (u0_20 := u0_20) (u0_21 := .ref (ad 2)) (u0_22 := .ref (ad 4)) (u0_23 := u0_23) (u0_24 := u0_24) (u0_25 := u0_25) (u0_26 := u0_26) (u0_27 := u0_27) (u0_28 := u0_28) (u0_29 := u0_29) (u0_30 := u0_30) (u0_31 := u0_31) (u0_32 := u0_32) (u0_33 := u0_33) (u0_34 := u0_34) (u0_35 := u0_35) (x0_36 := x0_36) (u0_37 := u0_37) (u0_38 := u0_38) (u0_39 := u0_39) (u0_40 := u0_40) (u0_41 := u0_41) (u0_42 := u0_42) (u0_43 := u0_43) (u0_44 := u0_44) (u0_45 := .ref (ad 3)) (u0_46 := .ref (ad 5)) (u0_47 := u0_47) (u0_48 := u0_48) (u0_49 := u0_49) (u0_50 := u0_50) (u0_51 := u0_51) (u0_52 := u0_52) (u0_53 := u0_53) (u0_54 := u0_54) (u0_55 := u0_55) (u0_56 := u0_56) (u0_57 := u0_57) (u0_58 := u0_58) (u0_59 := u0_59) (u0_60 := u0_60) (u0_61 := u0_61) (u0_62 := u0_62) (u0_63 := u0_63) (u0_64 := u0_64) (u0_65 := u0_65) (u0_66 := u0_66) (u0_67 := u0_67) (u0_68 := u0_68) (u0_69 := u0_69) (u0_70 := u0_70) (u0_71 := u0_71) (u0_72 := u0_72) (u0_73 := u0_73) o0 a1 b0_36 ha1) gq_k_X12_laySeats_k_X12_postMany_370 rfl rfl rfl 0 (by decide +kernel) ⟨Nat.le_of_ble_eq_true rfl, Nat.le_of_ble_eq_true rfl⟩ rfl (by decide) o0 rfl rfl (Nat.le_of_ble_eq_true rfl) ddX12_laySeats_4 ⟨Nat.le_of_ble_eq_true rfl, Nat.le_of_ble_eq_true rfl⟩ (fun r_4_8867 nw_4_8865 l_4_8866 H locs hw hO => ?_)
      obtain ⟨z_4_8868, el_4_8869, rfl⟩ := hw
      have hO : cO D cy A s.heap s 6 ad (cup [(3, .inl (cy 0, 4, .inl c_2_8352)), (5, .inl (cy 0, 20, .inl c_2_8354))] g) _ _ := hO
      refine lv_icmp_ge (tgt := 80) hx hb ddX12_laySeats_7 (by decide) (fun h_7_8870 => ?_) (fun h_7_8870 => ?_)
      · have q_7_8871 := zr_le h_7_8870
        exact cg_vret (nw := fun _ => 0) hC hr hlk hO.same (Nat.le_of_ble_eq_true rfl) (Nat.le_of_ble_eq_true rfl) (⟨c_2_8352, c_2_8354, zc_2_8353, zc_2_8355, rfl⟩) ddX12_laySeats_80
      · have q_7_8872 := zr_nle h_7_8870
        have z_7_8873 : zi 0 3 v_2_8350 := zu_lt q_7_8872 z_2_8351 z_4_8868 (by decide)
        have z_7_8874 : zi 1 4 r_4_8867 := zd_lt q_7_8872 z_2_8351 z_4_8868 (by decide)
        refine lv_aload_n hx hb ddX12_laySeats_10 rfl (lv_at hl 1 rfl) ?_
        refine cg_get hC hO 0 (by decide) o0 rfl i_X12 45 (by decide) (List.mem_of_getElem? (i := 8) rfl) rfl ddX12_laySeats_11 ?_
        refine lv_iload_n hx hb ddX12_laySeats_14 rfl (lv_at hl 0 rfl) ?_
        refine lv_aload_n hx hb ddX12_laySeats_15 rfl (lv_at hl 1 rfl) ?_
        refine cg_get hC hO 0 (by decide) o0 rfl i_X12 21 (by decide) (List.mem_of_getElem? (i := 9) rfl) rfl ddX12_laySeats_16 ?_
        refine lv_iconst (v := 4) hx hb ddX12_laySeats_19 (by decide) ?_
        refine lv_aload_n hx hb ddX12_laySeats_20 rfl (lv_at hl 1 rfl) ?_
        refine cg_get hC hO 0 (by decide) o0 rfl i_X12 36 (by decide) (List.mem_of_getElem? (i := 7) rfl) rfl ddX12_laySeats_21 ?_
        refine lv_imul hx hb ddX12_laySeats_24 ?_
        refine zg_top2 (P := fun v => zi 0 4 v) (E := fun v => v.toInt = 4 * (x0_36 : Int32).toInt) (zi_mulk (zi_k (a := 4) (b := 4) (x := 4) rfl) b0_36 (n := 4) (by decide) (by decide)) (fun v_24_8875 z_24_8876 q_24_8877 => ?_)
        refine lv_iload_n hx hb ddX12_laySeats_25 rfl (lv_at hl 0 rfl) ?_
        refine lv_iadd hx hb ddX12_laySeats_26 ?_
        refine zg_top2 (P := fun v => zi 0 7 v) (E := fun v => v.toInt = (v_24_8875 : Int32).toInt + (v_2_8350 : Int32).toInt) (zi_add z_24_8876 z_7_8873 (by decide)) (fun v_26_8878 z_26_8879 q_26_8880 => ?_)
        refine zg_iald hC hO 2 (by decide) a2 ha2 (zi_in z_26_8879 (by decide)) ddX12_laySeats_27 (fun v_27_8881 z_27_8882 => ?_)
        refine zg_iast hC hO 3 (by decide) rfl zc_2_8353 z_27_8882 (zi_in z_7_8873 (by decide)) ddX12_laySeats_28 (fun H locs c_28_8883 zc_28_8884 hO => ?_)
        have hO : cO D cy A s.heap s 6 ad (cup [(3, .inl (cy 0, 4, .inl c_28_8883)), (5, .inl (cy 0, 20, .inl c_2_8354))] g) _ _ := hO
        refine lv_iconst (v := 0) hx hb ddX12_laySeats_29 (by decide) ?_
        refine lv_istore_n (lv' := [(2, .int 0), (1, .int v_2_8350), (0, .ref (ad 0))]) hx hb ddX12_laySeats_30 rfl hl (by decide) rfl (fun ls hl => ?_)
        have loop_31_9370 : ∀ (d_31_9371 : Nat) (v_31_9299 : Int32) (c_31_9301 : Nat → Int32), zi 0 5 v_31_9299 → za 0 4 c_31_9301 → (5 + 1 - v_31_9299.toInt).toNat < d_31_9371 → ∀ (H : Heap) (locs : List Loc), cO D cy A s.heap s 6 ad (cup [(3, .inl (cy 0, 4, .inl c_28_8883)), (5, .inl (cy 0, 20, .inl c_31_9301))] g) H locs → ∀ ls : Array Slot, lv_has ls 3 [(2, .int v_31_9299), (1, .int v_2_8350), (0, .ref (ad 0))] → W p l e { frames := 1, cells := 0, slots := 0, locals := 20 } s m [.ref (ad 0)].toArray below meth c H locs 0 0 (MQ below (cQv (fun nw lu => ∃ (d3 : Nat → Int32) (d5 : Nat → Int32), (za 0 5 d3) ∧ (za 0 4 d5) ∧ (lu = [(3, .inl (cy 0, 4, .inl d3)), (5, .inl (cy 0, 20, .inl d5))])) D 6 0 ad g A) [.ref (ad 0)].toArray s 0 0 A) (F0 m 31 ls [])  := by
          intro d_31_9371
          induction d_31_9371 with
          | zero => intro v_31_9299 c_31_9301 z_31_9300 zc_31_9302 mu_31_9372; exact absurd mu_31_9372 (Nat.not_lt_zero _)
          | succ d_31_9371 ih_31_9373 =>
            intro v_31_9299 c_31_9301 z_31_9300 zc_31_9302 mu_31_9372 H locs hO ls hl
            refine lv_iload_n hx hb ddX12_laySeats_31 rfl (lv_at hl 0 rfl) ?_
            refine lv_aload_n hx hb ddX12_laySeats_32 rfl (lv_at hl 2 rfl) ?_
            refine cg_get hC hO 0 (by decide) o0 rfl i_X12 45 (by decide) (List.mem_of_getElem? (i := 8) rfl) rfl ddX12_laySeats_33 ?_
            refine lv_iload_n hx hb ddX12_laySeats_36 rfl (lv_at hl 1 rfl) ?_
            refine zg_iald hC hO 3 (by decide) rfl zc_28_8884 (zi_in z_7_8873 (by decide)) ddX12_laySeats_37 (fun v_37_9374 z_37_9375 => ?_)
            refine lv_icmp_ge (tgt := 74) hx hb ddX12_laySeats_38 (by decide) (fun h_38_9376 => ?_) (fun h_38_9376 => ?_)
            · have q_38_9407 := zr_le h_38_9376
              obtain ⟨v_74_9408, e_74_9409, z_74_9410, q_74_9411⟩ := zi_inc (e := 1) (f := 4) 1 z_7_8873 (by decide)
              refine lv_iinc (v := v_74_9408) (lv' := [(1, .int v_74_9408), (2, .int v_31_9299), (0, .ref (ad 0))]) hx hb ddX12_laySeats_74 hl (k := 1) rfl e_74_9409 (by decide) rfl (fun ls hl => ?_)
              refine lv_goto (tgt := 2) hx hb ddX12_laySeats_77 (by decide) ?_
              exact ih_2_8864 v_74_9408 c_28_8883 c_31_9301 (zi_w (c := 0) (d := 4) z_74_9410 (by decide)) zc_28_8884 zc_31_9302 (zm_up q_74_9411 ((zi_w (c := 0) (d := 4) z_74_9410 (by decide))).2 (by decide) mu_2_8863) _ _ hO ls (lv_sub hl [0, 2] rfl)
            · have q_38_9412 := zr_nle h_38_9376
              have z_38_9413 : zi 0 4 v_31_9299 := zu_lt q_38_9412 z_31_9300 z_37_9375 (by decide)
              have z_38_9414 : zi 1 5 v_37_9374 := zd_lt q_38_9412 z_31_9300 z_37_9375 (by decide)
              refine lv_aload_n hx hb ddX12_laySeats_41 rfl (lv_at hl 2 rfl) ?_
              refine cg_get hC hO 0 (by decide) o0 rfl i_X12 46 (by decide) (List.mem_of_getElem? (i := 10) rfl) rfl ddX12_laySeats_42 ?_
              refine lv_iconst (v := 5) hx hb ddX12_laySeats_45 (by decide) ?_
              refine lv_iload_n hx hb ddX12_laySeats_46 rfl (lv_at hl 1 rfl) ?_
              refine lv_imul hx hb ddX12_laySeats_47 ?_
              refine zg_top2 (P := fun v => zi 0 15 v) (E := fun v => v.toInt = 5 * (v_2_8350 : Int32).toInt) (zi_mulk (zi_k (a := 5) (b := 5) (x := 5) rfl) z_7_8873 (n := 5) (by decide) (by decide)) (fun v_47_9415 z_47_9416 q_47_9417 => ?_)
              refine lv_iload_n hx hb ddX12_laySeats_48 rfl (lv_at hl 0 rfl) ?_
              refine lv_iadd hx hb ddX12_laySeats_49 ?_
              refine zg_top2 (P := fun v => zi 0 19 v) (E := fun v => v.toInt = (v_47_9415 : Int32).toInt + (v_31_9299 : Int32).toInt) (zi_add z_47_9416 z_38_9413 (by decide)) (fun v_49_9418 z_49_9419 q_49_9420 => ?_)
              refine lv_aload_n hx hb ddX12_laySeats_50 rfl (lv_at hl 2 rfl) ?_
              refine cg_get hC hO 0 (by decide) o0 rfl i_X12 22 (by decide) (List.mem_of_getElem? (i := 11) rfl) rfl ddX12_laySeats_51 ?_
              refine lv_iconst (v := 5) hx hb ddX12_laySeats_54 (by decide) ?_
              refine lv_iconst (v := 4) hx hb ddX12_laySeats_55 (by decide) ?_
              refine lv_aload_n hx hb ddX12_laySeats_56 rfl (lv_at hl 2 rfl) ?_
              refine cg_get hC hO 0 (by decide) o0 rfl i_X12 36 (by decide) (List.mem_of_getElem? (i := 7) rfl) rfl ddX12_laySeats_57 ?_
              refine lv_imul hx hb ddX12_laySeats_60 ?_
              refine zg_top2 (P := fun v => zi 0 4 v) (E := fun v => v.toInt = 4 * (x0_36 : Int32).toInt) (zi_mulk (zi_k (a := 4) (b := 4) (x := 4) rfl) b0_36 (n := 4) (by decide) (by decide)) (fun v_60_9421 z_60_9422 q_60_9423 => ?_)
              refine lv_iload_n hx hb ddX12_laySeats_61 rfl (lv_at hl 1 rfl) ?_
              refine lv_iadd hx hb ddX12_laySeats_62 ?_
              refine zg_top2 (P := fun v => zi 0 7 v) (E := fun v => v.toInt = (v_60_9421 : Int32).toInt + (v_2_8350 : Int32).toInt) (zi_add z_60_9422 z_7_8873 (by decide)) (fun v_62_9424 z_62_9425 q_62_9426 => ?_)
              refine lv_imul hx hb ddX12_laySeats_63 ?_
              refine zg_top2 (P := fun v => zi 0 35 v) (E := fun v => v.toInt = 5 * (v_62_9424 : Int32).toInt) (zi_mulk (zi_k (a := 5) (b := 5) (x := 5) rfl) z_62_9425 (n := 5) (by decide) (by decide)) (fun v_63_9427 z_63_9428 q_63_9429 => ?_)
              refine lv_iload_n hx hb ddX12_laySeats_64 rfl (lv_at hl 0 rfl) ?_
              refine lv_iadd hx hb ddX12_laySeats_65 ?_
              refine zg_top2 (P := fun v => zi 0 39 v) (E := fun v => v.toInt = (v_63_9427 : Int32).toInt + (v_31_9299 : Int32).toInt) (zi_add z_63_9428 z_38_9413 (by decide)) (fun v_65_9430 z_65_9431 q_65_9432 => ?_)
              refine zg_iald hC hO 4 (by decide) a4 ha4 (zi_in z_65_9431 (by decide)) ddX12_laySeats_66 (fun v_66_9433 z_66_9434 => ?_)
              refine zg_iast hC hO 5 (by decide) rfl zc_31_9302 z_66_9434 (zi_in z_49_9419 (by decide)) ddX12_laySeats_67 (fun H locs c_67_9435 zc_67_9436 hO => ?_)
              have hO : cO D cy A s.heap s 6 ad (cup [(3, .inl (cy 0, 4, .inl c_28_8883)), (5, .inl (cy 0, 20, .inl c_67_9435))] g) _ _ := hO
              obtain ⟨v_68_9437, e_68_9438, z_68_9439, q_68_9440⟩ := zi_inc (e := 1) (f := 5) 1 z_38_9413 (by decide)
              refine lv_iinc (v := v_68_9437) (lv' := [(2, .int v_68_9437), (1, .int v_2_8350), (0, .ref (ad 0))]) hx hb ddX12_laySeats_68 hl (k := 0) rfl e_68_9438 (by decide) rfl (fun ls hl => ?_)
              refine lv_goto (tgt := 31) hx hb ddX12_laySeats_71 (by decide) ?_
              exact ih_31_9373 v_68_9437 c_67_9435 (zi_w (c := 0) (d := 5) z_68_9439 (by decide)) zc_67_9436 (zm_up q_68_9440 ((zi_w (c := 0) (d := 5) z_68_9439 (by decide))).2 (by decide) mu_31_9372) _ _ hO ls (lv_sub hl [0, 1, 2] rfl)
        exact loop_31_9370 ((5 + 1 - (0 : Int32).toInt).toNat + 1) 0 c_2_8354 (zi_k (a := 0) (b := 5) (x := 0) rfl) zc_2_8355 (Nat.lt_succ_self _) _ _ hO ls (lv_sub hl [0, 1, 2] rfl)
  exact loop_2_8861 ((4 + 1 - (0 : Int32).toInt).toNat + 1) 0 c3 c5 (zi_k (a := 0) (b := 4) (x := 0) rfl) ha3 ha5 (Nat.lt_succ_self _) _ _ hO ls (lv_sub hl [0, 1] rfl)

theorem ddX12_layDay_0 : decode cX12_layDay 0 = .ok (.aload_n 0, 1) := by decide +kernel
theorem ddX12_layDay_1 : decode cX12_layDay 1 = .ok (.aload_n 0, 1) := by decide +kernel
theorem ddX12_layDay_2 : decode cX12_layDay 2 = .ok (.getfield 98, 3) := by decide +kernel
theorem ddX12_layDay_5 : decode cX12_layDay 5 = .ok (.iconst 0, 1) := by decide +kernel
theorem ddX12_layDay_6 : decode cX12_layDay 6 = .ok (.iaload, 1) := by decide +kernel
theorem ddX12_layDay_7 : decode cX12_layDay 7 = .ok (.putfield 379, 3) := by decide +kernel
theorem ddX12_layDay_10 : decode cX12_layDay 10 = .ok (.aload_n 0, 1) := by decide +kernel
theorem ddX12_layDay_11 : decode cX12_layDay 11 = .ok (.sipush 10000, 3) := by decide +kernel
theorem ddX12_layDay_14 : decode cX12_layDay 14 = .ok (.putfield 382, 3) := by decide +kernel
theorem ddX12_layDay_17 : decode cX12_layDay 17 = .ok (.iconst 0, 1) := by decide +kernel
theorem ddX12_layDay_18 : decode cX12_layDay 18 = .ok (.istore_n 1, 1) := by decide +kernel
theorem ddX12_layDay_19 : decode cX12_layDay 19 = .ok (.iload_n 1, 1) := by decide +kernel
theorem ddX12_layDay_20 : decode cX12_layDay 20 = .ok (.aload_n 0, 1) := by decide +kernel
theorem ddX12_layDay_21 : decode cX12_layDay 21 = .ok (.getfield 379, 3) := by decide +kernel
theorem ddX12_layDay_24 : decode cX12_layDay 24 = .ok (.if_icmp .ge 62, 3) := by decide +kernel
theorem ddX12_layDay_27 : decode cX12_layDay 27 = .ok (.aload_n 0, 1) := by decide +kernel
theorem ddX12_layDay_28 : decode cX12_layDay 28 = .ok (.getfield 101, 3) := by decide +kernel
theorem ddX12_layDay_31 : decode cX12_layDay 31 = .ok (.iload_n 1, 1) := by decide +kernel
theorem ddX12_layDay_32 : decode cX12_layDay 32 = .ok (.aload_n 0, 1) := by decide +kernel
theorem ddX12_layDay_33 : decode cX12_layDay 33 = .ok (.getfield 98, 3) := by decide +kernel
theorem ddX12_layDay_36 : decode cX12_layDay 36 = .ok (.iconst 1, 1) := by decide +kernel
theorem ddX12_layDay_37 : decode cX12_layDay 37 = .ok (.iload_n 1, 1) := by decide +kernel
theorem ddX12_layDay_38 : decode cX12_layDay 38 = .ok (.iadd, 1) := by decide +kernel
theorem ddX12_layDay_39 : decode cX12_layDay 39 = .ok (.iaload, 1) := by decide +kernel
theorem ddX12_layDay_40 : decode cX12_layDay 40 = .ok (.iastore, 1) := by decide +kernel
theorem ddX12_layDay_41 : decode cX12_layDay 41 = .ok (.aload_n 0, 1) := by decide +kernel
theorem ddX12_layDay_42 : decode cX12_layDay 42 = .ok (.getfield 104, 3) := by decide +kernel
theorem ddX12_layDay_45 : decode cX12_layDay 45 = .ok (.iload_n 1, 1) := by decide +kernel
theorem ddX12_layDay_46 : decode cX12_layDay 46 = .ok (.aload_n 0, 1) := by decide +kernel
theorem ddX12_layDay_47 : decode cX12_layDay 47 = .ok (.getfield 98, 3) := by decide +kernel
theorem ddX12_layDay_50 : decode cX12_layDay 50 = .ok (.bipush 25, 2) := by decide +kernel
theorem ddX12_layDay_52 : decode cX12_layDay 52 = .ok (.iload_n 1, 1) := by decide +kernel
theorem ddX12_layDay_53 : decode cX12_layDay 53 = .ok (.iadd, 1) := by decide +kernel
theorem ddX12_layDay_54 : decode cX12_layDay 54 = .ok (.iaload, 1) := by decide +kernel
theorem ddX12_layDay_55 : decode cX12_layDay 55 = .ok (.iastore, 1) := by decide +kernel
theorem ddX12_layDay_56 : decode cX12_layDay 56 = .ok (.aload_n 0, 1) := by decide +kernel
theorem ddX12_layDay_57 : decode cX12_layDay 57 = .ok (.getfield 137, 3) := by decide +kernel
theorem ddX12_layDay_60 : decode cX12_layDay 60 = .ok (.iload_n 1, 1) := by decide +kernel
theorem ddX12_layDay_61 : decode cX12_layDay 61 = .ok (.aload_n 0, 1) := by decide +kernel
theorem ddX12_layDay_62 : decode cX12_layDay 62 = .ok (.getfield 98, 3) := by decide +kernel
theorem ddX12_layDay_65 : decode cX12_layDay 65 = .ok (.bipush 49, 2) := by decide +kernel
theorem ddX12_layDay_67 : decode cX12_layDay 67 = .ok (.iload_n 1, 1) := by decide +kernel
theorem ddX12_layDay_68 : decode cX12_layDay 68 = .ok (.iadd, 1) := by decide +kernel
theorem ddX12_layDay_69 : decode cX12_layDay 69 = .ok (.iaload, 1) := by decide +kernel
theorem ddX12_layDay_70 : decode cX12_layDay 70 = .ok (.iconst 1, 1) := by decide +kernel
theorem ddX12_layDay_71 : decode cX12_layDay 71 = .ok (.if_icmp .ne 7, 3) := by decide +kernel
theorem ddX12_layDay_74 : decode cX12_layDay 74 = .ok (.iconst 1, 1) := by decide +kernel
theorem ddX12_layDay_75 : decode cX12_layDay 75 = .ok (.goto 4, 3) := by decide +kernel
theorem ddX12_layDay_78 : decode cX12_layDay 78 = .ok (.iconst 0, 1) := by decide +kernel
theorem ddX12_layDay_79 : decode cX12_layDay 79 = .ok (.bastore, 1) := by decide +kernel
theorem ddX12_layDay_80 : decode cX12_layDay 80 = .ok (.iinc 1 1, 3) := by decide +kernel
theorem ddX12_layDay_83 : decode cX12_layDay 83 = .ok (.goto (-64), 3) := by decide +kernel
theorem ddX12_layDay_86 : decode cX12_layDay 86 = .ok (.iconst 0, 1) := by decide +kernel
theorem ddX12_layDay_87 : decode cX12_layDay 87 = .ok (.istore_n 1, 1) := by decide +kernel
theorem ddX12_layDay_88 : decode cX12_layDay 88 = .ok (.iload_n 1, 1) := by decide +kernel
theorem ddX12_layDay_89 : decode cX12_layDay 89 = .ok (.iconst 5, 1) := by decide +kernel
theorem ddX12_layDay_90 : decode cX12_layDay 90 = .ok (.if_icmp .ge 24, 3) := by decide +kernel
theorem ddX12_layDay_93 : decode cX12_layDay 93 = .ok (.aload_n 0, 1) := by decide +kernel
theorem ddX12_layDay_94 : decode cX12_layDay 94 = .ok (.getfield 107, 3) := by decide +kernel
theorem ddX12_layDay_97 : decode cX12_layDay 97 = .ok (.iload_n 1, 1) := by decide +kernel
theorem ddX12_layDay_98 : decode cX12_layDay 98 = .ok (.aload_n 0, 1) := by decide +kernel
theorem ddX12_layDay_99 : decode cX12_layDay 99 = .ok (.getfield 98, 3) := by decide +kernel
theorem ddX12_layDay_102 : decode cX12_layDay 102 = .ok (.bipush 73, 2) := by decide +kernel
theorem ddX12_layDay_104 : decode cX12_layDay 104 = .ok (.iload_n 1, 1) := by decide +kernel
theorem ddX12_layDay_105 : decode cX12_layDay 105 = .ok (.iadd, 1) := by decide +kernel
theorem ddX12_layDay_106 : decode cX12_layDay 106 = .ok (.iaload, 1) := by decide +kernel
theorem ddX12_layDay_107 : decode cX12_layDay 107 = .ok (.iastore, 1) := by decide +kernel
theorem ddX12_layDay_108 : decode cX12_layDay 108 = .ok (.iinc 1 1, 3) := by decide +kernel
theorem ddX12_layDay_111 : decode cX12_layDay 111 = .ok (.goto (-23), 3) := by decide +kernel
theorem ddX12_layDay_114 : decode cX12_layDay 114 = .ok (.aload_n 0, 1) := by decide +kernel
theorem ddX12_layDay_115 : decode cX12_layDay 115 = .ok (.invokevirtual 385, 3) := by decide +kernel
theorem ddX12_layDay_118 : decode cX12_layDay 118 = .ok (.return_, 1) := by decide +kernel
def wq_k_X12_layDay : List Cond := Cond.code yX12_layDay cX12_layDay 2 none :: (([Cond.fieldLink RX12 98 "CrowTollModel" "state" "[I", Cond.fieldLink RX12 379 "CrowTollModel" "dMany" "I", Cond.fieldLink RX12 382 "CrowTollModel" "dLimit" "I", Cond.fieldLink RX12 101 "CrowTollModel" "dMinute" "[I", Cond.fieldLink RX12 104 "CrowTollModel" "dSacks" "[I", Cond.fieldLink RX12 137 "CrowTollModel" "dComes" "[Z", Cond.fieldLink RX12 107 "CrowTollModel" "dFar" "[I", Cond.methodLink RX12 385 yX12_laySeats, Cond.instanceMethod yX12_laySeats, Cond.selects RX12 yX12_laySeats yX12_laySeats, Cond.initialized RX12, Cond.code yX12_laySeats cX12_laySeats 3 none, Cond.methodLink RX12 370 yX12_postMany, Cond.instanceMethod yX12_postMany, Cond.selects RX12 yX12_postMany yX12_postMany, Cond.code yX12_postMany cX12_postMany 1 (some .int), Cond.fieldLink RX12 24 "CrowTollModel" "posts" "[I", Cond.fieldLink RX12 286 "CrowTollModel" "bank" "I", Cond.fieldLink RX12 110 "CrowTollModel" "dSeatMany" "[I", Cond.fieldLink RX12 51 "CrowTollModel" "seatMany" "[I", Cond.fieldLink RX12 113 "CrowTollModel" "dSeats" "[I", Cond.fieldLink RX12 54 "CrowTollModel" "seatOf" "[I"] : List Cond) ++ wsX120)
set_option maxRecDepth 20000 in
theorem gr_k_X12_layDay_k_X12_laySeats : GoodIn wq_k_X12_layDay wq_k_X12_laySeats := List.forall_mem_cons.mpr ⟨⟨(List.mem_of_getElem? (i := 12) rfl), good_of_word rfl⟩, List.forall_mem_append.mpr ⟨List.forall_mem_cons.mpr ⟨⟨(List.mem_of_getElem? (i := 13) rfl), good_of_word rfl⟩, List.forall_mem_cons.mpr ⟨⟨(List.mem_of_getElem? (i := 14) rfl), good_of_word rfl⟩, List.forall_mem_cons.mpr ⟨⟨(List.mem_of_getElem? (i := 15) rfl), good_of_word rfl⟩, List.forall_mem_cons.mpr ⟨⟨(List.mem_of_getElem? (i := 11) rfl), good_of_word rfl⟩, List.forall_mem_cons.mpr ⟨⟨(List.mem_of_getElem? (i := 16) rfl), good_of_word rfl⟩, List.forall_mem_cons.mpr ⟨⟨(List.mem_of_getElem? (i := 17) rfl), good_of_word rfl⟩, List.forall_mem_cons.mpr ⟨⟨(List.mem_of_getElem? (i := 18) rfl), good_of_word rfl⟩, List.forall_mem_cons.mpr ⟨⟨(List.mem_of_getElem? (i := 19) rfl), good_of_word rfl⟩, List.forall_mem_cons.mpr ⟨⟨(List.mem_of_getElem? (i := 20) rfl), good_of_word rfl⟩, List.forall_mem_cons.mpr ⟨⟨(List.mem_of_getElem? (i := 21) rfl), good_of_word rfl⟩, List.forall_mem_cons.mpr ⟨⟨(List.mem_of_getElem? (i := 22) rfl), good_of_word rfl⟩, (fun _ h => absurd h List.not_mem_nil)⟩⟩⟩⟩⟩⟩⟩⟩⟩⟩⟩, fun w h => ⟨(fun w h => List.mem_cons_of_mem _ (List.mem_append_right _ h)) w h, good_of_word (List.all_eq_true.mp gw_X12 w h)⟩⟩⟩
set_option maxRecDepth 20000 in
theorem gq_k_X12_layDay_k_X12_laySeats_385 : GoodIn wq_k_X12_layDay (wsV RX12 385 RX12 yX12_laySeats wq_k_X12_laySeats) := goodIn_app (List.forall_mem_cons.mpr ⟨⟨(List.mem_of_getElem? (i := 8) rfl), good_of_word rfl⟩, List.forall_mem_cons.mpr ⟨⟨(List.mem_of_getElem? (i := 9) rfl), good_of_word rfl⟩, List.forall_mem_cons.mpr ⟨⟨(List.mem_of_getElem? (i := 10) rfl), good_of_word rfl⟩, List.forall_mem_cons.mpr ⟨⟨(List.mem_of_getElem? (i := 11) rfl), good_of_word rfl⟩, (fun _ h => absurd h List.not_mem_nil)⟩⟩⟩⟩) gr_k_X12_layDay_k_X12_laySeats
set_option maxHeartbeats 8000000 in
set_option maxRecDepth 100000 in
theorem k_X12_layDay (l : Launch) (D : va_G) (cy : Nat → ClassId) (ad : Nat → Nat) (g : Nat → va_E) {u0_0 : Value} {u0_1 : Value} {u0_2 : Value} {u0_3 : Value} {u0_4 : Value} {u0_5 : Value} {u0_6 : Value} {u0_7 : Value} {u0_8 : Value} {u0_9 : Value} {u0_10 : Value} {u0_11 : Value} {u0_13 : Value} {u0_14 : Value} {u0_15 : Value} {u0_16 : Value} {u0_17 : Value} {u0_18 : Value} {u0_19 : Value} {u0_20 : Value} {u0_23 : Value} {u0_24 : Value} {u0_25 : Value} {u0_26 : Value} {u0_27 : Value} {u0_28 : Value} {u0_29 : Value} {u0_30 : Value} {u0_31 : Value} {u0_32 : Value} {u0_33 : Value} {u0_34 : Value} {u0_35 : Value} {x0_36 : Int32} {u0_37 : Value} {u0_38 : Value} {u0_39 : Value} {u0_40 : Value} {u0_47 : Value} {u0_48 : Value} {u0_49 : Value} {u0_50 : Value} {u0_51 : Value} {u0_52 : Value} {u0_53 : Value} {u0_55 : Value} {x0_56 : Int32} {x0_57 : Int32} {u0_58 : Value} {u0_59 : Value} {u0_60 : Value} {u0_61 : Value} {u0_62 : Value} {u0_63 : Value} {u0_64 : Value} {u0_65 : Value} {u0_66 : Value} {u0_67 : Value} {u0_68 : Value} {u0_69 : Value} {u0_70 : Value} {u0_71 : Value} {u0_72 : Value} {u0_73 : Value} {c1 : Nat → Int32} {c2 : Nat → Int32} {c3 : Nat → Int32} {c4 : Nat → Int32} {c5 : Nat → Int32} {c6 : Nat → Int32} {c7 : Nat → Int32} {c8 : Nat → Int32} {c9 : Nat → Int32} {c10 : Nat → Int32} (o0 : g 0 = .inr (12, [u0_0, u0_1, u0_2, u0_3, u0_4, u0_5, u0_6, u0_7, u0_8, u0_9, u0_10, u0_11, .ref (ad 6), u0_13, u0_14, u0_15, u0_16, u0_17, u0_18, u0_19, u0_20, .ref (ad 7), .ref (ad 8), u0_23, u0_24, u0_25, u0_26, u0_27, u0_28, u0_29, u0_30, u0_31, u0_32, u0_33, u0_34, u0_35, .int x0_36, u0_37, u0_38, u0_39, u0_40, .ref (ad 1), .ref (ad 2), .ref (ad 3), .ref (ad 5), .ref (ad 9), .ref (ad 10), u0_47, u0_48, u0_49, u0_50, u0_51, u0_52, u0_53, .ref (ad 4), u0_55, .int x0_56, .int x0_57, u0_58, u0_59, u0_60, u0_61, u0_62, u0_63, u0_64, u0_65, u0_66, u0_67, u0_68, u0_69, u0_70, u0_71, u0_72, u0_73])) (a1 : g 1 = .inl (cy 0, 80, .inl c1)) (a2 : g 2 = .inl (cy 0, 30, .inl c2)) (a3 : g 3 = .inl (cy 0, 30, .inl c3)) (a4 : g 4 = .inl (cy 2, 30, .inl c4)) (a5 : g 5 = .inl (cy 0, 5, .inl c5)) (a6 : g 6 = .inl (cy 0, 2, .inl c6)) (a7 : g 7 = .inl (cy 0, 8, .inl c7)) (a8 : g 8 = .inl (cy 0, 40, .inl c8)) (a9 : g 9 = .inl (cy 0, 4, .inl c9)) (a10 : g 10 = .inl (cy 0, 20, .inl c10)) (b0_36 : zi 0 1 x0_36) (b0_56 : zi 0 30 x0_56) (ha1 : zs c1) (ha4 : za 0 1 c4) (ha6 : za 0 4 c6) (ha7 : za 0 5 c7) (ha8 : za 0 4 c8) (ha9 : za 0 5 c9) (ha10 : za 0 4 c10) : cMv l yX12_layDay wq_k_X12_layDay { frames := 2, cells := 0, slots := 0, locals := 42 } 11 0 0 0 D cy ad g [.ref (ad 0)] (fun nw lu => ∃ (y0_56 : Int32) (d2 : Nat → Int32) (d3 : Nat → Int32) (d4 : Nat → Int32) (d5 : Nat → Int32) (d9 : Nat → Int32) (d10 : Nat → Int32), (zi 0 24 y0_56) ∧ (za 0 1 d4) ∧ (za 0 5 d9) ∧ (za 0 4 d10) ∧ (lu = [(0, .inr (12, [u0_0, u0_1, u0_2, u0_3, u0_4, u0_5, u0_6, u0_7, u0_8, u0_9, u0_10, u0_11, .ref (ad 6), u0_13, u0_14, u0_15, u0_16, u0_17, u0_18, u0_19, u0_20, .ref (ad 7), .ref (ad 8), u0_23, u0_24, u0_25, u0_26, u0_27, u0_28, u0_29, u0_30, u0_31, u0_32, u0_33, u0_34, u0_35, .int x0_36, u0_37, u0_38, u0_39, u0_40, .ref (ad 1), .ref (ad 2), .ref (ad 3), .ref (ad 5), .ref (ad 9), .ref (ad 10), u0_47, u0_48, u0_49, u0_50, u0_51, u0_52, u0_53, .ref (ad 4), u0_55, .int y0_56, .int 10000, u0_58, u0_59, u0_60, u0_61, u0_62, u0_63, u0_64, u0_65, u0_66, u0_67, u0_68, u0_69, u0_70, u0_71, u0_72, u0_73])), (2, .inl (cy 0, 30, .inl d2)), (3, .inl (cy 0, 30, .inl d3)), (4, .inl (cy 2, 30, .inl d4)), (5, .inl (cy 0, 5, .inl d5)), (9, .inl (cy 0, 4, .inl d9)), (10, .inl (cy 0, 20, .inl d10))])) := by
  refine cM_of (Qc := fun A => cQv (fun nw lu => ∃ (y0_56 : Int32) (d2 : Nat → Int32) (d3 : Nat → Int32) (d4 : Nat → Int32) (d5 : Nat → Int32) (d9 : Nat → Int32) (d10 : Nat → Int32), (zi 0 24 y0_56) ∧ (za 0 1 d4) ∧ (za 0 5 d9) ∧ (za 0 4 d10) ∧ (lu = [(0, .inr (12, [u0_0, u0_1, u0_2, u0_3, u0_4, u0_5, u0_6, u0_7, u0_8, u0_9, u0_10, u0_11, .ref (ad 6), u0_13, u0_14, u0_15, u0_16, u0_17, u0_18, u0_19, u0_20, .ref (ad 7), .ref (ad 8), u0_23, u0_24, u0_25, u0_26, u0_27, u0_28, u0_29, u0_30, u0_31, u0_32, u0_33, u0_34, u0_35, .int x0_36, u0_37, u0_38, u0_39, u0_40, .ref (ad 1), .ref (ad 2), .ref (ad 3), .ref (ad 5), .ref (ad 9), .ref (ad 10), u0_47, u0_48, u0_49, u0_50, u0_51, u0_52, u0_53, .ref (ad 4), u0_55, .int y0_56, .int 10000, u0_58, u0_59, u0_60, u0_61, u0_62, u0_63, u0_64, u0_65, u0_66, u0_67, u0_68, u0_69, u0_70, u0_71, u0_72, u0_73])), (2, .inl (cy 0, 30, .inl d2)), (3, .inl (cy 0, 30, .inl d3)), (4, .inl (cy 2, 30, .inl d4)), (5, .inl (cy 0, 5, .inl d5)), (9, .inl (cy 0, 4, .inl d9)), (10, .inl (cy 0, 20, .inl d10))])) D 11 0 ad g A) (cc := cX12_layDay) (maxL := 2) (ret := none) (by decide) rfl (Nat.le_of_ble_eq_true rfl) ?_
  intro p e s m below meth c A hC hr hlk hnm hO ls hl
  have hC : CallFix p m c cX12_layDay 2 s [.ref (ad 0)].toArray wq_k_X12_layDay RX12 := hC
  obtain ⟨hx, hb, hml, hown, hts⟩ := id hC
  have hl : lv_has ls 2 [(0, .ref (ad 0))] := hl
  have i_X12 : ∀ w ∈ wsX120, w ∈ wq_k_X12_layDay := fun w h => List.mem_cons_of_mem _ (List.mem_append_right _ h)
  have hO := hO.notes [(0, .inr (12, [u0_0, u0_1, u0_2, u0_3, u0_4, u0_5, u0_6, u0_7, u0_8, u0_9, u0_10, u0_11, .ref (ad 6), u0_13, u0_14, u0_15, u0_16, u0_17, u0_18, u0_19, u0_20, .ref (ad 7), .ref (ad 8), u0_23, u0_24, u0_25, u0_26, u0_27, u0_28, u0_29, u0_30, u0_31, u0_32, u0_33, u0_34, u0_35, .int x0_36, u0_37, u0_38, u0_39, u0_40, .ref (ad 1), .ref (ad 2), .ref (ad 3), .ref (ad 5), .ref (ad 9), .ref (ad 10), u0_47, u0_48, u0_49, u0_50, u0_51, u0_52, u0_53, .ref (ad 4), u0_55, .int x0_56, .int x0_57, u0_58, u0_59, u0_60, u0_61, u0_62, u0_63, u0_64, u0_65, u0_66, u0_67, u0_68, u0_69, u0_70, u0_71, u0_72, u0_73])), (2, .inl (cy 0, 30, .inl c2)), (3, .inl (cy 0, 30, .inl c3)), (4, .inl (cy 2, 30, .inl c4)), (5, .inl (cy 0, 5, .inl c5)), (9, .inl (cy 0, 4, .inl c9)), (10, .inl (cy 0, 20, .inl c10))] (List.forall_mem_cons.mpr ⟨o0, List.forall_mem_cons.mpr ⟨a2, List.forall_mem_cons.mpr ⟨a3, List.forall_mem_cons.mpr ⟨a4, List.forall_mem_cons.mpr ⟨a5, List.forall_mem_cons.mpr ⟨a9, List.forall_mem_cons.mpr ⟨a10, (fun _ h => absurd h List.not_mem_nil)⟩⟩⟩⟩⟩⟩⟩)
  refine lv_aload_n hx hb ddX12_layDay_0 rfl (lv_at hl 0 rfl) ?_
  refine lv_aload_n hx hb ddX12_layDay_1 rfl (lv_at hl 0 rfl) ?_
  refine cg_get hC hO 0 (by decide) rfl rfl i_X12 41 (by decide) (List.mem_of_getElem? (i := 1) rfl) rfl ddX12_layDay_2 ?_
  refine lv_iconst (v := 0) hx hb ddX12_layDay_5 (by decide) ?_
  refine zg_ialdS hC hO 1 (by decide) a1 ha1 (cin (by decide)) ddX12_layDay_6 (fun v_6_4321 z_6_4322 el_6_4323 => ?_)
  have z_6_4324 : zi 0 24 v_6_4321 := z_6_4322 (by decide)
  refine cg_put hC hO 0 (by decide) rfl rfl i_X12 tyX12_ok nmX12 56 (by decide) (List.mem_of_getElem? (i := 2) rfl) rfl rfl rfl (Nat.le_of_ble_eq_true rfl) ddX12_layDay_7 (fun H locs hO => ?_)
  have hO : cO D cy A s.heap s 11 ad (cup [(0, .inr (12, [u0_0, u0_1, u0_2, u0_3, u0_4, u0_5, u0_6, u0_7, u0_8, u0_9, u0_10, u0_11, .ref (ad 6), u0_13, u0_14, u0_15, u0_16, u0_17, u0_18, u0_19, u0_20, .ref (ad 7), .ref (ad 8), u0_23, u0_24, u0_25, u0_26, u0_27, u0_28, u0_29, u0_30, u0_31, u0_32, u0_33, u0_34, u0_35, .int x0_36, u0_37, u0_38, u0_39, u0_40, .ref (ad 1), .ref (ad 2), .ref (ad 3), .ref (ad 5), .ref (ad 9), .ref (ad 10), u0_47, u0_48, u0_49, u0_50, u0_51, u0_52, u0_53, .ref (ad 4), u0_55, .int v_6_4321, .int x0_57, u0_58, u0_59, u0_60, u0_61, u0_62, u0_63, u0_64, u0_65, u0_66, u0_67, u0_68, u0_69, u0_70, u0_71, u0_72, u0_73])), (2, .inl (cy 0, 30, .inl c2)), (3, .inl (cy 0, 30, .inl c3)), (4, .inl (cy 2, 30, .inl c4)), (5, .inl (cy 0, 5, .inl c5)), (9, .inl (cy 0, 4, .inl c9)), (10, .inl (cy 0, 20, .inl c10))] g) _ _ := hO
  refine lv_aload_n hx hb ddX12_layDay_10 rfl (lv_at hl 0 rfl) ?_
  refine lv_sipush (v := 10000) hx hb ddX12_layDay_11 (by decide) ?_
  refine cg_put hC hO 0 (by decide) rfl rfl i_X12 tyX12_ok nmX12 57 (by decide) (List.mem_of_getElem? (i := 3) rfl) rfl rfl rfl (Nat.le_of_ble_eq_true rfl) ddX12_layDay_14 (fun H locs hO => ?_)
  have hO : cO D cy A s.heap s 11 ad (cup [(0, .inr (12, [u0_0, u0_1, u0_2, u0_3, u0_4, u0_5, u0_6, u0_7, u0_8, u0_9, u0_10, u0_11, .ref (ad 6), u0_13, u0_14, u0_15, u0_16, u0_17, u0_18, u0_19, u0_20, .ref (ad 7), .ref (ad 8), u0_23, u0_24, u0_25, u0_26, u0_27, u0_28, u0_29, u0_30, u0_31, u0_32, u0_33, u0_34, u0_35, .int x0_36, u0_37, u0_38, u0_39, u0_40, .ref (ad 1), .ref (ad 2), .ref (ad 3), .ref (ad 5), .ref (ad 9), .ref (ad 10), u0_47, u0_48, u0_49, u0_50, u0_51, u0_52, u0_53, .ref (ad 4), u0_55, .int v_6_4321, .int 10000, u0_58, u0_59, u0_60, u0_61, u0_62, u0_63, u0_64, u0_65, u0_66, u0_67, u0_68, u0_69, u0_70, u0_71, u0_72, u0_73])), (2, .inl (cy 0, 30, .inl c2)), (3, .inl (cy 0, 30, .inl c3)), (4, .inl (cy 2, 30, .inl c4)), (5, .inl (cy 0, 5, .inl c5)), (9, .inl (cy 0, 4, .inl c9)), (10, .inl (cy 0, 20, .inl c10))] g) _ _ := hO
  refine lv_iconst (v := 0) hx hb ddX12_layDay_17 (by decide) ?_
  refine lv_istore_n (lv' := [(1, .int 0), (0, .ref (ad 0))]) hx hb ddX12_layDay_18 rfl hl (by decide) rfl (fun ls hl => ?_)
  have loop_19_6559 : ∀ (d_19_6560 : Nat) (v_19_6307 : Int32) (c_19_6309 : Nat → Int32) (c_19_6311 : Nat → Int32) (c_19_6313 : Nat → Int32), zi 0 25 v_19_6307 → za (-2147483648) 2147483647 c_19_6309 → za (-2147483648) 2147483647 c_19_6311 → za 0 1 c_19_6313 → (25 + 1 - v_19_6307.toInt).toNat < d_19_6560 → ∀ (H : Heap) (locs : List Loc), cO D cy A s.heap s 11 ad (cup [(0, .inr (12, [u0_0, u0_1, u0_2, u0_3, u0_4, u0_5, u0_6, u0_7, u0_8, u0_9, u0_10, u0_11, .ref (ad 6), u0_13, u0_14, u0_15, u0_16, u0_17, u0_18, u0_19, u0_20, .ref (ad 7), .ref (ad 8), u0_23, u0_24, u0_25, u0_26, u0_27, u0_28, u0_29, u0_30, u0_31, u0_32, u0_33, u0_34, u0_35, .int x0_36, u0_37, u0_38, u0_39, u0_40, .ref (ad 1), .ref (ad 2), .ref (ad 3), .ref (ad 5), .ref (ad 9), .ref (ad 10), u0_47, u0_48, u0_49, u0_50, u0_51, u0_52, u0_53, .ref (ad 4), u0_55, .int v_6_4321, .int 10000, u0_58, u0_59, u0_60, u0_61, u0_62, u0_63, u0_64, u0_65, u0_66, u0_67, u0_68, u0_69, u0_70, u0_71, u0_72, u0_73])), (2, .inl (cy 0, 30, .inl c_19_6309)), (3, .inl (cy 0, 30, .inl c_19_6311)), (4, .inl (cy 2, 30, .inl c_19_6313)), (5, .inl (cy 0, 5, .inl c5)), (9, .inl (cy 0, 4, .inl c9)), (10, .inl (cy 0, 20, .inl c10))] g) H locs → ∀ ls : Array Slot, lv_has ls 2 [(1, .int v_19_6307), (0, .ref (ad 0))] → W p l e { frames := 2, cells := 0, slots := 0, locals := 42 } s m [.ref (ad 0)].toArray below meth c H locs 0 0 (MQ below (cQv (fun nw lu => ∃ (y0_56 : Int32) (d2 : Nat → Int32) (d3 : Nat → Int32) (d4 : Nat → Int32) (d5 : Nat → Int32) (d9 : Nat → Int32) (d10 : Nat → Int32), (zi 0 24 y0_56) ∧ (za 0 1 d4) ∧ (za 0 5 d9) ∧ (za 0 4 d10) ∧ (lu = [(0, .inr (12, [u0_0, u0_1, u0_2, u0_3, u0_4, u0_5, u0_6, u0_7, u0_8, u0_9, u0_10, u0_11, .ref (ad 6), u0_13, u0_14, u0_15, u0_16, u0_17, u0_18, u0_19, u0_20, .ref (ad 7), .ref (ad 8), u0_23, u0_24, u0_25, u0_26, u0_27, u0_28, u0_29, u0_30, u0_31, u0_32, u0_33, u0_34, u0_35, .int x0_36, u0_37, u0_38, u0_39, u0_40, .ref (ad 1), .ref (ad 2), .ref (ad 3), .ref (ad 5), .ref (ad 9), .ref (ad 10), u0_47, u0_48, u0_49, u0_50, u0_51, u0_52, u0_53, .ref (ad 4), u0_55, .int y0_56, .int 10000, u0_58, u0_59, u0_60, u0_61, u0_62, u0_63, u0_64, u0_65, u0_66, u0_67, u0_68, u0_69, u0_70, u0_71, u0_72, u0_73])), (2, .inl (cy 0, 30, .inl d2)), (3, .inl (cy 0, 30, .inl d3)), (4, .inl (cy 2, 30, .inl d4)), (5, .inl (cy 0, 5, .inl d5)), (9, .inl (cy 0, 4, .inl d9)), (10, .inl (cy 0, 20, .inl d10))])) D 11 0 ad g A) [.ref (ad 0)].toArray s 0 0 A) (F0 m 19 ls [])  := by
    intro d_19_6560
    induction d_19_6560 with
    | zero => intro v_19_6307 c_19_6309 c_19_6311 c_19_6313 z_19_6308 zc_19_6310 zc_19_6312 zc_19_6314 mu_19_6561; exact absurd mu_19_6561 (Nat.not_lt_zero _)
    | succ d_19_6560 ih_19_6562 =>
      intro v_19_6307 c_19_6309 c_19_6311 c_19_6313 z_19_6308 zc_19_6310 zc_19_6312 zc_19_6314 mu_19_6561 H locs hO ls hl
      refine lv_iload_n hx hb ddX12_layDay_19 rfl (lv_at hl 0 rfl) ?_
      refine lv_aload_n hx hb ddX12_layDay_20 rfl (lv_at hl 1 rfl) ?_
      refine cg_get hC hO 0 (by decide) rfl rfl i_X12 56 (by decide) (List.mem_of_getElem? (i := 2) rfl) rfl ddX12_layDay_21 ?_
      refine lv_icmp_ge (tgt := 86) hx hb ddX12_layDay_24 (by decide) (fun h_24_6563 => ?_) (fun h_24_6563 => ?_)
      · have q_24_6603 := zr_le h_24_6563
        refine lv_iconst (v := 0) hx hb ddX12_layDay_86 (by decide) ?_
        refine lv_istore_n (lv' := [(1, .int 0), (0, .ref (ad 0))]) hx hb ddX12_layDay_87 rfl hl (by decide) rfl (fun ls hl => ?_)
        have loop_88_6769 : ∀ (d_88_6770 : Nat) (v_88_6725 : Int32) (c_88_6727 : Nat → Int32), zi 0 5 v_88_6725 → za (-2147483648) 2147483647 c_88_6727 → (5 + 1 - v_88_6725.toInt).toNat < d_88_6770 → ∀ (H : Heap) (locs : List Loc), cO D cy A s.heap s 11 ad (cup [(0, .inr (12, [u0_0, u0_1, u0_2, u0_3, u0_4, u0_5, u0_6, u0_7, u0_8, u0_9, u0_10, u0_11, .ref (ad 6), u0_13, u0_14, u0_15, u0_16, u0_17, u0_18, u0_19, u0_20, .ref (ad 7), .ref (ad 8), u0_23, u0_24, u0_25, u0_26, u0_27, u0_28, u0_29, u0_30, u0_31, u0_32, u0_33, u0_34, u0_35, .int x0_36, u0_37, u0_38, u0_39, u0_40, .ref (ad 1), .ref (ad 2), .ref (ad 3), .ref (ad 5), .ref (ad 9), .ref (ad 10), u0_47, u0_48, u0_49, u0_50, u0_51, u0_52, u0_53, .ref (ad 4), u0_55, .int v_6_4321, .int 10000, u0_58, u0_59, u0_60, u0_61, u0_62, u0_63, u0_64, u0_65, u0_66, u0_67, u0_68, u0_69, u0_70, u0_71, u0_72, u0_73])), (2, .inl (cy 0, 30, .inl c_19_6309)), (3, .inl (cy 0, 30, .inl c_19_6311)), (4, .inl (cy 2, 30, .inl c_19_6313)), (5, .inl (cy 0, 5, .inl c_88_6727)), (9, .inl (cy 0, 4, .inl c9)), (10, .inl (cy 0, 20, .inl c10))] g) H locs → ∀ ls : Array Slot, lv_has ls 2 [(1, .int v_88_6725), (0, .ref (ad 0))] → W p l e { frames := 2, cells := 0, slots := 0, locals := 42 } s m [.ref (ad 0)].toArray below meth c H locs 0 0 (MQ below (cQv (fun nw lu => ∃ (y0_56 : Int32) (d2 : Nat → Int32) (d3 : Nat → Int32) (d4 : Nat → Int32) (d5 : Nat → Int32) (d9 : Nat → Int32) (d10 : Nat → Int32), (zi 0 24 y0_56) ∧ (za 0 1 d4) ∧ (za 0 5 d9) ∧ (za 0 4 d10) ∧ (lu = [(0, .inr (12, [u0_0, u0_1, u0_2, u0_3, u0_4, u0_5, u0_6, u0_7, u0_8, u0_9, u0_10, u0_11, .ref (ad 6), u0_13, u0_14, u0_15, u0_16, u0_17, u0_18, u0_19, u0_20, .ref (ad 7), .ref (ad 8), u0_23, u0_24, u0_25, u0_26, u0_27, u0_28, u0_29, u0_30, u0_31, u0_32, u0_33, u0_34, u0_35, .int x0_36, u0_37, u0_38, u0_39, u0_40, .ref (ad 1), .ref (ad 2), .ref (ad 3), .ref (ad 5), .ref (ad 9), .ref (ad 10), u0_47, u0_48, u0_49, u0_50, u0_51, u0_52, u0_53, .ref (ad 4), u0_55, .int y0_56, .int 10000, u0_58, u0_59, u0_60, u0_61, u0_62, u0_63, u0_64, u0_65, u0_66, u0_67, u0_68, u0_69, u0_70, u0_71, u0_72, u0_73])), (2, .inl (cy 0, 30, .inl d2)), (3, .inl (cy 0, 30, .inl d3)), (4, .inl (cy 2, 30, .inl d4)), (5, .inl (cy 0, 5, .inl d5)), (9, .inl (cy 0, 4, .inl d9)), (10, .inl (cy 0, 20, .inl d10))])) D 11 0 ad g A) [.ref (ad 0)].toArray s 0 0 A) (F0 m 88 ls [])  := by
          intro d_88_6770
          induction d_88_6770 with
          | zero => intro v_88_6725 c_88_6727 z_88_6726 zc_88_6728 mu_88_6771; exact absurd mu_88_6771 (Nat.not_lt_zero _)
          | succ d_88_6770 ih_88_6772 =>
            intro v_88_6725 c_88_6727 z_88_6726 zc_88_6728 mu_88_6771 H locs hO ls hl
            refine lv_iload_n hx hb ddX12_layDay_88 rfl (lv_at hl 0 rfl) ?_
            refine lv_iconst (v := 5) hx hb ddX12_layDay_89 (by decide) ?_
            refine lv_icmp_ge (tgt := 114) hx hb ddX12_layDay_90 (by decide) (fun h_90_6773 => ?_) (fun h_90_6773 => ?_)
            · have q_90_6790 := zr_le h_90_6773
              have z_90_6791 : zi 5 5 v_88_6725 := zd_le q_90_6790 (zi_k (a := 5) (b := 5) (x := 5) rfl) z_88_6726 (by decide)
              refine lv_aload_n hx hb ddX12_layDay_114 rfl (lv_at hl 1 rfl) ?_
              refine cg_Vv (As := []) (rest := []) (mc := 0) (ms := 0) (rm := { frames := 1, cells := 0, slots := 0, locals := 20 }) hC hl.1 hO [0, 6, 7, 9, 8, 10] (by decide +kernel) (k_X12_laySeats l D cy _ _ (u0_0 := u0_0) (u0_1 := u0_1) (u0_2 := u0_2) (u0_3 := u0_3) (u0_4 := u0_4) (u0_5 := u0_5) (u0_6 := u0_6) (u0_7 := u0_7) (u0_8 := u0_8) (u0_9 := u0_9) (u0_10 := u0_10) (u0_11 := u0_11) (c1 := c6) (u0_13 := u0_13) (u0_14 := u0_14) (u0_15 := u0_15) (u0_16 := u0_16) (u0_17 := u0_17) (u0_18 := u0_18) (u0_19 := u0_19) (u0_20 := u0_20) (c2 := c7) (c4 := c8) (u0_23 := u0_23) (u0_24 := u0_24) (u0_25 := u0_25) (u0_26 := u0_26) (u0_27 := u0_27) (u0_28 := u0_28) (u0_29 := u0_29) (u0_30 := u0_30) (u0_31 := u0_31) (u0_32 := u0_32) (u0_33 := u0_33) (u0_34 := u0_34) (u0_35 := u0_35) (x0_36 := x0_36) (u0_37 := u0_37) (u0_38 := u0_38) (u0_39 := u0_39) (u0_40 := u0_40) (u0_41 := .ref (ad 1)) (u0_42 := .ref (ad 2)) (u0_43 := .ref (ad 3)) (u0_44 := .ref (ad 5)) (c3 := c9) (c5 := c10) (u0_47 := u0_47) (u0_48 := u0_48) (u0_49 := u0_49) (u0_50 := u0_50) (u0_51 := u0_51) (u0_52 := u0_52) (u0_53 := u0_53) (u0_54 := .ref (ad 4)) (u0_55 := u0_55) (u0_56 := .int v_6_4321) (u0_57 := .int 10000) (u0_58 := u0_58) (u0_59 := u0_59) (u0_60 := u0_60) (u0_61 := u0_61) (u0_62 := u0_62) (u0_63 := u0_63) (u0_64 := u0_64) (u0_65 := u0_65) (u0_66 := u0_66) (u0_67 := u0_67) (u0_68 := u0_68) (u0_69 := u0_69) (u0_70 := u0_70) (u0_71 := u0_71) (u0_72 := u0_72) (u0_73 := u0_73) rfl a6 a7 rfl a8 rfl b0_36 ha6 ha7 ha9 ha8 ha10) gq_k_X12_layDay_k_X12_laySeats_385 rfl rfl rfl 0 (by decide +kernel) ⟨Nat.le_of_ble_eq_true rfl, Nat.le_of_ble_eq_true rfl⟩ rfl (by decide) rfl rfl rfl (Nat.le_of_ble_eq_true rfl) ddX12_layDay_115 ⟨Nat.le_of_ble_eq_true rfl, Nat.le_of_ble_eq_true rfl⟩ (fun nw_115_6792 l_115_6793 H locs hw hO => ?_)
              obtain ⟨d3_115_6795, d5_115_6796, z_115_6797, z_115_6798, rfl⟩ := hw
              have hO := hO.mrg (lk := [(9, .inl (cy 0, 4, .inl d3_115_6795)), (10, .inl (cy 0, 20, .inl d5_115_6796))]) (lm := [(0, .inr (12, [u0_0, u0_1, u0_2, u0_3, u0_4, u0_5, u0_6, u0_7, u0_8, u0_9, u0_10, u0_11, .ref (ad 6), u0_13, u0_14, u0_15, u0_16, u0_17, u0_18, u0_19, u0_20, .ref (ad 7), .ref (ad 8), u0_23, u0_24, u0_25, u0_26, u0_27, u0_28, u0_29, u0_30, u0_31, u0_32, u0_33, u0_34, u0_35, .int x0_36, u0_37, u0_38, u0_39, u0_40, .ref (ad 1), .ref (ad 2), .ref (ad 3), .ref (ad 5), .ref (ad 9), .ref (ad 10), u0_47, u0_48, u0_49, u0_50, u0_51, u0_52, u0_53, .ref (ad 4), u0_55, .int v_6_4321, .int 10000, u0_58, u0_59, u0_60, u0_61, u0_62, u0_63, u0_64, u0_65, u0_66, u0_67, u0_68, u0_69, u0_70, u0_71, u0_72, u0_73])), (2, .inl (cy 0, 30, .inl c_19_6309)), (3, .inl (cy 0, 30, .inl c_19_6311)), (4, .inl (cy 2, 30, .inl c_19_6313)), (5, .inl (cy 0, 5, .inl c_88_6727)), (9, .inl (cy 0, 4, .inl d3_115_6795)), (10, .inl (cy 0, 20, .inl d5_115_6796))]) rfl rfl rfl
              exact cg_vret (nw := fun _ => 0) hC hr hlk hO.same (Nat.le_of_ble_eq_true rfl) (Nat.le_of_ble_eq_true rfl) (⟨v_6_4321, c_19_6309, c_19_6311, c_19_6313, c_88_6727, d3_115_6795, d5_115_6796, z_6_4324, zc_19_6314, z_115_6797, z_115_6798, rfl⟩) ddX12_layDay_118
            · have q_90_6799 := zr_nle h_90_6773
              have z_90_6800 : zi 0 4 v_88_6725 := zu_lt q_90_6799 z_88_6726 (zi_k (a := 5) (b := 5) (x := 5) rfl) (by decide)
              refine lv_aload_n hx hb ddX12_layDay_93 rfl (lv_at hl 1 rfl) ?_
              refine cg_get hC hO 0 (by decide) rfl rfl i_X12 44 (by decide) (List.mem_of_getElem? (i := 7) rfl) rfl ddX12_layDay_94 ?_
              refine lv_iload_n hx hb ddX12_layDay_97 rfl (lv_at hl 0 rfl) ?_
              refine lv_aload_n hx hb ddX12_layDay_98 rfl (lv_at hl 1 rfl) ?_
              refine cg_get hC hO 0 (by decide) rfl rfl i_X12 41 (by decide) (List.mem_of_getElem? (i := 1) rfl) rfl ddX12_layDay_99 ?_
              refine lv_bipush (v := 73) hx hb ddX12_layDay_102 (by decide) ?_
              refine lv_iload_n hx hb ddX12_layDay_104 rfl (lv_at hl 0 rfl) ?_
              refine lv_iadd hx hb ddX12_layDay_105 ?_
              refine zg_top2 (P := fun v => zi 73 77 v) (E := fun v => v.toInt = (73 : Int32).toInt + (v_88_6725 : Int32).toInt) (zi_add (zi_k (a := 73) (b := 73) (x := 73) rfl) z_90_6800 (by decide)) (fun v_105_6801 z_105_6802 q_105_6803 => ?_)
              refine zg_ialdS hC hO 1 (by decide) a1 ha1 (zi_in z_105_6802 (by decide)) ddX12_layDay_106 (fun v_106_6804 z_106_6805 el_106_6806 => ?_)
              refine zg_iast hC hO 5 (by decide) rfl zc_88_6728 (zi_all v_106_6804) (zi_in z_90_6800 (by decide)) ddX12_layDay_107 (fun H locs c_107_6807 zc_107_6808 hO => ?_)
              have hO : cO D cy A s.heap s 11 ad (cup [(0, .inr (12, [u0_0, u0_1, u0_2, u0_3, u0_4, u0_5, u0_6, u0_7, u0_8, u0_9, u0_10, u0_11, .ref (ad 6), u0_13, u0_14, u0_15, u0_16, u0_17, u0_18, u0_19, u0_20, .ref (ad 7), .ref (ad 8), u0_23, u0_24, u0_25, u0_26, u0_27, u0_28, u0_29, u0_30, u0_31, u0_32, u0_33, u0_34, u0_35, .int x0_36, u0_37, u0_38, u0_39, u0_40, .ref (ad 1), .ref (ad 2), .ref (ad 3), .ref (ad 5), .ref (ad 9), .ref (ad 10), u0_47, u0_48, u0_49, u0_50, u0_51, u0_52, u0_53, .ref (ad 4), u0_55, .int v_6_4321, .int 10000, u0_58, u0_59, u0_60, u0_61, u0_62, u0_63, u0_64, u0_65, u0_66, u0_67, u0_68, u0_69, u0_70, u0_71, u0_72, u0_73])), (2, .inl (cy 0, 30, .inl c_19_6309)), (3, .inl (cy 0, 30, .inl c_19_6311)), (4, .inl (cy 2, 30, .inl c_19_6313)), (5, .inl (cy 0, 5, .inl c_107_6807)), (9, .inl (cy 0, 4, .inl c9)), (10, .inl (cy 0, 20, .inl c10))] g) _ _ := hO
              obtain ⟨v_108_6809, e_108_6810, z_108_6811, q_108_6812⟩ := zi_inc (e := 1) (f := 5) 1 z_90_6800 (by decide)
              refine lv_iinc (v := v_108_6809) (lv' := [(1, .int v_108_6809), (0, .ref (ad 0))]) hx hb ddX12_layDay_108 hl (k := 0) rfl e_108_6810 (by decide) rfl (fun ls hl => ?_)
              refine lv_goto (tgt := 88) hx hb ddX12_layDay_111 (by decide) ?_
              exact ih_88_6772 v_108_6809 c_107_6807 (zi_w (c := 0) (d := 5) z_108_6811 (by decide)) zc_107_6808 (zm_up q_108_6812 ((zi_w (c := 0) (d := 5) z_108_6811 (by decide))).2 (by decide) mu_88_6771) _ _ hO ls (lv_sub hl [0, 1] rfl)
        exact loop_88_6769 ((5 + 1 - (0 : Int32).toInt).toNat + 1) 0 c5 (zi_k (a := 0) (b := 5) (x := 0) rfl) (za_all _) (Nat.lt_succ_self _) _ _ hO ls (lv_sub hl [0, 1] rfl)
      · have q_24_6813 := zr_nle h_24_6563
        have z_24_6814 : zi 0 23 v_19_6307 := zu_lt q_24_6813 z_19_6308 z_6_4324 (by decide)
        have z_24_6815 : zi 1 24 v_6_4321 := zd_lt q_24_6813 z_19_6308 z_6_4324 (by decide)
        refine lv_aload_n hx hb ddX12_layDay_27 rfl (lv_at hl 1 rfl) ?_
        refine cg_get hC hO 0 (by decide) rfl rfl i_X12 42 (by decide) (List.mem_of_getElem? (i := 4) rfl) rfl ddX12_layDay_28 ?_
        refine lv_iload_n hx hb ddX12_layDay_31 rfl (lv_at hl 0 rfl) ?_
        refine lv_aload_n hx hb ddX12_layDay_32 rfl (lv_at hl 1 rfl) ?_
        refine cg_get hC hO 0 (by decide) rfl rfl i_X12 41 (by decide) (List.mem_of_getElem? (i := 1) rfl) rfl ddX12_layDay_33 ?_
        refine lv_iconst (v := 1) hx hb ddX12_layDay_36 (by decide) ?_
        refine lv_iload_n hx hb ddX12_layDay_37 rfl (lv_at hl 0 rfl) ?_
        refine lv_iadd hx hb ddX12_layDay_38 ?_
        refine zg_top2 (P := fun v => zi 1 24 v) (E := fun v => v.toInt = (1 : Int32).toInt + (v_19_6307 : Int32).toInt) (zi_add (zi_k (a := 1) (b := 1) (x := 1) rfl) z_24_6814 (by decide)) (fun v_38_6816 z_38_6817 q_38_6818 => ?_)
        refine zg_ialdS hC hO 1 (by decide) a1 ha1 (zi_in z_38_6817 (by decide)) ddX12_layDay_39 (fun v_39_6819 z_39_6820 el_39_6821 => ?_)
        refine zg_iast hC hO 2 (by decide) rfl zc_19_6310 (zi_all v_39_6819) (zi_in z_24_6814 (by decide)) ddX12_layDay_40 (fun H locs c_40_6822 zc_40_6823 hO => ?_)
        have hO : cO D cy A s.heap s 11 ad (cup [(0, .inr (12, [u0_0, u0_1, u0_2, u0_3, u0_4, u0_5, u0_6, u0_7, u0_8, u0_9, u0_10, u0_11, .ref (ad 6), u0_13, u0_14, u0_15, u0_16, u0_17, u0_18, u0_19, u0_20, .ref (ad 7), .ref (ad 8), u0_23, u0_24, u0_25, u0_26, u0_27, u0_28, u0_29, u0_30, u0_31, u0_32, u0_33, u0_34, u0_35, .int x0_36, u0_37, u0_38, u0_39, u0_40, .ref (ad 1), .ref (ad 2), .ref (ad 3), .ref (ad 5), .ref (ad 9), .ref (ad 10), u0_47, u0_48, u0_49, u0_50, u0_51, u0_52, u0_53, .ref (ad 4), u0_55, .int v_6_4321, .int 10000, u0_58, u0_59, u0_60, u0_61, u0_62, u0_63, u0_64, u0_65, u0_66, u0_67, u0_68, u0_69, u0_70, u0_71, u0_72, u0_73])), (2, .inl (cy 0, 30, .inl c_40_6822)), (3, .inl (cy 0, 30, .inl c_19_6311)), (4, .inl (cy 2, 30, .inl c_19_6313)), (5, .inl (cy 0, 5, .inl c5)), (9, .inl (cy 0, 4, .inl c9)), (10, .inl (cy 0, 20, .inl c10))] g) _ _ := hO
        refine lv_aload_n hx hb ddX12_layDay_41 rfl (lv_at hl 1 rfl) ?_
        refine cg_get hC hO 0 (by decide) rfl rfl i_X12 43 (by decide) (List.mem_of_getElem? (i := 5) rfl) rfl ddX12_layDay_42 ?_
        refine lv_iload_n hx hb ddX12_layDay_45 rfl (lv_at hl 0 rfl) ?_
        refine lv_aload_n hx hb ddX12_layDay_46 rfl (lv_at hl 1 rfl) ?_
        refine cg_get hC hO 0 (by decide) rfl rfl i_X12 41 (by decide) (List.mem_of_getElem? (i := 1) rfl) rfl ddX12_layDay_47 ?_
        refine lv_bipush (v := 25) hx hb ddX12_layDay_50 (by decide) ?_
        refine lv_iload_n hx hb ddX12_layDay_52 rfl (lv_at hl 0 rfl) ?_
        refine lv_iadd hx hb ddX12_layDay_53 ?_
        refine zg_top2 (P := fun v => zi 25 48 v) (E := fun v => v.toInt = (25 : Int32).toInt + (v_19_6307 : Int32).toInt) (zi_add (zi_k (a := 25) (b := 25) (x := 25) rfl) z_24_6814 (by decide)) (fun v_53_6824 z_53_6825 q_53_6826 => ?_)
        refine zg_ialdS hC hO 1 (by decide) a1 ha1 (zi_in z_53_6825 (by decide)) ddX12_layDay_54 (fun v_54_6827 z_54_6828 el_54_6829 => ?_)
        refine zg_iast hC hO 3 (by decide) rfl zc_19_6312 (zi_all v_54_6827) (zi_in z_24_6814 (by decide)) ddX12_layDay_55 (fun H locs c_55_6830 zc_55_6831 hO => ?_)
        have hO : cO D cy A s.heap s 11 ad (cup [(0, .inr (12, [u0_0, u0_1, u0_2, u0_3, u0_4, u0_5, u0_6, u0_7, u0_8, u0_9, u0_10, u0_11, .ref (ad 6), u0_13, u0_14, u0_15, u0_16, u0_17, u0_18, u0_19, u0_20, .ref (ad 7), .ref (ad 8), u0_23, u0_24, u0_25, u0_26, u0_27, u0_28, u0_29, u0_30, u0_31, u0_32, u0_33, u0_34, u0_35, .int x0_36, u0_37, u0_38, u0_39, u0_40, .ref (ad 1), .ref (ad 2), .ref (ad 3), .ref (ad 5), .ref (ad 9), .ref (ad 10), u0_47, u0_48, u0_49, u0_50, u0_51, u0_52, u0_53, .ref (ad 4), u0_55, .int v_6_4321, .int 10000, u0_58, u0_59, u0_60, u0_61, u0_62, u0_63, u0_64, u0_65, u0_66, u0_67, u0_68, u0_69, u0_70, u0_71, u0_72, u0_73])), (2, .inl (cy 0, 30, .inl c_40_6822)), (3, .inl (cy 0, 30, .inl c_55_6830)), (4, .inl (cy 2, 30, .inl c_19_6313)), (5, .inl (cy 0, 5, .inl c5)), (9, .inl (cy 0, 4, .inl c9)), (10, .inl (cy 0, 20, .inl c10))] g) _ _ := hO
        refine lv_aload_n hx hb ddX12_layDay_56 rfl (lv_at hl 1 rfl) ?_
        refine cg_get hC hO 0 (by decide) rfl rfl i_X12 54 (by decide) (List.mem_of_getElem? (i := 6) rfl) rfl ddX12_layDay_57 ?_
        refine lv_iload_n hx hb ddX12_layDay_60 rfl (lv_at hl 0 rfl) ?_
        refine lv_aload_n hx hb ddX12_layDay_61 rfl (lv_at hl 1 rfl) ?_
        refine cg_get hC hO 0 (by decide) rfl rfl i_X12 41 (by decide) (List.mem_of_getElem? (i := 1) rfl) rfl ddX12_layDay_62 ?_
        refine lv_bipush (v := 49) hx hb ddX12_layDay_65 (by decide) ?_
        refine lv_iload_n hx hb ddX12_layDay_67 rfl (lv_at hl 0 rfl) ?_
        refine lv_iadd hx hb ddX12_layDay_68 ?_
        refine zg_top2 (P := fun v => zi 49 72 v) (E := fun v => v.toInt = (49 : Int32).toInt + (v_19_6307 : Int32).toInt) (zi_add (zi_k (a := 49) (b := 49) (x := 49) rfl) z_24_6814 (by decide)) (fun v_68_6832 z_68_6833 q_68_6834 => ?_)
        refine zg_ialdS hC hO 1 (by decide) a1 ha1 (zi_in z_68_6833 (by decide)) ddX12_layDay_69 (fun v_69_6835 z_69_6836 el_69_6837 => ?_)
        refine lv_iconst (v := 1) hx hb ddX12_layDay_70 (by decide) ?_
        have J_79_6843 : ∀ (v_79_6841 : Int32), zi 0 1 v_79_6841 → ∀ (H : Heap) (locs : List Loc), cO D cy A s.heap s 11 ad (cup [(0, .inr (12, [u0_0, u0_1, u0_2, u0_3, u0_4, u0_5, u0_6, u0_7, u0_8, u0_9, u0_10, u0_11, .ref (ad 6), u0_13, u0_14, u0_15, u0_16, u0_17, u0_18, u0_19, u0_20, .ref (ad 7), .ref (ad 8), u0_23, u0_24, u0_25, u0_26, u0_27, u0_28, u0_29, u0_30, u0_31, u0_32, u0_33, u0_34, u0_35, .int x0_36, u0_37, u0_38, u0_39, u0_40, .ref (ad 1), .ref (ad 2), .ref (ad 3), .ref (ad 5), .ref (ad 9), .ref (ad 10), u0_47, u0_48, u0_49, u0_50, u0_51, u0_52, u0_53, .ref (ad 4), u0_55, .int v_6_4321, .int 10000, u0_58, u0_59, u0_60, u0_61, u0_62, u0_63, u0_64, u0_65, u0_66, u0_67, u0_68, u0_69, u0_70, u0_71, u0_72, u0_73])), (2, .inl (cy 0, 30, .inl c_40_6822)), (3, .inl (cy 0, 30, .inl c_55_6830)), (4, .inl (cy 2, 30, .inl c_19_6313)), (5, .inl (cy 0, 5, .inl c5)), (9, .inl (cy 0, 4, .inl c9)), (10, .inl (cy 0, 20, .inl c10))] g) H locs → ∀ ls : Array Slot, lv_has ls 2 [(1, .int v_19_6307), (0, .ref (ad 0))] → W p l e { frames := 2, cells := 0, slots := 0, locals := 42 } s m [.ref (ad 0)].toArray below meth c H locs 0 0 (MQ below (cQv (fun nw lu => ∃ (y0_56 : Int32) (d2 : Nat → Int32) (d3 : Nat → Int32) (d4 : Nat → Int32) (d5 : Nat → Int32) (d9 : Nat → Int32) (d10 : Nat → Int32), (zi 0 24 y0_56) ∧ (za 0 1 d4) ∧ (za 0 5 d9) ∧ (za 0 4 d10) ∧ (lu = [(0, .inr (12, [u0_0, u0_1, u0_2, u0_3, u0_4, u0_5, u0_6, u0_7, u0_8, u0_9, u0_10, u0_11, .ref (ad 6), u0_13, u0_14, u0_15, u0_16, u0_17, u0_18, u0_19, u0_20, .ref (ad 7), .ref (ad 8), u0_23, u0_24, u0_25, u0_26, u0_27, u0_28, u0_29, u0_30, u0_31, u0_32, u0_33, u0_34, u0_35, .int x0_36, u0_37, u0_38, u0_39, u0_40, .ref (ad 1), .ref (ad 2), .ref (ad 3), .ref (ad 5), .ref (ad 9), .ref (ad 10), u0_47, u0_48, u0_49, u0_50, u0_51, u0_52, u0_53, .ref (ad 4), u0_55, .int y0_56, .int 10000, u0_58, u0_59, u0_60, u0_61, u0_62, u0_63, u0_64, u0_65, u0_66, u0_67, u0_68, u0_69, u0_70, u0_71, u0_72, u0_73])), (2, .inl (cy 0, 30, .inl d2)), (3, .inl (cy 0, 30, .inl d3)), (4, .inl (cy 2, 30, .inl d4)), (5, .inl (cy 0, 5, .inl d5)), (9, .inl (cy 0, 4, .inl d9)), (10, .inl (cy 0, 20, .inl d10))])) D 11 0 ad g A) [.ref (ad 0)].toArray s 0 0 A) (F0 m 79 ls [.int v_79_6841, .int v_19_6307, .ref (ad 4)]) := by
          intro v_79_6841 z_79_6842 H locs hO ls hl
          refine zg_zast hC hO 4 (by decide) rfl zc_19_6314 z_79_6842 (zi_in z_24_6814 (by decide)) ddX12_layDay_79 (fun H locs c_79_6844 zc_79_6845 hO => ?_)
          have hO : cO D cy A s.heap s 11 ad (cup [(0, .inr (12, [u0_0, u0_1, u0_2, u0_3, u0_4, u0_5, u0_6, u0_7, u0_8, u0_9, u0_10, u0_11, .ref (ad 6), u0_13, u0_14, u0_15, u0_16, u0_17, u0_18, u0_19, u0_20, .ref (ad 7), .ref (ad 8), u0_23, u0_24, u0_25, u0_26, u0_27, u0_28, u0_29, u0_30, u0_31, u0_32, u0_33, u0_34, u0_35, .int x0_36, u0_37, u0_38, u0_39, u0_40, .ref (ad 1), .ref (ad 2), .ref (ad 3), .ref (ad 5), .ref (ad 9), .ref (ad 10), u0_47, u0_48, u0_49, u0_50, u0_51, u0_52, u0_53, .ref (ad 4), u0_55, .int v_6_4321, .int 10000, u0_58, u0_59, u0_60, u0_61, u0_62, u0_63, u0_64, u0_65, u0_66, u0_67, u0_68, u0_69, u0_70, u0_71, u0_72, u0_73])), (2, .inl (cy 0, 30, .inl c_40_6822)), (3, .inl (cy 0, 30, .inl c_55_6830)), (4, .inl (cy 2, 30, .inl c_79_6844)), (5, .inl (cy 0, 5, .inl c5)), (9, .inl (cy 0, 4, .inl c9)), (10, .inl (cy 0, 20, .inl c10))] g) _ _ := hO
          obtain ⟨v_80_6846, e_80_6847, z_80_6848, q_80_6849⟩ := zi_inc (e := 1) (f := 24) 1 z_24_6814 (by decide)
          refine lv_iinc (v := v_80_6846) (lv' := [(1, .int v_80_6846), (0, .ref (ad 0))]) hx hb ddX12_layDay_80 hl (k := 0) rfl e_80_6847 (by decide) rfl (fun ls hl => ?_)
          refine lv_goto (tgt := 19) hx hb ddX12_layDay_83 (by decide) ?_
          exact ih_19_6562 v_80_6846 c_40_6822 c_55_6830 c_79_6844 (zi_w (c := 0) (d := 25) z_80_6848 (by decide)) zc_40_6823 zc_55_6831 zc_79_6845 (zm_up q_80_6849 ((zi_w (c := 0) (d := 25) z_80_6848 (by decide))).2 (by decide) mu_19_6561) _ _ hO ls (lv_sub hl [0, 1] rfl)
        refine lv_icmp_ne (tgt := 78) hx hb ddX12_layDay_71 (by decide) (fun h_71_6838 => ?_) (fun h_71_6838 => ?_)
        · refine lv_iconst (v := 0) hx hb ddX12_layDay_78 (by decide) ?_
          exact J_79_6843 0 (zi_k (a := 0) (b := 1) (x := 0) rfl) _ _ hO ls (lv_sub hl [0, 1] rfl)
        · have q_71_6850 := zr_eq h_71_6838
          have z_71_6851 : zi 1 1 v_69_6835 := ze_eq q_71_6850 (zi_all v_69_6835) (zi_k (a := 1) (b := 1) (x := 1) rfl)
          refine lv_iconst (v := 1) hx hb ddX12_layDay_74 (by decide) ?_
          refine lv_goto (tgt := 79) hx hb ddX12_layDay_75 (by decide) ?_
          exact J_79_6843 1 (zi_k (a := 0) (b := 1) (x := 1) rfl) _ _ hO ls (lv_sub hl [0, 1] rfl)
  exact loop_19_6559 ((25 + 1 - (0 : Int32).toInt).toNat + 1) 0 c2 c3 c4 (zi_k (a := 0) (b := 25) (x := 0) rfl) (za_all _) (za_all _) ha4 (Nat.lt_succ_self _) _ _ hO ls (lv_sub hl [0, 1] rfl)

theorem ddX12_add_0 : decode cX12_add 0 = .ok (.aload_n 0, 1) := by decide +kernel
theorem ddX12_add_1 : decode cX12_add 1 = .ok (.getfield 101, 3) := by decide +kernel
theorem ddX12_add_4 : decode cX12_add 4 = .ok (.aload_n 0, 1) := by decide +kernel
theorem ddX12_add_5 : decode cX12_add 5 = .ok (.getfield 379, 3) := by decide +kernel
theorem ddX12_add_8 : decode cX12_add 8 = .ok (.iload_n 1, 1) := by decide +kernel
theorem ddX12_add_9 : decode cX12_add 9 = .ok (.iastore, 1) := by decide +kernel
theorem ddX12_add_10 : decode cX12_add 10 = .ok (.aload_n 0, 1) := by decide +kernel
theorem ddX12_add_11 : decode cX12_add 11 = .ok (.getfield 104, 3) := by decide +kernel
theorem ddX12_add_14 : decode cX12_add 14 = .ok (.aload_n 0, 1) := by decide +kernel
theorem ddX12_add_15 : decode cX12_add 15 = .ok (.getfield 379, 3) := by decide +kernel
theorem ddX12_add_18 : decode cX12_add 18 = .ok (.iload_n 2, 1) := by decide +kernel
theorem ddX12_add_19 : decode cX12_add 19 = .ok (.iastore, 1) := by decide +kernel
theorem ddX12_add_20 : decode cX12_add 20 = .ok (.aload_n 0, 1) := by decide +kernel
theorem ddX12_add_21 : decode cX12_add 21 = .ok (.getfield 137, 3) := by decide +kernel
theorem ddX12_add_24 : decode cX12_add 24 = .ok (.aload_n 0, 1) := by decide +kernel
theorem ddX12_add_25 : decode cX12_add 25 = .ok (.getfield 379, 3) := by decide +kernel
theorem ddX12_add_28 : decode cX12_add 28 = .ok (.iconst 1, 1) := by decide +kernel
theorem ddX12_add_29 : decode cX12_add 29 = .ok (.bastore, 1) := by decide +kernel
theorem ddX12_add_30 : decode cX12_add 30 = .ok (.aload_n 0, 1) := by decide +kernel
theorem ddX12_add_31 : decode cX12_add 31 = .ok (.dup, 1) := by decide +kernel
theorem ddX12_add_32 : decode cX12_add 32 = .ok (.getfield 379, 3) := by decide +kernel
theorem ddX12_add_35 : decode cX12_add 35 = .ok (.iconst 1, 1) := by decide +kernel
theorem ddX12_add_36 : decode cX12_add 36 = .ok (.iadd, 1) := by decide +kernel
theorem ddX12_add_37 : decode cX12_add 37 = .ok (.putfield 379, 3) := by decide +kernel
theorem ddX12_add_40 : decode cX12_add 40 = .ok (.return_, 1) := by decide +kernel
def wq_k_X12_add : List Cond := Cond.code yX12_add cX12_add 3 none :: (([Cond.fieldLink RX12 101 "CrowTollModel" "dMinute" "[I", Cond.fieldLink RX12 379 "CrowTollModel" "dMany" "I", Cond.fieldLink RX12 104 "CrowTollModel" "dSacks" "[I", Cond.fieldLink RX12 137 "CrowTollModel" "dComes" "[Z"] : List Cond) ++ wsX120)
set_option maxHeartbeats 8000000 in
set_option maxRecDepth 100000 in
theorem k_X12_add (l : Launch) (D : va_G) (cy : Nat → ClassId) (ad : Nat → Nat) (g : Nat → va_E) {u0_0 : Value} {u0_1 : Value} {u0_2 : Value} {u0_3 : Value} {u0_4 : Value} {u0_5 : Value} {u0_6 : Value} {u0_7 : Value} {u0_8 : Value} {u0_9 : Value} {u0_10 : Value} {u0_11 : Value} {u0_12 : Value} {u0_13 : Value} {u0_14 : Value} {u0_15 : Value} {u0_16 : Value} {u0_17 : Value} {u0_18 : Value} {u0_19 : Value} {u0_20 : Value} {u0_21 : Value} {u0_22 : Value} {u0_23 : Value} {u0_24 : Value} {u0_25 : Value} {u0_26 : Value} {u0_27 : Value} {u0_28 : Value} {u0_29 : Value} {u0_30 : Value} {u0_31 : Value} {u0_32 : Value} {u0_33 : Value} {u0_34 : Value} {u0_35 : Value} {u0_36 : Value} {u0_37 : Value} {u0_38 : Value} {u0_39 : Value} {u0_40 : Value} {u0_41 : Value} {u0_44 : Value} {u0_45 : Value} {u0_46 : Value} {u0_47 : Value} {u0_48 : Value} {u0_49 : Value} {u0_50 : Value} {u0_51 : Value} {u0_52 : Value} {u0_53 : Value} {u0_55 : Value} {x0_56 : Int32} {u0_57 : Value} {u0_58 : Value} {u0_59 : Value} {u0_60 : Value} {u0_61 : Value} {u0_62 : Value} {u0_63 : Value} {u0_64 : Value} {u0_65 : Value} {u0_66 : Value} {u0_67 : Value} {u0_68 : Value} {u0_69 : Value} {u0_70 : Value} {u0_71 : Value} {u0_72 : Value} {u0_73 : Value} {c1 : Nat → Int32} {c2 : Nat → Int32} {c3 : Nat → Int32} {minute : Int32} {sacks : Int32} (o0 : g 0 = .inr (12, [u0_0, u0_1, u0_2, u0_3, u0_4, u0_5, u0_6, u0_7, u0_8, u0_9, u0_10, u0_11, u0_12, u0_13, u0_14, u0_15, u0_16, u0_17, u0_18, u0_19, u0_20, u0_21, u0_22, u0_23, u0_24, u0_25, u0_26, u0_27, u0_28, u0_29, u0_30, u0_31, u0_32, u0_33, u0_34, u0_35, u0_36, u0_37, u0_38, u0_39, u0_40, u0_41, .ref (ad 1), .ref (ad 2), u0_44, u0_45, u0_46, u0_47, u0_48, u0_49, u0_50, u0_51, u0_52, u0_53, .ref (ad 3), u0_55, .int x0_56, u0_57, u0_58, u0_59, u0_60, u0_61, u0_62, u0_63, u0_64, u0_65, u0_66, u0_67, u0_68, u0_69, u0_70, u0_71, u0_72, u0_73])) (a1 : g 1 = .inl (cy 0, 30, .inl c1)) (a2 : g 2 = .inl (cy 0, 30, .inl c2)) (a3 : g 3 = .inl (cy 2, 30, .inl c3)) (b0_56 : zi 0 29 x0_56) (ha3 : za 0 1 c3) : cMv l yX12_add wq_k_X12_add { frames := 0, cells := 0, slots := 0, locals := 0 } 4 0 0 0 D cy ad g [.ref (ad 0), .int minute, .int sacks] (fun nw lu => ∃ (y0_56 : Int32) (d1 : Nat → Int32) (d2 : Nat → Int32) (d3 : Nat → Int32), (zi 1 30 y0_56) ∧ (za 0 1 d3) ∧ ((y0_56 : Int32).toInt = (x0_56 : Int32).toInt + 1) ∧ (lu = [(0, .inr (12, [u0_0, u0_1, u0_2, u0_3, u0_4, u0_5, u0_6, u0_7, u0_8, u0_9, u0_10, u0_11, u0_12, u0_13, u0_14, u0_15, u0_16, u0_17, u0_18, u0_19, u0_20, u0_21, u0_22, u0_23, u0_24, u0_25, u0_26, u0_27, u0_28, u0_29, u0_30, u0_31, u0_32, u0_33, u0_34, u0_35, u0_36, u0_37, u0_38, u0_39, u0_40, u0_41, .ref (ad 1), .ref (ad 2), u0_44, u0_45, u0_46, u0_47, u0_48, u0_49, u0_50, u0_51, u0_52, u0_53, .ref (ad 3), u0_55, .int y0_56, u0_57, u0_58, u0_59, u0_60, u0_61, u0_62, u0_63, u0_64, u0_65, u0_66, u0_67, u0_68, u0_69, u0_70, u0_71, u0_72, u0_73])), (1, .inl (cy 0, 30, .inl d1)), (2, .inl (cy 0, 30, .inl d2)), (3, .inl (cy 2, 30, .inl d3))])) := by
  refine cM_of (Qc := fun A => cQv (fun nw lu => ∃ (y0_56 : Int32) (d1 : Nat → Int32) (d2 : Nat → Int32) (d3 : Nat → Int32), (zi 1 30 y0_56) ∧ (za 0 1 d3) ∧ ((y0_56 : Int32).toInt = (x0_56 : Int32).toInt + 1) ∧ (lu = [(0, .inr (12, [u0_0, u0_1, u0_2, u0_3, u0_4, u0_5, u0_6, u0_7, u0_8, u0_9, u0_10, u0_11, u0_12, u0_13, u0_14, u0_15, u0_16, u0_17, u0_18, u0_19, u0_20, u0_21, u0_22, u0_23, u0_24, u0_25, u0_26, u0_27, u0_28, u0_29, u0_30, u0_31, u0_32, u0_33, u0_34, u0_35, u0_36, u0_37, u0_38, u0_39, u0_40, u0_41, .ref (ad 1), .ref (ad 2), u0_44, u0_45, u0_46, u0_47, u0_48, u0_49, u0_50, u0_51, u0_52, u0_53, .ref (ad 3), u0_55, .int y0_56, u0_57, u0_58, u0_59, u0_60, u0_61, u0_62, u0_63, u0_64, u0_65, u0_66, u0_67, u0_68, u0_69, u0_70, u0_71, u0_72, u0_73])), (1, .inl (cy 0, 30, .inl d1)), (2, .inl (cy 0, 30, .inl d2)), (3, .inl (cy 2, 30, .inl d3))])) D 4 0 ad g A) (cc := cX12_add) (maxL := 3) (ret := none) (by decide) rfl (Nat.le_of_ble_eq_true rfl) ?_
  intro p e s m below meth c A hC hr hlk hnm hO ls hl
  have hC : CallFix p m c cX12_add 3 s [.ref (ad 0), .int minute, .int sacks].toArray wq_k_X12_add RX12 := hC
  obtain ⟨hx, hb, hml, hown, hts⟩ := id hC
  have hl : lv_has ls 3 [(0, .ref (ad 0)), (1, .int minute), (2, .int sacks)] := hl
  have i_X12 : ∀ w ∈ wsX120, w ∈ wq_k_X12_add := fun w h => List.mem_cons_of_mem _ (List.mem_append_right _ h)
  have hO := hO.notes [(0, .inr (12, [u0_0, u0_1, u0_2, u0_3, u0_4, u0_5, u0_6, u0_7, u0_8, u0_9, u0_10, u0_11, u0_12, u0_13, u0_14, u0_15, u0_16, u0_17, u0_18, u0_19, u0_20, u0_21, u0_22, u0_23, u0_24, u0_25, u0_26, u0_27, u0_28, u0_29, u0_30, u0_31, u0_32, u0_33, u0_34, u0_35, u0_36, u0_37, u0_38, u0_39, u0_40, u0_41, .ref (ad 1), .ref (ad 2), u0_44, u0_45, u0_46, u0_47, u0_48, u0_49, u0_50, u0_51, u0_52, u0_53, .ref (ad 3), u0_55, .int x0_56, u0_57, u0_58, u0_59, u0_60, u0_61, u0_62, u0_63, u0_64, u0_65, u0_66, u0_67, u0_68, u0_69, u0_70, u0_71, u0_72, u0_73])), (1, .inl (cy 0, 30, .inl c1)), (2, .inl (cy 0, 30, .inl c2)), (3, .inl (cy 2, 30, .inl c3))] (List.forall_mem_cons.mpr ⟨o0, List.forall_mem_cons.mpr ⟨a1, List.forall_mem_cons.mpr ⟨a2, List.forall_mem_cons.mpr ⟨a3, (fun _ h => absurd h List.not_mem_nil)⟩⟩⟩⟩)
  refine lv_aload_n hx hb ddX12_add_0 rfl (lv_at hl 0 rfl) ?_
  refine cg_get hC hO 0 (by decide) rfl rfl i_X12 42 (by decide) (List.mem_of_getElem? (i := 1) rfl) rfl ddX12_add_1 ?_
  refine lv_aload_n hx hb ddX12_add_4 rfl (lv_at hl 0 rfl) ?_
  refine cg_get hC hO 0 (by decide) rfl rfl i_X12 56 (by decide) (List.mem_of_getElem? (i := 2) rfl) rfl ddX12_add_5 ?_
  refine lv_iload_n hx hb ddX12_add_8 rfl (lv_at hl 1 rfl) ?_
  refine zg_iast hC hO 1 (by decide) rfl (za_all _) (zi_all minute) (zi_in b0_56 (by decide)) ddX12_add_9 (fun H locs c_9_19 zc_9_20 hO => ?_)
  have hO : cO D cy A s.heap s 4 ad (cup [(0, .inr (12, [u0_0, u0_1, u0_2, u0_3, u0_4, u0_5, u0_6, u0_7, u0_8, u0_9, u0_10, u0_11, u0_12, u0_13, u0_14, u0_15, u0_16, u0_17, u0_18, u0_19, u0_20, u0_21, u0_22, u0_23, u0_24, u0_25, u0_26, u0_27, u0_28, u0_29, u0_30, u0_31, u0_32, u0_33, u0_34, u0_35, u0_36, u0_37, u0_38, u0_39, u0_40, u0_41, .ref (ad 1), .ref (ad 2), u0_44, u0_45, u0_46, u0_47, u0_48, u0_49, u0_50, u0_51, u0_52, u0_53, .ref (ad 3), u0_55, .int x0_56, u0_57, u0_58, u0_59, u0_60, u0_61, u0_62, u0_63, u0_64, u0_65, u0_66, u0_67, u0_68, u0_69, u0_70, u0_71, u0_72, u0_73])), (1, .inl (cy 0, 30, .inl c_9_19)), (2, .inl (cy 0, 30, .inl c2)), (3, .inl (cy 2, 30, .inl c3))] g) _ _ := hO
  refine lv_aload_n hx hb ddX12_add_10 rfl (lv_at hl 0 rfl) ?_
  refine cg_get hC hO 0 (by decide) rfl rfl i_X12 43 (by decide) (List.mem_of_getElem? (i := 3) rfl) rfl ddX12_add_11 ?_
  refine lv_aload_n hx hb ddX12_add_14 rfl (lv_at hl 0 rfl) ?_
  refine cg_get hC hO 0 (by decide) rfl rfl i_X12 56 (by decide) (List.mem_of_getElem? (i := 2) rfl) rfl ddX12_add_15 ?_
  refine lv_iload_n hx hb ddX12_add_18 rfl (lv_at hl 2 rfl) ?_
  refine zg_iast hC hO 2 (by decide) rfl (za_all _) (zi_all sacks) (zi_in b0_56 (by decide)) ddX12_add_19 (fun H locs c_19_21 zc_19_22 hO => ?_)
  have hO : cO D cy A s.heap s 4 ad (cup [(0, .inr (12, [u0_0, u0_1, u0_2, u0_3, u0_4, u0_5, u0_6, u0_7, u0_8, u0_9, u0_10, u0_11, u0_12, u0_13, u0_14, u0_15, u0_16, u0_17, u0_18, u0_19, u0_20, u0_21, u0_22, u0_23, u0_24, u0_25, u0_26, u0_27, u0_28, u0_29, u0_30, u0_31, u0_32, u0_33, u0_34, u0_35, u0_36, u0_37, u0_38, u0_39, u0_40, u0_41, .ref (ad 1), .ref (ad 2), u0_44, u0_45, u0_46, u0_47, u0_48, u0_49, u0_50, u0_51, u0_52, u0_53, .ref (ad 3), u0_55, .int x0_56, u0_57, u0_58, u0_59, u0_60, u0_61, u0_62, u0_63, u0_64, u0_65, u0_66, u0_67, u0_68, u0_69, u0_70, u0_71, u0_72, u0_73])), (1, .inl (cy 0, 30, .inl c_9_19)), (2, .inl (cy 0, 30, .inl c_19_21)), (3, .inl (cy 2, 30, .inl c3))] g) _ _ := hO
  refine lv_aload_n hx hb ddX12_add_20 rfl (lv_at hl 0 rfl) ?_
  refine cg_get hC hO 0 (by decide) rfl rfl i_X12 54 (by decide) (List.mem_of_getElem? (i := 4) rfl) rfl ddX12_add_21 ?_
  refine lv_aload_n hx hb ddX12_add_24 rfl (lv_at hl 0 rfl) ?_
  refine cg_get hC hO 0 (by decide) rfl rfl i_X12 56 (by decide) (List.mem_of_getElem? (i := 2) rfl) rfl ddX12_add_25 ?_
  refine lv_iconst (v := 1) hx hb ddX12_add_28 (by decide) ?_
  refine zg_zast hC hO 3 (by decide) rfl ha3 (zi_k (a := 0) (b := 1) (x := 1) rfl) (zi_in b0_56 (by decide)) ddX12_add_29 (fun H locs c_29_23 zc_29_24 hO => ?_)
  have hO : cO D cy A s.heap s 4 ad (cup [(0, .inr (12, [u0_0, u0_1, u0_2, u0_3, u0_4, u0_5, u0_6, u0_7, u0_8, u0_9, u0_10, u0_11, u0_12, u0_13, u0_14, u0_15, u0_16, u0_17, u0_18, u0_19, u0_20, u0_21, u0_22, u0_23, u0_24, u0_25, u0_26, u0_27, u0_28, u0_29, u0_30, u0_31, u0_32, u0_33, u0_34, u0_35, u0_36, u0_37, u0_38, u0_39, u0_40, u0_41, .ref (ad 1), .ref (ad 2), u0_44, u0_45, u0_46, u0_47, u0_48, u0_49, u0_50, u0_51, u0_52, u0_53, .ref (ad 3), u0_55, .int x0_56, u0_57, u0_58, u0_59, u0_60, u0_61, u0_62, u0_63, u0_64, u0_65, u0_66, u0_67, u0_68, u0_69, u0_70, u0_71, u0_72, u0_73])), (1, .inl (cy 0, 30, .inl c_9_19)), (2, .inl (cy 0, 30, .inl c_19_21)), (3, .inl (cy 2, 30, .inl c_29_23))] g) _ _ := hO
  refine lv_aload_n hx hb ddX12_add_30 rfl (lv_at hl 0 rfl) ?_
  refine lv_dup hx hb ddX12_add_31 rfl ?_
  refine cg_get hC hO 0 (by decide) rfl rfl i_X12 56 (by decide) (List.mem_of_getElem? (i := 2) rfl) rfl ddX12_add_32 ?_
  refine lv_iconst (v := 1) hx hb ddX12_add_35 (by decide) ?_
  refine lv_iadd hx hb ddX12_add_36 ?_
  refine zg_top2 (P := fun v => zi 1 30 v) (E := fun v => v.toInt = x0_56.toInt + 1) (zi_addk b0_56 (n := 1) (by decide) (by decide)) (fun v_36_25 z_36_26 q_36_27 => ?_)
  refine cg_put hC hO 0 (by decide) rfl rfl i_X12 tyX12_ok nmX12 56 (by decide) (List.mem_of_getElem? (i := 2) rfl) rfl rfl rfl (Nat.le_of_ble_eq_true rfl) ddX12_add_37 (fun H locs hO => ?_)
  have hO : cO D cy A s.heap s 4 ad (cup [(0, .inr (12, [u0_0, u0_1, u0_2, u0_3, u0_4, u0_5, u0_6, u0_7, u0_8, u0_9, u0_10, u0_11, u0_12, u0_13, u0_14, u0_15, u0_16, u0_17, u0_18, u0_19, u0_20, u0_21, u0_22, u0_23, u0_24, u0_25, u0_26, u0_27, u0_28, u0_29, u0_30, u0_31, u0_32, u0_33, u0_34, u0_35, u0_36, u0_37, u0_38, u0_39, u0_40, u0_41, .ref (ad 1), .ref (ad 2), u0_44, u0_45, u0_46, u0_47, u0_48, u0_49, u0_50, u0_51, u0_52, u0_53, .ref (ad 3), u0_55, .int v_36_25, u0_57, u0_58, u0_59, u0_60, u0_61, u0_62, u0_63, u0_64, u0_65, u0_66, u0_67, u0_68, u0_69, u0_70, u0_71, u0_72, u0_73])), (1, .inl (cy 0, 30, .inl c_9_19)), (2, .inl (cy 0, 30, .inl c_19_21)), (3, .inl (cy 2, 30, .inl c_29_23))] g) _ _ := hO
  exact cg_vret (nw := fun _ => 0) hC hr hlk hO.same (Nat.le_of_ble_eq_true rfl) (Nat.le_of_ble_eq_true rfl) (⟨v_36_25, c_9_19, c_19_21, c_29_23, z_36_26, zc_29_24, q_36_27, rfl⟩) ddX12_add_40

theorem ddX12_layTurns_0 : decode cX12_layTurns 0 = .ok (.iconst 0, 1) := by decide +kernel
theorem ddX12_layTurns_1 : decode cX12_layTurns 1 = .ok (.istore_n 1, 1) := by decide +kernel
theorem ddX12_layTurns_2 : decode cX12_layTurns 2 = .ok (.iconst 0, 1) := by decide +kernel
theorem ddX12_layTurns_3 : decode cX12_layTurns 3 = .ok (.istore_n 2, 1) := by decide +kernel
theorem ddX12_layTurns_4 : decode cX12_layTurns 4 = .ok (.iload_n 2, 1) := by decide +kernel
theorem ddX12_layTurns_5 : decode cX12_layTurns 5 = .ok (.aload_n 0, 1) := by decide +kernel
theorem ddX12_layTurns_6 : decode cX12_layTurns 6 = .ok (.getfield 379, 3) := by decide +kernel
theorem ddX12_layTurns_9 : decode cX12_layTurns 9 = .ok (.if_icmp .ge 79, 3) := by decide +kernel
theorem ddX12_layTurns_12 : decode cX12_layTurns 12 = .ok (.aload_n 0, 1) := by decide +kernel
theorem ddX12_layTurns_13 : decode cX12_layTurns 13 = .ok (.getfield 137, 3) := by decide +kernel
theorem ddX12_layTurns_16 : decode cX12_layTurns 16 = .ok (.iload_n 2, 1) := by decide +kernel
theorem ddX12_layTurns_17 : decode cX12_layTurns 17 = .ok (.baload, 1) := by decide +kernel
theorem ddX12_layTurns_18 : decode cX12_layTurns 18 = .ok (.ifCond .ne 6, 3) := by decide +kernel
theorem ddX12_layTurns_21 : decode cX12_layTurns 21 = .ok (.goto 61, 3) := by decide +kernel
theorem ddX12_layTurns_24 : decode cX12_layTurns 24 = .ok (.iload_n 1, 1) := by decide +kernel
theorem ddX12_layTurns_25 : decode cX12_layTurns 25 = .ok (.istore_n 3, 1) := by decide +kernel
theorem ddX12_layTurns_26 : decode cX12_layTurns 26 = .ok (.iload_n 3, 1) := by decide +kernel
theorem ddX12_layTurns_27 : decode cX12_layTurns 27 = .ok (.ifCond .le 45, 3) := by decide +kernel
theorem ddX12_layTurns_30 : decode cX12_layTurns 30 = .ok (.aload_n 0, 1) := by decide +kernel
theorem ddX12_layTurns_31 : decode cX12_layTurns 31 = .ok (.getfield 101, 3) := by decide +kernel
theorem ddX12_layTurns_34 : decode cX12_layTurns 34 = .ok (.aload_n 0, 1) := by decide +kernel
theorem ddX12_layTurns_35 : decode cX12_layTurns 35 = .ok (.getfield 116, 3) := by decide +kernel
theorem ddX12_layTurns_38 : decode cX12_layTurns 38 = .ok (.iload_n 3, 1) := by decide +kernel
theorem ddX12_layTurns_39 : decode cX12_layTurns 39 = .ok (.iconst 1, 1) := by decide +kernel
theorem ddX12_layTurns_40 : decode cX12_layTurns 40 = .ok (.isub, 1) := by decide +kernel
theorem ddX12_layTurns_41 : decode cX12_layTurns 41 = .ok (.iaload, 1) := by decide +kernel
theorem ddX12_layTurns_42 : decode cX12_layTurns 42 = .ok (.iaload, 1) := by decide +kernel
theorem ddX12_layTurns_43 : decode cX12_layTurns 43 = .ok (.aload_n 0, 1) := by decide +kernel
theorem ddX12_layTurns_44 : decode cX12_layTurns 44 = .ok (.getfield 101, 3) := by decide +kernel
theorem ddX12_layTurns_47 : decode cX12_layTurns 47 = .ok (.iload_n 2, 1) := by decide +kernel
theorem ddX12_layTurns_48 : decode cX12_layTurns 48 = .ok (.iaload, 1) := by decide +kernel
theorem ddX12_layTurns_49 : decode cX12_layTurns 49 = .ok (.if_icmp .le 23, 3) := by decide +kernel
theorem ddX12_layTurns_52 : decode cX12_layTurns 52 = .ok (.aload_n 0, 1) := by decide +kernel
theorem ddX12_layTurns_53 : decode cX12_layTurns 53 = .ok (.getfield 116, 3) := by decide +kernel
theorem ddX12_layTurns_56 : decode cX12_layTurns 56 = .ok (.iload_n 3, 1) := by decide +kernel
theorem ddX12_layTurns_57 : decode cX12_layTurns 57 = .ok (.aload_n 0, 1) := by decide +kernel
theorem ddX12_layTurns_58 : decode cX12_layTurns 58 = .ok (.getfield 116, 3) := by decide +kernel
theorem ddX12_layTurns_61 : decode cX12_layTurns 61 = .ok (.iload_n 3, 1) := by decide +kernel
theorem ddX12_layTurns_62 : decode cX12_layTurns 62 = .ok (.iconst 1, 1) := by decide +kernel
theorem ddX12_layTurns_63 : decode cX12_layTurns 63 = .ok (.isub, 1) := by decide +kernel
theorem ddX12_layTurns_64 : decode cX12_layTurns 64 = .ok (.iaload, 1) := by decide +kernel
theorem ddX12_layTurns_65 : decode cX12_layTurns 65 = .ok (.iastore, 1) := by decide +kernel
theorem ddX12_layTurns_66 : decode cX12_layTurns 66 = .ok (.iinc 3 (-1), 3) := by decide +kernel
theorem ddX12_layTurns_69 : decode cX12_layTurns 69 = .ok (.goto (-43), 3) := by decide +kernel
theorem ddX12_layTurns_72 : decode cX12_layTurns 72 = .ok (.aload_n 0, 1) := by decide +kernel
theorem ddX12_layTurns_73 : decode cX12_layTurns 73 = .ok (.getfield 116, 3) := by decide +kernel
theorem ddX12_layTurns_76 : decode cX12_layTurns 76 = .ok (.iload_n 3, 1) := by decide +kernel
theorem ddX12_layTurns_77 : decode cX12_layTurns 77 = .ok (.iload_n 2, 1) := by decide +kernel
theorem ddX12_layTurns_78 : decode cX12_layTurns 78 = .ok (.iastore, 1) := by decide +kernel
theorem ddX12_layTurns_79 : decode cX12_layTurns 79 = .ok (.iinc 1 1, 3) := by decide +kernel
theorem ddX12_layTurns_82 : decode cX12_layTurns 82 = .ok (.iinc 2 1, 3) := by decide +kernel
theorem ddX12_layTurns_85 : decode cX12_layTurns 85 = .ok (.goto (-81), 3) := by decide +kernel
theorem ddX12_layTurns_88 : decode cX12_layTurns 88 = .ok (.iload_n 1, 1) := by decide +kernel
theorem ddX12_layTurns_89 : decode cX12_layTurns 89 = .ok (.ireturn, 1) := by decide +kernel
def wq_k_X12_layTurns : List Cond := Cond.code yX12_layTurns cX12_layTurns 4 (some .int) :: (([Cond.fieldLink RX12 379 "CrowTollModel" "dMany" "I", Cond.fieldLink RX12 137 "CrowTollModel" "dComes" "[Z", Cond.fieldLink RX12 116 "CrowTollModel" "turnOf" "[I", Cond.fieldLink RX12 101 "CrowTollModel" "dMinute" "[I"] : List Cond) ++ wsX120)
set_option maxHeartbeats 8000000 in
set_option maxRecDepth 100000 in
theorem k_X12_layTurns (l : Launch) (D : va_G) (cy : Nat → ClassId) (ad : Nat → Nat) (g : Nat → va_E) {u0_0 : Value} {u0_1 : Value} {u0_2 : Value} {u0_3 : Value} {u0_4 : Value} {u0_5 : Value} {u0_6 : Value} {u0_7 : Value} {u0_8 : Value} {u0_9 : Value} {u0_10 : Value} {u0_11 : Value} {u0_12 : Value} {u0_13 : Value} {u0_14 : Value} {u0_15 : Value} {u0_16 : Value} {u0_17 : Value} {u0_18 : Value} {u0_19 : Value} {u0_20 : Value} {u0_21 : Value} {u0_22 : Value} {u0_23 : Value} {u0_24 : Value} {u0_25 : Value} {u0_26 : Value} {u0_27 : Value} {u0_28 : Value} {u0_29 : Value} {u0_30 : Value} {u0_31 : Value} {u0_32 : Value} {u0_33 : Value} {u0_34 : Value} {u0_35 : Value} {u0_36 : Value} {u0_37 : Value} {u0_38 : Value} {u0_39 : Value} {u0_40 : Value} {u0_41 : Value} {u0_43 : Value} {u0_44 : Value} {u0_45 : Value} {u0_46 : Value} {u0_48 : Value} {u0_49 : Value} {u0_50 : Value} {u0_51 : Value} {u0_52 : Value} {u0_53 : Value} {u0_55 : Value} {x0_56 : Int32} {u0_57 : Value} {u0_58 : Value} {u0_59 : Value} {u0_60 : Value} {u0_61 : Value} {u0_62 : Value} {u0_63 : Value} {u0_64 : Value} {u0_65 : Value} {u0_66 : Value} {u0_67 : Value} {u0_68 : Value} {u0_69 : Value} {u0_70 : Value} {u0_71 : Value} {u0_72 : Value} {u0_73 : Value} {c1 : Nat → Int32} {c2 : Nat → Int32} {c3 : Nat → Int32} (o0 : g 0 = .inr (12, [u0_0, u0_1, u0_2, u0_3, u0_4, u0_5, u0_6, u0_7, u0_8, u0_9, u0_10, u0_11, u0_12, u0_13, u0_14, u0_15, u0_16, u0_17, u0_18, u0_19, u0_20, u0_21, u0_22, u0_23, u0_24, u0_25, u0_26, u0_27, u0_28, u0_29, u0_30, u0_31, u0_32, u0_33, u0_34, u0_35, u0_36, u0_37, u0_38, u0_39, u0_40, u0_41, .ref (ad 3), u0_43, u0_44, u0_45, u0_46, .ref (ad 2), u0_48, u0_49, u0_50, u0_51, u0_52, u0_53, .ref (ad 1), u0_55, .int x0_56, u0_57, u0_58, u0_59, u0_60, u0_61, u0_62, u0_63, u0_64, u0_65, u0_66, u0_67, u0_68, u0_69, u0_70, u0_71, u0_72, u0_73])) (a1 : g 1 = .inl (cy 2, 30, .inl c1)) (a2 : g 2 = .inl (cy 0, 30, .inl c2)) (a3 : g 3 = .inl (cy 0, 30, .inl c3)) (b0_56 : zi 0 30 x0_56) (ha1 : za 0 1 c1) (ha2 : za 0 29 c2) : cMi l yX12_layTurns wq_k_X12_layTurns { frames := 0, cells := 0, slots := 0, locals := 0 } 4 0 0 0 D cy ad g [.ref (ad 0)] (fun r nw lu => ∃ (d2 : Nat → Int32), (za 0 29 d2) ∧ (zi 0 30 r) ∧ (lu = [(2, .inl (cy 0, 30, .inl d2))])) := by
  refine cM_of (Qc := fun A => cQi (fun r nw lu => ∃ (d2 : Nat → Int32), (za 0 29 d2) ∧ (zi 0 30 r) ∧ (lu = [(2, .inl (cy 0, 30, .inl d2))])) D 4 0 ad g A) (cc := cX12_layTurns) (maxL := 4) (ret := (some .int)) (by decide) rfl (Nat.le_of_ble_eq_true rfl) ?_
  intro p e s m below meth c A hC hr hlk hnm hO ls hl
  have hC : CallFix p m c cX12_layTurns 4 s [.ref (ad 0)].toArray wq_k_X12_layTurns RX12 := hC
  obtain ⟨hx, hb, hml, hown, hts⟩ := id hC
  have hl : lv_has ls 4 [(0, .ref (ad 0))] := hl
  have i_X12 : ∀ w ∈ wsX120, w ∈ wq_k_X12_layTurns := fun w h => List.mem_cons_of_mem _ (List.mem_append_right _ h)
  have hO := hO.notes [(2, .inl (cy 0, 30, .inl c2))] (List.forall_mem_cons.mpr ⟨a2, (fun _ h => absurd h List.not_mem_nil)⟩)
  refine lv_iconst (v := 0) hx hb ddX12_layTurns_0 (by decide) ?_
  refine lv_istore_n (lv' := [(1, .int 0), (0, .ref (ad 0))]) hx hb ddX12_layTurns_1 rfl hl (by decide) rfl (fun ls hl => ?_)
  refine lv_iconst (v := 0) hx hb ddX12_layTurns_2 (by decide) ?_
  refine lv_istore_n (lv' := [(2, .int 0), (1, .int 0), (0, .ref (ad 0))]) hx hb ddX12_layTurns_3 rfl hl (by decide) rfl (fun ls hl => ?_)
  have loop_4_3658 : ∀ (d_4_3659 : Nat) (v_4_3415 : Int32) (v_4_3417 : Int32) (c_4_3419 : Nat → Int32), zi 0 30 v_4_3415 → zi 0 30 v_4_3417 → za 0 29 c_4_3419 → (v_4_3417 : Int32).toInt ≤ (v_4_3415 : Int32).toInt → (30 + 1 - v_4_3415.toInt).toNat < d_4_3659 → ∀ (H : Heap) (locs : List Loc), cO D cy A s.heap s 4 ad (cup [(2, .inl (cy 0, 30, .inl c_4_3419))] g) H locs → ∀ ls : Array Slot, lv_has ls 4 [(2, .int v_4_3415), (1, .int v_4_3417), (0, .ref (ad 0))] → W p l e { frames := 0, cells := 0, slots := 0, locals := 0 } s m [.ref (ad 0)].toArray below meth c H locs 0 0 (MQ below (cQi (fun r nw lu => ∃ (d2 : Nat → Int32), (za 0 29 d2) ∧ (zi 0 30 r) ∧ (lu = [(2, .inl (cy 0, 30, .inl d2))])) D 4 0 ad g A) [.ref (ad 0)].toArray s 0 0 A) (F0 m 4 ls [])  := by
    intro d_4_3659
    induction d_4_3659 with
    | zero => intro v_4_3415 v_4_3417 c_4_3419 z_4_3416 z_4_3418 zc_4_3420 q_4_3421 mu_4_3660; exact absurd mu_4_3660 (Nat.not_lt_zero _)
    | succ d_4_3659 ih_4_3661 =>
      intro v_4_3415 v_4_3417 c_4_3419 z_4_3416 z_4_3418 zc_4_3420 q_4_3421 mu_4_3660 H locs hO ls hl
      refine lv_iload_n hx hb ddX12_layTurns_4 rfl (lv_at hl 0 rfl) ?_
      refine lv_aload_n hx hb ddX12_layTurns_5 rfl (lv_at hl 2 rfl) ?_
      refine cg_get hC hO 0 (by decide) o0 rfl i_X12 56 (by decide) (List.mem_of_getElem? (i := 1) rfl) rfl ddX12_layTurns_6 ?_
      refine lv_icmp_ge (tgt := 88) hx hb ddX12_layTurns_9 (by decide) (fun h_9_3662 => ?_) (fun h_9_3662 => ?_)
      · have q_9_3663 := zr_le h_9_3662
        refine lv_iload_n hx hb ddX12_layTurns_88 rfl (lv_at hl 1 rfl) ?_
        exact cg_iret (nw := fun _ => 0) hC hr hlk hO.same rfl (Nat.le_of_ble_eq_true rfl) (Nat.le_of_ble_eq_true rfl) (⟨c_4_3419, zc_4_3420, z_4_3418, rfl⟩) ddX12_layTurns_89
      · have q_9_3664 := zr_nle h_9_3662
        have z_9_3665 : zi 0 29 v_4_3415 := zu_lt q_9_3664 z_4_3416 b0_56 (by decide)
        have z_9_3666 : zi 0 29 v_4_3417 := zu_le q_4_3421 z_4_3418 z_9_3665 (by decide)
        have z_9_3667 : zi 1 30 x0_56 := zd_lt q_9_3664 z_4_3416 b0_56 (by decide)
        refine lv_aload_n hx hb ddX12_layTurns_12 rfl (lv_at hl 2 rfl) ?_
        refine cg_get hC hO 0 (by decide) o0 rfl i_X12 54 (by decide) (List.mem_of_getElem? (i := 2) rfl) rfl ddX12_layTurns_13 ?_
        refine lv_iload_n hx hb ddX12_layTurns_16 rfl (lv_at hl 0 rfl) ?_
        refine zg_zald hC hO 1 (by decide) a1 ha1 (zi_in z_9_3665 (by decide)) ddX12_layTurns_17 (fun v_17_3668 z_17_3669 => ?_)
        refine lv_if_ne (tgt := 24) hx hb ddX12_layTurns_18 (by decide) (fun h_18_3670 => ?_) (fun h_18_3670 => ?_)
        · have q_18_3671 := zr_ne h_18_3670
          have z_18_3672 : zi 1 1 v_17_3668 := zn_lo q_18_3671 z_17_3669 (zi_k (a := 0) (b := 0) (x := 0) rfl) (by decide)
          refine lv_iload_n hx hb ddX12_layTurns_24 rfl (lv_at hl 1 rfl) ?_
          refine lv_istore_n (lv' := [(3, .int v_4_3417), (2, .int v_4_3415), (1, .int v_4_3417), (0, .ref (ad 0))]) hx hb ddX12_layTurns_25 rfl hl (by decide) rfl (fun ls hl => ?_)
          have loop_26_3892 : ∀ (d_26_3893 : Nat) (v_26_3819 : Int32) (c_26_3821 : Nat → Int32), zi 0 29 v_26_3819 → za 0 29 c_26_3821 → (v_26_3819.toInt - 0 + 1).toNat < d_26_3893 → ∀ (H : Heap) (locs : List Loc), cO D cy A s.heap s 4 ad (cup [(2, .inl (cy 0, 30, .inl c_26_3821))] g) H locs → ∀ ls : Array Slot, lv_has ls 4 [(3, .int v_26_3819), (2, .int v_4_3415), (1, .int v_4_3417), (0, .ref (ad 0))] → W p l e { frames := 0, cells := 0, slots := 0, locals := 0 } s m [.ref (ad 0)].toArray below meth c H locs 0 0 (MQ below (cQi (fun r nw lu => ∃ (d2 : Nat → Int32), (za 0 29 d2) ∧ (zi 0 30 r) ∧ (lu = [(2, .inl (cy 0, 30, .inl d2))])) D 4 0 ad g A) [.ref (ad 0)].toArray s 0 0 A) (F0 m 26 ls [])  := by
            intro d_26_3893
            induction d_26_3893 with
            | zero => intro v_26_3819 c_26_3821 z_26_3820 zc_26_3822 mu_26_3894; exact absurd mu_26_3894 (Nat.not_lt_zero _)
            | succ d_26_3893 ih_26_3895 =>
              intro v_26_3819 c_26_3821 z_26_3820 zc_26_3822 mu_26_3894 H locs hO ls hl
              refine lv_iload_n hx hb ddX12_layTurns_26 rfl (lv_at hl 0 rfl) ?_
              have J_72_3926 : ∀ (H : Heap) (locs : List Loc), cO D cy A s.heap s 4 ad (cup [(2, .inl (cy 0, 30, .inl c_26_3821))] g) H locs → ∀ ls : Array Slot, lv_has ls 4 [(3, .int v_26_3819), (2, .int v_4_3415), (1, .int v_4_3417), (0, .ref (ad 0))] → W p l e { frames := 0, cells := 0, slots := 0, locals := 0 } s m [.ref (ad 0)].toArray below meth c H locs 0 0 (MQ below (cQi (fun r nw lu => ∃ (d2 : Nat → Int32), (za 0 29 d2) ∧ (zi 0 30 r) ∧ (lu = [(2, .inl (cy 0, 30, .inl d2))])) D 4 0 ad g A) [.ref (ad 0)].toArray s 0 0 A) (F0 m 72 ls []) := by
                intro  H locs hO ls hl
                refine lv_aload_n hx hb ddX12_layTurns_72 rfl (lv_at hl 3 rfl) ?_
                refine cg_get hC hO 0 (by decide) o0 rfl i_X12 47 (by decide) (List.mem_of_getElem? (i := 3) rfl) rfl ddX12_layTurns_73 ?_
                refine lv_iload_n hx hb ddX12_layTurns_76 rfl (lv_at hl 0 rfl) ?_
                refine lv_iload_n hx hb ddX12_layTurns_77 rfl (lv_at hl 1 rfl) ?_
                refine zg_iast hC hO 2 (by decide) rfl zc_26_3822 z_9_3665 (zi_in z_26_3820 (by decide)) ddX12_layTurns_78 (fun H locs c_78_3927 zc_78_3928 hO => ?_)
                have hO : cO D cy A s.heap s 4 ad (cup [(2, .inl (cy 0, 30, .inl c_78_3927))] g) _ _ := hO
                obtain ⟨v_79_3929, e_79_3930, z_79_3931, q_79_3932⟩ := zi_inc (e := 1) (f := 30) 1 z_9_3666 (by decide)
                refine lv_iinc (v := v_79_3929) (lv' := [(1, .int v_79_3929), (3, .int v_26_3819), (2, .int v_4_3415), (0, .ref (ad 0))]) hx hb ddX12_layTurns_79 hl (k := 2) rfl e_79_3930 (by decide) rfl (fun ls hl => ?_)
                obtain ⟨v_82_3933, e_82_3934, z_82_3935, q_82_3936⟩ := zi_inc (e := 1) (f := 30) 1 z_9_3665 (by decide)
                refine lv_iinc (v := v_82_3933) (lv' := [(2, .int v_82_3933), (1, .int v_79_3929), (3, .int v_26_3819), (0, .ref (ad 0))]) hx hb ddX12_layTurns_82 hl (k := 2) rfl e_82_3934 (by decide) rfl (fun ls hl => ?_)
                refine lv_goto (tgt := 4) hx hb ddX12_layTurns_85 (by decide) ?_
                exact ih_4_3661 v_82_3933 v_79_3929 c_78_3927 (zi_w (c := 0) (d := 30) z_82_3935 (by decide)) (zi_w (c := 0) (d := 30) z_79_3931 (by decide)) zc_78_3928 (show (v_79_3929 : Int32).toInt ≤ (v_82_3933 : Int32).toInt by have := z_79_3931; have := z_82_3935; have z0 : (0 : Int32).toInt = 0 := (by decide); omega) (zm_up q_82_3936 ((zi_w (c := 0) (d := 30) z_82_3935 (by decide))).2 (by decide) mu_4_3660) _ _ hO ls (lv_sub hl [0, 1, 3] rfl)
              refine lv_if_le (tgt := 72) hx hb ddX12_layTurns_27 (by decide) (fun h_27_3896 => ?_) (fun h_27_3896 => ?_)
              · have q_27_3937 := zr_le h_27_3896
                have z_27_3938 : zi 0 0 v_26_3819 := zu_le q_27_3937 z_26_3820 (zi_k (a := 0) (b := 0) (x := 0) rfl) (by decide)
                exact J_72_3926  _ _ hO ls (lv_sub hl [0, 1, 2, 3] rfl)
              · have q_27_3939 := zr_nle h_27_3896
                have z_27_3940 : zi 1 29 v_26_3819 := zd_lt q_27_3939 (zi_k (a := 0) (b := 0) (x := 0) rfl) z_26_3820 (by decide)
                refine lv_aload_n hx hb ddX12_layTurns_30 rfl (lv_at hl 3 rfl) ?_
                refine cg_get hC hO 0 (by decide) o0 rfl i_X12 42 (by decide) (List.mem_of_getElem? (i := 4) rfl) rfl ddX12_layTurns_31 ?_
                refine lv_aload_n hx hb ddX12_layTurns_34 rfl (lv_at hl 3 rfl) ?_
                refine cg_get hC hO 0 (by decide) o0 rfl i_X12 47 (by decide) (List.mem_of_getElem? (i := 3) rfl) rfl ddX12_layTurns_35 ?_
                refine lv_iload_n hx hb ddX12_layTurns_38 rfl (lv_at hl 0 rfl) ?_
                refine lv_iconst (v := 1) hx hb ddX12_layTurns_39 (by decide) ?_
                refine lv_isub hx hb ddX12_layTurns_40 ?_
                refine zg_top2 (P := fun v => zi 0 28 v) (E := fun v => v.toInt = v_26_3819.toInt + -1) (zi_subk z_27_3940 (n := 1) (by decide) (by decide)) (fun v_40_3941 z_40_3942 q_40_3943 => ?_)
                refine zg_iald hC hO 2 (by decide) rfl zc_26_3822 (zi_in z_40_3942 (by decide)) ddX12_layTurns_41 (fun v_41_3944 z_41_3945 => ?_)
                refine zg_iald hC hO 3 (by decide) a3 (za_all _) (zi_in z_41_3945 (by decide)) ddX12_layTurns_42 (fun v_42_3946 z_42_3947 => ?_)
                refine lv_aload_n hx hb ddX12_layTurns_43 rfl (lv_at hl 3 rfl) ?_
                refine cg_get hC hO 0 (by decide) o0 rfl i_X12 42 (by decide) (List.mem_of_getElem? (i := 4) rfl) rfl ddX12_layTurns_44 ?_
                refine lv_iload_n hx hb ddX12_layTurns_47 rfl (lv_at hl 1 rfl) ?_
                refine zg_iald hC hO 3 (by decide) a3 (za_all _) (zi_in z_9_3665 (by decide)) ddX12_layTurns_48 (fun v_48_3948 z_48_3949 => ?_)
                refine lv_icmp_le (tgt := 72) hx hb ddX12_layTurns_49 (by decide) (fun h_49_3950 => ?_) (fun h_49_3950 => ?_)
                · have q_49_3951 := zr_le h_49_3950
                  exact J_72_3926  _ _ hO ls (lv_sub hl [0, 1, 2, 3] rfl)
                · have q_49_3952 := zr_nle h_49_3950
                  have z_49_3953 : zi (-2147483648) 2147483646 v_48_3948 := zu_lt q_49_3952 z_48_3949 z_42_3947 (by decide)
                  have z_49_3954 : zi (-2147483647) 2147483647 v_42_3946 := zd_lt q_49_3952 z_48_3949 z_42_3947 (by decide)
                  refine lv_aload_n hx hb ddX12_layTurns_52 rfl (lv_at hl 3 rfl) ?_
                  refine cg_get hC hO 0 (by decide) o0 rfl i_X12 47 (by decide) (List.mem_of_getElem? (i := 3) rfl) rfl ddX12_layTurns_53 ?_
                  refine lv_iload_n hx hb ddX12_layTurns_56 rfl (lv_at hl 0 rfl) ?_
                  refine lv_aload_n hx hb ddX12_layTurns_57 rfl (lv_at hl 3 rfl) ?_
                  refine cg_get hC hO 0 (by decide) o0 rfl i_X12 47 (by decide) (List.mem_of_getElem? (i := 3) rfl) rfl ddX12_layTurns_58 ?_
                  refine lv_iload_n hx hb ddX12_layTurns_61 rfl (lv_at hl 0 rfl) ?_
                  refine lv_iconst (v := 1) hx hb ddX12_layTurns_62 (by decide) ?_
                  refine lv_isub hx hb ddX12_layTurns_63 ?_
                  refine zg_top2 (P := fun v => zi 0 28 v) (E := fun v => v.toInt = v_26_3819.toInt + -1) (zi_subk z_27_3940 (n := 1) (by decide) (by decide)) (fun v_63_3955 z_63_3956 q_63_3957 => ?_)
                  refine zg_iald hC hO 2 (by decide) rfl zc_26_3822 (zi_in z_63_3956 (by decide)) ddX12_layTurns_64 (fun v_64_3958 z_64_3959 => ?_)
                  refine zg_iast hC hO 2 (by decide) rfl zc_26_3822 z_64_3959 (zi_in z_27_3940 (by decide)) ddX12_layTurns_65 (fun H locs c_65_3960 zc_65_3961 hO => ?_)
                  have hO : cO D cy A s.heap s 4 ad (cup [(2, .inl (cy 0, 30, .inl c_65_3960))] g) _ _ := hO
                  obtain ⟨v_66_3962, e_66_3963, z_66_3964, q_66_3965⟩ := zi_inc (e := 0) (f := 28) (-1) z_27_3940 (by decide)
                  refine lv_iinc (v := v_66_3962) (lv' := [(3, .int v_66_3962), (2, .int v_4_3415), (1, .int v_4_3417), (0, .ref (ad 0))]) hx hb ddX12_layTurns_66 hl (k := 0) rfl e_66_3963 (by decide) rfl (fun ls hl => ?_)
                  refine lv_goto (tgt := 26) hx hb ddX12_layTurns_69 (by decide) ?_
                  exact ih_26_3895 v_66_3962 c_65_3960 (zi_w (c := 0) (d := 29) z_66_3964 (by decide)) zc_65_3961 (zm_dn q_66_3965 ((zi_w (c := 0) (d := 29) z_66_3964 (by decide))).1 (by decide) mu_26_3894) _ _ hO ls (lv_sub hl [0, 1, 2, 3] rfl)
          exact loop_26_3892 (((v_4_3417 : Int32).toInt - 0 + 1).toNat + 1) v_4_3417 c_4_3419 z_9_3666 zc_4_3420 (Nat.lt_succ_self _) _ _ hO ls (lv_sub hl [0, 1, 2, 3] rfl)
        · have q_18_3966 := zr_eq h_18_3670
          have z_18_3967 : zi 0 0 v_17_3668 := ze_eq q_18_3966 z_17_3669 (zi_k (a := 0) (b := 0) (x := 0) rfl)
          refine lv_goto (tgt := 82) hx hb ddX12_layTurns_21 (by decide) ?_
          obtain ⟨v_82_3968, e_82_3969, z_82_3970, q_82_3971⟩ := zi_inc (e := 1) (f := 30) 1 z_9_3665 (by decide)
          refine lv_iinc (v := v_82_3968) (lv' := [(2, .int v_82_3968), (1, .int v_4_3417), (0, .ref (ad 0))]) hx hb ddX12_layTurns_82 hl (k := 0) rfl e_82_3969 (by decide) rfl (fun ls hl => ?_)
          refine lv_goto (tgt := 4) hx hb ddX12_layTurns_85 (by decide) ?_
          exact ih_4_3661 v_82_3968 v_4_3417 c_4_3419 (zi_w (c := 0) (d := 30) z_82_3970 (by decide)) (zi_w (c := 0) (d := 30) z_9_3666 (by decide)) zc_4_3420 (show (v_4_3417 : Int32).toInt ≤ (v_82_3968 : Int32).toInt by have := z_9_3666; have := z_82_3970; have z0 : (0 : Int32).toInt = 0 := (by decide); omega) (zm_up q_82_3971 ((zi_w (c := 0) (d := 30) z_82_3970 (by decide))).2 (by decide) mu_4_3660) _ _ hO ls (lv_sub hl [0, 1, 2] rfl)
  exact loop_4_3658 ((30 + 1 - (0 : Int32).toInt).toNat + 1) 0 0 c2 (zi_k (a := 0) (b := 30) (x := 0) rfl) (zi_k (a := 0) (b := 30) (x := 0) rfl) ha2 (by decide) (Nat.lt_succ_self _) _ _ hO ls (lv_sub hl [0, 1, 2] rfl)

