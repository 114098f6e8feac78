theorem ddX10_load_0 : decode cX10_load 0 = .ok (.iload_n 2, 1) := by decide +kernel
theorem ddX10_load_1 : decode cX10_load 1 = .ok (.bipush 15, 2) := by decide +kernel
theorem ddX10_load_3 : decode cX10_load 3 = .ok (.imul, 1) := by decide +kernel
theorem ddX10_load_4 : decode cX10_load 4 = .ok (.istore_n 3, 1) := by decide +kernel
theorem ddX10_load_5 : decode cX10_load 5 = .ok (.iload_n 3, 1) := by decide +kernel
theorem ddX10_load_6 : decode cX10_load 6 = .ok (.ifCond .lt 50, 3) := by decide +kernel
theorem ddX10_load_9 : decode cX10_load 9 = .ok (.iload_n 3, 1) := by decide +kernel
theorem ddX10_load_10 : decode cX10_load 10 = .ok (.bipush 15, 2) := by decide +kernel
theorem ddX10_load_12 : decode cX10_load 12 = .ok (.iadd, 1) := by decide +kernel
theorem ddX10_load_13 : decode cX10_load 13 = .ok (.aload_n 1, 1) := by decide +kernel
theorem ddX10_load_14 : decode cX10_load 14 = .ok (.arraylength, 1) := by decide +kernel
theorem ddX10_load_15 : decode cX10_load 15 = .ok (.if_icmp .gt 41, 3) := by decide +kernel
theorem ddX10_load_18 : decode cX10_load 18 = .ok (.aload_n 1, 1) := by decide +kernel
theorem ddX10_load_19 : decode cX10_load 19 = .ok (.iload_n 3, 1) := by decide +kernel
theorem ddX10_load_20 : decode cX10_load 20 = .ok (.aload_n 0, 1) := by decide +kernel
theorem ddX10_load_21 : decode cX10_load 21 = .ok (.getfield 21, 3) := by decide +kernel
theorem ddX10_load_24 : decode cX10_load 24 = .ok (.iconst 0, 1) := by decide +kernel
theorem ddX10_load_25 : decode cX10_load 25 = .ok (.iconst 5, 1) := by decide +kernel
theorem ddX10_load_26 : decode cX10_load 26 = .ok (.invokestatic 37, 3) := by decide +kernel
theorem ddX10_load_29 : decode cX10_load 29 = .ok (.aload_n 1, 1) := by decide +kernel
theorem ddX10_load_30 : decode cX10_load 30 = .ok (.iload_n 3, 1) := by decide +kernel
theorem ddX10_load_31 : decode cX10_load 31 = .ok (.iconst 5, 1) := by decide +kernel
theorem ddX10_load_32 : decode cX10_load 32 = .ok (.iadd, 1) := by decide +kernel
theorem ddX10_load_33 : decode cX10_load 33 = .ok (.aload_n 0, 1) := by decide +kernel
theorem ddX10_load_34 : decode cX10_load 34 = .ok (.getfield 27, 3) := by decide +kernel
theorem ddX10_load_37 : decode cX10_load 37 = .ok (.iconst 0, 1) := by decide +kernel
theorem ddX10_load_38 : decode cX10_load 38 = .ok (.iconst 5, 1) := by decide +kernel
theorem ddX10_load_39 : decode cX10_load 39 = .ok (.invokestatic 37, 3) := by decide +kernel
theorem ddX10_load_42 : decode cX10_load 42 = .ok (.aload_n 1, 1) := by decide +kernel
theorem ddX10_load_43 : decode cX10_load 43 = .ok (.iload_n 3, 1) := by decide +kernel
theorem ddX10_load_44 : decode cX10_load 44 = .ok (.bipush 10, 2) := by decide +kernel
theorem ddX10_load_46 : decode cX10_load 46 = .ok (.iadd, 1) := by decide +kernel
theorem ddX10_load_47 : decode cX10_load 47 = .ok (.aload_n 0, 1) := by decide +kernel
theorem ddX10_load_48 : decode cX10_load 48 = .ok (.getfield 30, 3) := by decide +kernel
theorem ddX10_load_51 : decode cX10_load 51 = .ok (.iconst 0, 1) := by decide +kernel
theorem ddX10_load_52 : decode cX10_load 52 = .ok (.iconst 5, 1) := by decide +kernel
theorem ddX10_load_53 : decode cX10_load 53 = .ok (.invokestatic 37, 3) := by decide +kernel
theorem ddX10_load_56 : decode cX10_load 56 = .ok (.return_, 1) := by decide +kernel
def wq_k_X10_load : List Cond := Cond.code yX10_load cX10_load 4 none :: (([Cond.fieldLink RX10 21 "CrowToll$Watch" "count" "[I", Cond.methodLink RX10 37 arraycopyName, Cond.native arraycopyName, Cond.static arraycopyName, Cond.initialized "java/lang/System", Cond.fieldLink RX10 27 "CrowToll$Watch" "lookedAt" "[I", Cond.fieldLink RX10 30 "CrowToll$Watch" "countedAt" "[I"] : List Cond) ++ wsX100)
set_option maxHeartbeats 8000000 in
set_option maxRecDepth 100000 in
theorem k_X10_load (l : Launch) (D : va_G) (cy : Nat → ClassId) (ad : Nat → Nat) (g : Nat → va_E) {u0_0 : Value} {u0_1 : Value} {u0_2 : Value} {u0_3 : Value} {u0_5 : Value} {c1 : Nat → Int32} {c2 : Nat → Int32} {c3 : Nat → Int32} {c4 : Nat → Int32} {row : Int32} (o0 : g 0 = .inr (10, [u0_0, u0_1, u0_2, u0_3, .ref (ad 2), u0_5, .ref (ad 3), .ref (ad 4)])) (a1 : g 1 = .inl (cy 0, 180, .inl c1)) (a2 : g 2 = .inl (cy 0, 5, .inl c2)) (a3 : g 3 = .inl (cy 0, 5, .inl c3)) (a4 : g 4 = .inl (cy 0, 5, .inl c4)) (p_row : zi 0 12 row) : cMv l yX10_load wq_k_X10_load { frames := 1, cells := 0, slots := 0, locals := 60 } 5 0 0 0 D cy ad g [.ref (ad 0), .ref (ad 1), .int row] (fun nw lu => ∃ (d2 : Nat → Int32) (d3 : Nat → Int32) (d4 : Nat → Int32), lu = [(2, .inl (cy 0, 5, .inl d2)), (3, .inl (cy 0, 5, .inl d3)), (4, .inl (cy 0, 5, .inl d4))]) := by
  refine cM_of (Qc := fun A => cQv (fun nw lu => ∃ (d2 : Nat → Int32) (d3 : Nat → Int32) (d4 : Nat → Int32), lu = [(2, .inl (cy 0, 5, .inl d2)), (3, .inl (cy 0, 5, .inl d3)), (4, .inl (cy 0, 5, .inl d4))]) D 5 0 ad g A) (cc := cX10_load) (maxL := 4) (ret := none) (by decide) rfl (Nat.le_of_ble_eq_true rfl) ?_
  intro p e s m below meth c A hC hr hlk hnm hO ls hl
  have hC : CallFix p m c cX10_load 4 s [.ref (ad 0), .ref (ad 1), .int row].toArray wq_k_X10_load RX10 := hC
  obtain ⟨hx, hb, hml, hown, hts⟩ := id hC
  have hl : lv_has ls 4 [(0, .ref (ad 0)), (1, .ref (ad 1)), (2, .int row)] := hl
  have i_X10 : ∀ w ∈ wsX100, w ∈ wq_k_X10_load := fun w h => List.mem_cons_of_mem _ (List.mem_append_right _ h)
  have hO := hO.notes [(2, .inl (cy 0, 5, .inl c2)), (3, .inl (cy 0, 5, .inl c3)), (4, .inl (cy 0, 5, .inl c4))] (List.forall_mem_cons.mpr ⟨a2, List.forall_mem_cons.mpr ⟨a3, List.forall_mem_cons.mpr ⟨a4, (fun _ h => absurd h List.not_mem_nil)⟩⟩⟩)
  refine lv_iload_n hx hb ddX10_load_0 rfl (lv_at hl 2 rfl) ?_
  refine lv_bipush (v := 15) hx hb ddX10_load_1 (by decide) ?_
  refine lv_imul hx hb ddX10_load_3 ?_
  refine zg_top (P := fun v => zi 0 180 v) ((zi_mul p_row (zi_k (a := 15) (b := 15) (x := 15) rfl) (by decide)).1) (fun v_3_53 z_3_54 => ?_)
  refine lv_istore_n (lv' := [(3, .int v_3_53), (0, .ref (ad 0)), (1, .ref (ad 1)), (2, .int row)]) hx hb ddX10_load_4 rfl hl (by decide) rfl (fun ls hl => ?_)
  refine lv_iload_n hx hb ddX10_load_5 rfl (lv_at hl 0 rfl) ?_
  refine lv_if_lt (tgt := 56) hx hb ddX10_load_6 (by decide) (fun h_6_55 => (zx_lt (zr_lt h_6_55) z_3_54 (zi_k (a := 0) (b := 0) (x := 0) rfl) (by decide)).elim) (fun h_6_55 => ?_)
  have q_6_56 := zr_nlt h_6_55
  refine lv_iload_n hx hb ddX10_load_9 rfl (lv_at hl 0 rfl) ?_
  refine lv_bipush (v := 15) hx hb ddX10_load_10 (by decide) ?_
  refine lv_iadd hx hb ddX10_load_12 ?_
  refine zg_top2 (P := fun v => zi 15 195 v) (E := fun v => v.toInt = v_3_53.toInt + 15) (zi_addk z_3_54 (n := 15) (by decide) (by decide)) (fun v_12_57 z_12_58 q_12_59 => ?_)
  refine lv_aload_n hx hb ddX10_load_13 rfl (lv_at hl 2 rfl) ?_
  refine cg_alen hC hO 1 0 (by decide) rfl a1 (v := 180) rfl ddX10_load_14 ?_
  refine lv_icmp_gt (tgt := 56) hx hb ddX10_load_15 (by decide) (fun h_15_60 => ?_) (fun h_15_60 => ?_)
  · have q_15_61 := zr_lt h_15_60
    have z_15_62 : zi 181 195 v_12_57 := zd_lt q_15_61 (zi_k (a := 180) (b := 180) (x := 180) rfl) z_12_58 (by decide)
    have z_15_63 : zi 166 180 v_3_53 := zp_add q_12_59 z_15_62 z_3_54 (by decide)
    exact cg_vret (nw := fun _ => 0) hC hr hlk hO.same (Nat.le_of_ble_eq_true rfl) (Nat.le_of_ble_eq_true rfl) (⟨c2, c3, c4, rfl⟩) ddX10_load_56
  · have q_15_64 := zr_nlt h_15_60
    have z_15_65 : zi 15 180 v_12_57 := zu_le q_15_64 z_12_58 (zi_k (a := 180) (b := 180) (x := 180) rfl) (by decide)
    have z_15_66 : zi 0 165 v_3_53 := zp_add q_12_59 z_15_65 z_3_54 (by decide)
    refine lv_aload_n hx hb ddX10_load_18 rfl (lv_at hl 2 rfl) ?_
    refine lv_iload_n hx hb ddX10_load_19 rfl (lv_at hl 0 rfl) ?_
    refine lv_aload_n hx hb ddX10_load_20 rfl (lv_at hl 1 rfl) ?_
    refine cg_get hC hO 0 (by decide) o0 rfl i_X10 4 (by decide) (List.mem_of_getElem? (i := 1) rfl) rfl ddX10_load_21 ?_
    refine lv_iconst (v := 0) hx hb ddX10_load_24 (by decide) ?_
    refine lv_iconst (v := 5) hx hb ddX10_load_25 (by decide) ?_
    refine zg_copy (a := (-2147483648)) (b := 2147483647) hC hl.1 hO (List.mem_of_getElem? (i := 2) rfl) (List.mem_of_getElem? (i := 3) rfl) (List.mem_of_getElem? (i := 4) rfl) (List.mem_of_getElem? (i := 5) rfl) 1 2 (by decide) (by decide) a1 rfl (za_all _) (za_all _) z_15_66 (zi_k (a := 0) (b := 0) (x := 0) rfl) (zi_k (a := 5) (b := 5) (x := 5) rfl) (by decide) (Nat.le_of_ble_eq_true rfl) (Nat.le_of_ble_eq_true rfl) ddX10_load_26 (fun H locs c_26_67 zc_26_68 hO => ?_)
    have hO : cO D cy A s.heap s 5 ad (cup [(2, .inl (cy 0, 5, .inl c_26_67)), (3, .inl (cy 0, 5, .inl c3)), (4, .inl (cy 0, 5, .inl c4))] g) _ _ := hO
    refine lv_aload_n hx hb ddX10_load_29 rfl (lv_at hl 2 rfl) ?_
    refine lv_iload_n hx hb ddX10_load_30 rfl (lv_at hl 0 rfl) ?_
    refine lv_iconst (v := 5) hx hb ddX10_load_31 (by decide) ?_
    refine lv_iadd hx hb ddX10_load_32 ?_
    refine zg_top2 (P := fun v => zi 5 170 v) (E := fun v => v.toInt = v_3_53.toInt + 5) (zi_addk z_15_66 (n := 5) (by decide) (by decide)) (fun v_32_69 z_32_70 q_32_71 => ?_)
    refine lv_aload_n hx hb ddX10_load_33 rfl (lv_at hl 1 rfl) ?_
    refine cg_get hC hO 0 (by decide) o0 rfl i_X10 6 (by decide) (List.mem_of_getElem? (i := 6) rfl) rfl ddX10_load_34 ?_
    refine lv_iconst (v := 0) hx hb ddX10_load_37 (by decide) ?_
    refine lv_iconst (v := 5) hx hb ddX10_load_38 (by decide) ?_
    refine zg_copy (a := (-2147483648)) (b := 2147483647) hC hl.1 hO (List.mem_of_getElem? (i := 2) rfl) (List.mem_of_getElem? (i := 3) rfl) (List.mem_of_getElem? (i := 4) rfl) (List.mem_of_getElem? (i := 5) rfl) 1 3 (by decide) (by decide) a1 rfl (za_all _) (za_all _) z_32_70 (zi_k (a := 0) (b := 0) (x := 0) rfl) (zi_k (a := 5) (b := 5) (x := 5) rfl) (by decide) (Nat.le_of_ble_eq_true rfl) (Nat.le_of_ble_eq_true rfl) ddX10_load_39 (fun H locs c_39_72 zc_39_73 hO => ?_)
    have hO : cO D cy A s.heap s 5 ad (cup [(2, .inl (cy 0, 5, .inl c_26_67)), (3, .inl (cy 0, 5, .inl c_39_72)), (4, .inl (cy 0, 5, .inl c4))] g) _ _ := hO
    refine lv_aload_n hx hb ddX10_load_42 rfl (lv_at hl 2 rfl) ?_
    refine lv_iload_n hx hb ddX10_load_43 rfl (lv_at hl 0 rfl) ?_
    refine lv_bipush (v := 10) hx hb ddX10_load_44 (by decide) ?_
    refine lv_iadd hx hb ddX10_load_46 ?_
    refine zg_top2 (P := fun v => zi 10 175 v) (E := fun v => v.toInt = v_3_53.toInt + 10) (zi_addk z_15_66 (n := 10) (by decide) (by decide)) (fun v_46_74 z_46_75 q_46_76 => ?_)
    refine lv_aload_n hx hb ddX10_load_47 rfl (lv_at hl 1 rfl) ?_
    refine cg_get hC hO 0 (by decide) o0 rfl i_X10 7 (by decide) (List.mem_of_getElem? (i := 7) rfl) rfl ddX10_load_48 ?_
    refine lv_iconst (v := 0) hx hb ddX10_load_51 (by decide) ?_
    refine lv_iconst (v := 5) hx hb ddX10_load_52 (by decide) ?_
    refine zg_copy (a := (-2147483648)) (b := 2147483647) hC hl.1 hO (List.mem_of_getElem? (i := 2) rfl) (List.mem_of_getElem? (i := 3) rfl) (List.mem_of_getElem? (i := 4) rfl) (List.mem_of_getElem? (i := 5) rfl) 1 4 (by decide) (by decide) a1 rfl (za_all _) (za_all _) z_46_75 (zi_k (a := 0) (b := 0) (x := 0) rfl) (zi_k (a := 5) (b := 5) (x := 5) rfl) (by decide) (Nat.le_of_ble_eq_true rfl) (Nat.le_of_ble_eq_true rfl) ddX10_load_53 (fun H locs c_53_77 zc_53_78 hO => ?_)
    have hO : cO D cy A s.heap s 5 ad (cup [(2, .inl (cy 0, 5, .inl c_26_67)), (3, .inl (cy 0, 5, .inl c_39_72)), (4, .inl (cy 0, 5, .inl c_53_77))] g) _ _ := hO
    exact cg_vret (nw := fun _ => 0) hC hr hlk hO.same (Nat.le_of_ble_eq_true rfl) (Nat.le_of_ble_eq_true rfl) (⟨c_26_67, c_39_72, c_53_77, rfl⟩) ddX10_load_56

theorem ddX5_forget_0 : decode cX5_forget 0 = .ok (.aload_n 0, 1) := by decide +kernel
theorem ddX5_forget_1 : decode cX5_forget 1 = .ok (.getfield 9, 3) := by decide +kernel
theorem ddX5_forget_4 : decode cX5_forget 4 = .ok (.iconst 0, 1) := by decide +kernel
theorem ddX5_forget_5 : decode cX5_forget 5 = .ok (.invokestatic 22, 3) := by decide +kernel
theorem ddX5_forget_8 : decode cX5_forget 8 = .ok (.return_, 1) := by decide +kernel
def wq_k_X5_forget : List Cond := Cond.code yX5_forget cX5_forget 1 none :: (([Cond.fieldLink RX5 9 "CrowToll$Prices" "sacksKnown" "[I", Cond.methodLink RX5 22 yJ7_fill_53178, Cond.static yJ7_fill_53178, Cond.initialized RJ7, Cond.code yJ7_fill_53178 cJ7_fill_53178 4 none] : List Cond) ++ wsX50)
set_option maxRecDepth 20000 in
theorem gr_k_X5_forget_k_fill_80 : GoodIn wq_k_X5_forget wq_k_fill_80 := List.forall_mem_cons.mpr ⟨⟨(List.mem_of_getElem? (i := 5) rfl), good_of_word rfl⟩, (fun _ h => absurd h List.not_mem_nil)⟩
set_option maxRecDepth 20000 in
theorem gq_k_X5_forget_k_fill_80_22 : GoodIn wq_k_X5_forget (va_wsS RX5 22 yJ7_fill_53178 wq_k_fill_80) := goodIn_app (List.forall_mem_cons.mpr ⟨⟨(List.mem_of_getElem? (i := 2) rfl), good_of_word rfl⟩, List.forall_mem_cons.mpr ⟨⟨(List.mem_of_getElem? (i := 3) rfl), good_of_word rfl⟩, List.forall_mem_cons.mpr ⟨⟨(List.mem_of_getElem? (i := 4) rfl), good_of_word rfl⟩, (fun _ h => absurd h List.not_mem_nil)⟩⟩⟩) gr_k_X5_forget_k_fill_80
set_option maxHeartbeats 8000000 in
set_option maxRecDepth 100000 in
theorem k_X5_forget (l : Launch) (D : va_G) (cy : Nat → ClassId) (ad : Nat → Nat) (g : Nat → va_E) {u0_0 : Value} {u0_2 : Value} {c1 : Nat → Int32} (o0 : g 0 = .inr (5, [u0_0, .ref (ad 1), u0_2])) (a1 : g 1 = .inl (cy 0, 80, .inl c1)) : cMv l yX5_forget wq_k_X5_forget { frames := 1, cells := 0, slots := 0, locals := 23 } 2 0 0 0 D cy ad g [.ref (ad 0)] (fun nw lu => ∃ (d1 : Nat → Int32), lu = [(1, .inl (cy 0, 80, .inl d1))]) := by
  refine cM_of (Qc := fun A => cQv (fun nw lu => ∃ (d1 : Nat → Int32), lu = [(1, .inl (cy 0, 80, .inl d1))]) D 2 0 ad g A) (cc := cX5_forget) (maxL := 1) (ret := none) (by decide) rfl (Nat.le_of_ble_eq_true rfl) ?_
  intro p e s m below meth c A hC hr hlk hnm hO ls hl
  have hC : CallFix p m c cX5_forget 1 s [.ref (ad 0)].toArray wq_k_X5_forget RX5 := hC
  obtain ⟨hx, hb, hml, hown, hts⟩ := id hC
  have hl : lv_has ls 1 [(0, .ref (ad 0))] := hl
  have i_X5 : ∀ w ∈ wsX50, w ∈ wq_k_X5_forget := fun w h => List.mem_cons_of_mem _ (List.mem_append_right _ h)
  have hO := hO.notes [(1, .inl (cy 0, 80, .inl c1))] (List.forall_mem_cons.mpr ⟨a1, (fun _ h => absurd h List.not_mem_nil)⟩)
  refine lv_aload_n hx hb ddX5_forget_0 rfl (lv_at hl 0 rfl) ?_
  refine cg_get hC hO 0 (by decide) o0 rfl i_X5 1 (by decide) (List.mem_of_getElem? (i := 1) rfl) rfl ddX5_forget_1 ?_
  refine lv_iconst (v := 0) hx hb ddX5_forget_4 (by decide) ?_
  refine cg_Sv (As := [.ref (ad 1), .int 0]) (rest := []) (mc := 0) (ms := 0) (rm := { frames := 0, cells := 0, slots := 0, locals := 0 }) hC hl.1 hO [1] (by decide +kernel) (k_fill_80 l D cy _ _ (c0 := c1) (x := 0) rfl) gq_k_X5_forget_k_fill_80_22 rfl rfl rfl 2 (by decide +kernel) ⟨Nat.le_of_ble_eq_true rfl, Nat.le_of_ble_eq_true rfl⟩ rfl rfl (Nat.le_of_ble_eq_true rfl) ddX5_forget_5 ⟨Nat.le_of_ble_eq_true rfl, Nat.le_of_ble_eq_true rfl⟩ (fun nw_5_9 l_5_10 H locs hw hO => ?_)
  obtain ⟨d0_5_12, rfl⟩ := hw
  have hO := hO.mrg (lk := [(1, .inl (cy 0, 80, .inl d0_5_12))]) (lm := [(1, .inl (cy 0, 80, .inl d0_5_12))]) rfl rfl rfl
  exact cg_vret (nw := fun _ => 0) hC hr hlk hO.same (Nat.le_of_ble_eq_true rfl) (Nat.le_of_ble_eq_true rfl) (⟨d0_5_12, rfl⟩) ddX5_forget_8

theorem ddX5_of_0 : decode cX5_of 0 = .ok (.iload_n 1, 1) := by decide +kernel
theorem ddX5_of_1 : decode cX5_of 1 = .ok (.bipush 20, 2) := by decide +kernel
theorem ddX5_of_3 : decode cX5_of 3 = .ok (.imul, 1) := by decide +kernel
theorem ddX5_of_4 : decode cX5_of 4 = .ok (.iload_n 3, 1) := by decide +kernel
theorem ddX5_of_5 : decode cX5_of 5 = .ok (.iadd, 1) := by decide +kernel
theorem ddX5_of_6 : decode cX5_of 6 = .ok (.iconst 1, 1) := by decide +kernel
theorem ddX5_of_7 : decode cX5_of 7 = .ok (.isub, 1) := by decide +kernel
theorem ddX5_of_8 : decode cX5_of 8 = .ok (.istore 4, 2) := by decide +kernel
theorem ddX5_of_10 : decode cX5_of 10 = .ok (.iload 4, 2) := by decide +kernel
theorem ddX5_of_12 : decode cX5_of 12 = .ok (.ifCond .lt 13, 3) := by decide +kernel
theorem ddX5_of_15 : decode cX5_of 15 = .ok (.iload 4, 2) := by decide +kernel
theorem ddX5_of_17 : decode cX5_of 17 = .ok (.aload_n 0, 1) := by decide +kernel
theorem ddX5_of_18 : decode cX5_of 18 = .ok (.getfield 15, 3) := by decide +kernel
theorem ddX5_of_21 : decode cX5_of 21 = .ok (.arraylength, 1) := by decide +kernel
theorem ddX5_of_22 : decode cX5_of 22 = .ok (.if_icmp .lt 5, 3) := by decide +kernel
theorem ddX5_of_25 : decode cX5_of 25 = .ok (.iconst 0, 1) := by decide +kernel
theorem ddX5_of_26 : decode cX5_of 26 = .ok (.ireturn, 1) := by decide +kernel
theorem ddX5_of_27 : decode cX5_of 27 = .ok (.aload_n 0, 1) := by decide +kernel
theorem ddX5_of_28 : decode cX5_of 28 = .ok (.getfield 9, 3) := by decide +kernel
theorem ddX5_of_31 : decode cX5_of 31 = .ok (.iload 4, 2) := by decide +kernel
theorem ddX5_of_33 : decode cX5_of 33 = .ok (.iaload, 1) := by decide +kernel
theorem ddX5_of_34 : decode cX5_of 34 = .ok (.iload_n 2, 1) := by decide +kernel
theorem ddX5_of_35 : decode cX5_of 35 = .ok (.if_icmp .eq 39, 3) := by decide +kernel
theorem ddX5_of_38 : decode cX5_of 38 = .ok (.aload_n 0, 1) := by decide +kernel
theorem ddX5_of_39 : decode cX5_of 39 = .ok (.getfield 9, 3) := by decide +kernel
theorem ddX5_of_42 : decode cX5_of 42 = .ok (.iload 4, 2) := by decide +kernel
theorem ddX5_of_44 : decode cX5_of 44 = .ok (.iload_n 2, 1) := by decide +kernel
theorem ddX5_of_45 : decode cX5_of 45 = .ok (.iastore, 1) := by decide +kernel
theorem ddX5_of_46 : decode cX5_of 46 = .ok (.aload_n 0, 1) := by decide +kernel
theorem ddX5_of_47 : decode cX5_of 47 = .ok (.getfield 15, 3) := by decide +kernel
theorem ddX5_of_50 : decode cX5_of 50 = .ok (.iload 4, 2) := by decide +kernel
theorem ddX5_of_52 : decode cX5_of 52 = .ok (.aload_n 0, 1) := by decide +kernel
theorem ddX5_of_53 : decode cX5_of 53 = .ok (.getfield 18, 3) := by decide +kernel
theorem ddX5_of_56 : decode cX5_of 56 = .ok (.getfield 28, 3) := by decide +kernel
theorem ddX5_of_59 : decode cX5_of 59 = .ok (.iload_n 2, 1) := by decide +kernel
theorem ddX5_of_60 : decode cX5_of 60 = .ok (.aload_n 0, 1) := by decide +kernel
theorem ddX5_of_61 : decode cX5_of 61 = .ok (.getfield 18, 3) := by decide +kernel
theorem ddX5_of_64 : decode cX5_of 64 = .ok (.getfield 34, 3) := by decide +kernel
theorem ddX5_of_67 : decode cX5_of 67 = .ok (.iload_n 1, 1) := by decide +kernel
theorem ddX5_of_68 : decode cX5_of 68 = .ok (.iaload, 1) := by decide +kernel
theorem ddX5_of_69 : decode cX5_of 69 = .ok (.iload_n 3, 1) := by decide +kernel
theorem ddX5_of_70 : decode cX5_of 70 = .ok (.invokevirtual 37, 3) := by decide +kernel
theorem ddX5_of_73 : decode cX5_of 73 = .ok (.iastore, 1) := by decide +kernel
theorem ddX5_of_74 : decode cX5_of 74 = .ok (.aload_n 0, 1) := by decide +kernel
theorem ddX5_of_75 : decode cX5_of 75 = .ok (.getfield 15, 3) := by decide +kernel
theorem ddX5_of_78 : decode cX5_of 78 = .ok (.iload 4, 2) := by decide +kernel
theorem ddX5_of_80 : decode cX5_of 80 = .ok (.iaload, 1) := by decide +kernel
theorem ddX5_of_81 : decode cX5_of 81 = .ok (.ireturn, 1) := by decide +kernel
def wq_k_X5_of : List Cond := Cond.code yX5_of cX5_of 5 (some .int) :: (([Cond.fieldLink RX5 15 "CrowToll$Prices" "known" "[I", Cond.fieldLink RX5 9 "CrowToll$Prices" "sacksKnown" "[I", Cond.fieldLink RX5 18 "CrowToll$Prices" "road" "LCrowToll$Road;", Cond.fieldLink RX5 28 "CrowToll$Road" "law" "LCrowToll$Law;", Cond.fieldLink RX5 34 "CrowToll$Road" "toll" "[I", Cond.methodLink RX5 37 yX4_pay, Cond.instanceMethod yX4_pay, Cond.selects RX4 yX4_pay yX4_pay, Cond.initialized RX4, Cond.code yX4_pay cX4_pay 7 (some .int), Cond.fieldLink RX4 25 "CrowToll$Law" "isTold" "Z", Cond.fieldLink RX4 18 "CrowToll$Law" "steps" "I", Cond.fieldLink RX4 11 "CrowToll$Law" "step" "[I", Cond.fieldLink RX4 15 "CrowToll$Law" "stack" "[I", Cond.methodLink RX4 39 Lib.Math.min.name, Cond.static Lib.Math.min.name, Cond.initialized "java/lang/Math", Cond.code Lib.Math.min.name Lib.Math.min.code 2 (some .int), Cond.methodLink RX4 45 Lib.Math.max.name, Cond.static Lib.Math.max.name, Cond.code Lib.Math.max.name Lib.Math.max.code 2 (some .int), Cond.methodLink RX4 35 yX4_joined, Cond.static yX4_joined, Cond.code yX4_joined cX4_joined 3 (some .int)] : List Cond) ++ wsX40 ++ wsX50 ++ wsX70)
set_option maxRecDepth 20000 in
theorem gr_k_X5_of_k_X4_pay : GoodIn wq_k_X5_of wq_k_X4_pay := List.forall_mem_cons.mpr ⟨⟨(List.mem_of_getElem? (i := 10) rfl), good_of_word rfl⟩, List.forall_mem_append.mpr ⟨List.forall_mem_cons.mpr ⟨⟨(List.mem_of_getElem? (i := 11) rfl), good_of_word rfl⟩, List.forall_mem_cons.mpr ⟨⟨(List.mem_of_getElem? (i := 12) rfl), good_of_word rfl⟩, List.forall_mem_cons.mpr ⟨⟨(List.mem_of_getElem? (i := 13) rfl), good_of_word rfl⟩, List.forall_mem_cons.mpr ⟨⟨(List.mem_of_getElem? (i := 14) rfl), good_of_word rfl⟩, List.forall_mem_cons.mpr ⟨⟨(List.mem_of_getElem? (i := 15) rfl), good_of_word rfl⟩, List.forall_mem_cons.mpr ⟨⟨(List.mem_of_getElem? (i := 16) rfl), good_of_word rfl⟩, List.forall_mem_cons.mpr ⟨⟨(List.mem_of_getElem? (i := 17) rfl), good_of_word rfl⟩, List.forall_mem_cons.mpr ⟨⟨(List.mem_of_getElem? (i := 18) rfl), good_of_word rfl⟩, List.forall_mem_cons.mpr ⟨⟨(List.mem_of_getElem? (i := 19) rfl), good_of_word rfl⟩, List.forall_mem_cons.mpr ⟨⟨(List.mem_of_getElem? (i := 20) rfl), good_of_word rfl⟩, List.forall_mem_cons.mpr ⟨⟨(List.mem_of_getElem? (i := 21) rfl), good_of_word rfl⟩, List.forall_mem_cons.mpr ⟨⟨(List.mem_of_getElem? (i := 22) rfl), good_of_word rfl⟩, List.forall_mem_cons.mpr ⟨⟨(List.mem_of_getElem? (i := 23) rfl), good_of_word rfl⟩, List.forall_mem_cons.mpr ⟨⟨(List.mem_of_getElem? (i := 9) rfl), good_of_word rfl⟩, List.forall_mem_cons.mpr ⟨⟨(List.mem_of_getElem? (i := 24) rfl), good_of_word rfl⟩, (fun _ h => absurd h List.not_mem_nil)⟩⟩⟩⟩⟩⟩⟩⟩⟩⟩⟩⟩⟩⟩⟩, fun w h => ⟨(fun w h => List.mem_cons_of_mem _ (List.mem_append_left _ (List.mem_append_left _ (List.mem_append_right _ h)))) w h, good_of_word (List.all_eq_true.mp gw_X4 w h)⟩⟩⟩
set_option maxRecDepth 20000 in
theorem gq_k_X5_of_k_X4_pay_37 : GoodIn wq_k_X5_of (wsV RX5 37 RX4 yX4_pay wq_k_X4_pay) := goodIn_app (List.forall_mem_cons.mpr ⟨⟨(List.mem_of_getElem? (i := 6) rfl), good_of_word rfl⟩, List.forall_mem_cons.mpr ⟨⟨(List.mem_of_getElem? (i := 7) rfl), good_of_word rfl⟩, List.forall_mem_cons.mpr ⟨⟨(List.mem_of_getElem? (i := 8) rfl), good_of_word rfl⟩, List.forall_mem_cons.mpr ⟨⟨(List.mem_of_getElem? (i := 9) rfl), good_of_word rfl⟩, (fun _ h => absurd h List.not_mem_nil)⟩⟩⟩⟩) gr_k_X5_of_k_X4_pay
set_option maxHeartbeats 8000000 in
set_option maxRecDepth 100000 in
theorem k_X5_of (l : Launch) (D : va_G) (cy : Nat → ClassId) (ad : Nat → Nat) (g : Nat → va_E) {c1 : Nat → Int32} {c2 : Nat → Int32} {u3_0 : Value} {u3_1 : Value} {u3_2 : Value} {u3_3 : Value} {u3_4 : Value} {u3_5 : Value} {u3_6 : Value} {u3_7 : Value} {u3_9 : Value} {u3_10 : Value} {u3_11 : Value} {u3_12 : Value} {u3_13 : Value} {u3_14 : Value} {u3_15 : Value} {u3_16 : Value} {c4 : Nat → Int32} {x5_1 : Int32} {u5_2 : Value} {x5_3 : Int32} {c6 : Nat → Int32} {c7 : Nat → Int32} {post : Int32} {sacks : Int32} {nth : Int32} (o0 : g 0 = .inr (5, [.ref (ad 3), .ref (ad 2), .ref (ad 1)])) (a1 : g 1 = .inl (cy 0, 80, .inl c1)) (a2 : g 2 = .inl (cy 0, 80, .inl c2)) (o3 : g 3 = .inr (7, [u3_0, u3_1, u3_2, u3_3, u3_4, u3_5, u3_6, u3_7, .ref (ad 4), u3_9, u3_10, u3_11, u3_12, u3_13, u3_14, u3_15, u3_16, .ref (ad 5)])) (a4 : g 4 = .inl (cy 0, 4, .inl c4)) (o5 : g 5 = .inr (4, [.ref (ad 6), .int x5_1, u5_2, .int x5_3, .ref (ad 7)])) (a6 : g 6 = .inl (cy 0, 300, .inl c6)) (a7 : g 7 = .inl (cy 0, 30, .inl c7)) (b5_1 : zi 0 300 x5_1) (b5_3 : zi 0 1 x5_3) (p_post : zi 0 3 post) : cMi l yX5_of wq_k_X5_of { frames := 2, cells := 0, slots := 0, locals := 48 } 8 0 0 0 D cy ad g [.ref (ad 0), .int post, .int sacks, .int nth] (fun r nw lu => ∃ (d1 : Nat → Int32) (d2 : Nat → Int32) (d7 : Nat → Int32), lu = [(1, .inl (cy 0, 80, .inl d1)), (2, .inl (cy 0, 80, .inl d2)), (7, .inl (cy 0, 30, .inl d7))]) := by
  refine cM_of (Qc := fun A => cQi (fun r nw lu => ∃ (d1 : Nat → Int32) (d2 : Nat → Int32) (d7 : Nat → Int32), lu = [(1, .inl (cy 0, 80, .inl d1)), (2, .inl (cy 0, 80, .inl d2)), (7, .inl (cy 0, 30, .inl d7))]) D 8 0 ad g A) (cc := cX5_of) (maxL := 5) (ret := (some .int)) (by decide) rfl (Nat.le_of_ble_eq_true rfl) ?_
  intro p e s m below meth c A hC hr hlk hnm hO ls hl
  have hC : CallFix p m c cX5_of 5 s [.ref (ad 0), .int post, .int sacks, .int nth].toArray wq_k_X5_of RX5 := hC
  obtain ⟨hx, hb, hml, hown, hts⟩ := id hC
  have hl : lv_has ls 5 [(0, .ref (ad 0)), (1, .int post), (2, .int sacks), (3, .int nth)] := hl
  have i_X4 : ∀ w ∈ wsX40, w ∈ wq_k_X5_of := fun w h => List.mem_cons_of_mem _ (List.mem_append_left _ (List.mem_append_left _ (List.mem_append_right _ h)))
  have i_X5 : ∀ w ∈ wsX50, w ∈ wq_k_X5_of := fun w h => List.mem_cons_of_mem _ (List.mem_append_left _ (List.mem_append_right _ h))
  have i_X7 : ∀ w ∈ wsX70, w ∈ wq_k_X5_of := fun w h => List.mem_cons_of_mem _ (List.mem_append_right _ h)
  have hO := hO.notes [(1, .inl (cy 0, 80, .inl c1)), (2, .inl (cy 0, 80, .inl c2)), (7, .inl (cy 0, 30, .inl c7))] (List.forall_mem_cons.mpr ⟨a1, List.forall_mem_cons.mpr ⟨a2, List.forall_mem_cons.mpr ⟨a7, (fun _ h => absurd h List.not_mem_nil)⟩⟩⟩)
  refine lv_iload_n hx hb ddX5_of_0 rfl (lv_at hl 1 rfl) ?_
  refine lv_bipush (v := 20) hx hb ddX5_of_1 (by decide) ?_
  refine lv_imul hx hb ddX5_of_3 ?_
  refine zg_top (P := fun v => zi 0 60 v) ((zi_mul p_post (zi_k (a := 20) (b := 20) (x := 20) rfl) (by decide)).1) (fun v_3_89 z_3_90 => ?_)
  refine lv_iload_n hx hb ddX5_of_4 rfl (lv_at hl 3 rfl) ?_
  refine lv_iadd hx hb ddX5_of_5 ?_
  refine lv_topi (fun v_5_91 _ => ?_)
  refine lv_iconst (v := 1) hx hb ddX5_of_6 (by decide) ?_
  refine lv_isub hx hb ddX5_of_7 ?_
  refine lv_topi (fun v_7_92 _ => ?_)
  refine lv_istore (lv' := [(4, .int v_7_92), (0, .ref (ad 0)), (1, .int post), (2, .int sacks), (3, .int nth)]) hx hb ddX5_of_8 hl (by decide) rfl (fun ls hl => ?_)
  refine lv_iload hx hb ddX5_of_10 (lv_at hl 0 rfl) ?_
  refine lv_if_lt (tgt := 25) hx hb ddX5_of_12 (by decide) (fun h_12_93 => ?_) (fun h_12_93 => ?_)
  · have q_12_94 := zr_lt h_12_93
    have z_12_95 : zi (-2147483648) (-1) v_7_92 := zu_lt q_12_94 (zi_all v_7_92) (zi_k (a := 0) (b := 0) (x := 0) rfl) (by decide)
    refine lv_iconst (v := 0) hx hb ddX5_of_25 (by decide) ?_
    exact cg_iret (nw := fun _ => 0) hC hr hlk hO.same rfl (Nat.le_of_ble_eq_true rfl) (Nat.le_of_ble_eq_true rfl) (⟨c1, c2, c7, rfl⟩) ddX5_of_26
  · have q_12_96 := zr_nlt h_12_93
    have z_12_97 : zi 0 2147483647 v_7_92 := zd_le q_12_96 (zi_k (a := 0) (b := 0) (x := 0) rfl) (zi_all v_7_92) (by decide)
    refine lv_iload hx hb ddX5_of_15 (lv_at hl 0 rfl) ?_
    refine lv_aload_n hx hb ddX5_of_17 rfl (lv_at hl 1 rfl) ?_
    refine cg_get hC hO 0 (by decide) o0 rfl i_X5 2 (by decide) (List.mem_of_getElem? (i := 1) rfl) rfl ddX5_of_18 ?_
    refine cg_alen hC hO 1 0 (by decide) rfl rfl (v := 80) rfl ddX5_of_21 ?_
    refine lv_icmp_lt (tgt := 27) hx hb ddX5_of_22 (by decide) (fun h_22_98 => ?_) (fun h_22_98 => ?_)
    · have q_22_99 := zr_lt h_22_98
      have z_22_100 : zi 0 79 v_7_92 := zu_lt q_22_99 z_12_97 (zi_k (a := 80) (b := 80) (x := 80) rfl) (by decide)
      refine lv_aload_n hx hb ddX5_of_27 rfl (lv_at hl 1 rfl) ?_
      refine cg_get hC hO 0 (by decide) o0 rfl i_X5 1 (by decide) (List.mem_of_getElem? (i := 2) rfl) rfl ddX5_of_28 ?_
      refine lv_iload hx hb ddX5_of_31 (lv_at hl 0 rfl) ?_
      refine zg_iald hC hO 2 (by decide) rfl (za_all _) (zi_in z_22_100 (by decide)) ddX5_of_33 (fun v_33_101 z_33_102 => ?_)
      refine lv_iload_n hx hb ddX5_of_34 rfl (lv_at hl 3 rfl) ?_
      have J_74_121 : ∀ (c_74_115 : Nat → Int32) (c_74_117 : Nat → Int32) (c_74_119 : Nat → Int32), za (-2147483648) 2147483647 c_74_115 → za (-2147483648) 2147483647 c_74_117 → za (-2147483648) 2147483647 c_74_119 → ∀ (H : Heap) (locs : List Loc), cO D cy A s.heap s 8 ad (cup [(1, .inl (cy 0, 80, .inl c_74_115)), (2, .inl (cy 0, 80, .inl c_74_117)), (7, .inl (cy 0, 30, .inl c_74_119))] g) H locs → ∀ ls : Array Slot, lv_has ls 5 [(4, .int v_7_92), (0, .ref (ad 0)), (1, .int post), (2, .int sacks), (3, .int nth)] → W p l e { frames := 2, cells := 0, slots := 0, locals := 48 } s m [.ref (ad 0), .int post, .int sacks, .int nth].toArray below meth c H locs 0 0 (MQ below (cQi (fun r nw lu => ∃ (d1 : Nat → Int32) (d2 : Nat → Int32) (d7 : Nat → Int32), lu = [(1, .inl (cy 0, 80, .inl d1)), (2, .inl (cy 0, 80, .inl d2)), (7, .inl (cy 0, 30, .inl d7))]) D 8 0 ad g A) [.ref (ad 0), .int post, .int sacks, .int nth].toArray s 0 0 A) (F0 m 74 ls []) := by
        intro c_74_115 c_74_117 c_74_119 zc_74_116 zc_74_118 zc_74_120 H locs hO ls hl
        refine lv_aload_n hx hb ddX5_of_74 rfl (lv_at hl 1 rfl) ?_
        refine cg_get hC hO 0 (by decide) o0 rfl i_X5 2 (by decide) (List.mem_of_getElem? (i := 1) rfl) rfl ddX5_of_75 ?_
        refine lv_iload hx hb ddX5_of_78 (lv_at hl 0 rfl) ?_
        refine zg_iald hC hO 1 (by decide) rfl zc_74_116 (zi_in z_22_100 (by decide)) ddX5_of_80 (fun v_80_122 z_80_123 => ?_)
        exact cg_iret (nw := fun _ => 0) hC hr hlk hO.same rfl (Nat.le_of_ble_eq_true rfl) (Nat.le_of_ble_eq_true rfl) (⟨c_74_115, c_74_117, c_74_119, rfl⟩) ddX5_of_81
      refine lv_icmp_eq (tgt := 74) hx hb ddX5_of_35 (by decide) (fun h_35_103 => ?_) (fun h_35_103 => ?_)
      · have q_35_124 := zr_eq h_35_103
        exact J_74_121 c1 c2 c7 (za_all _) (za_all _) (za_all _) _ _ hO ls (lv_sub hl [0, 1, 2, 3, 4] rfl)
      · refine lv_aload_n hx hb ddX5_of_38 rfl (lv_at hl 1 rfl) ?_
        refine cg_get hC hO 0 (by decide) o0 rfl i_X5 1 (by decide) (List.mem_of_getElem? (i := 2) rfl) rfl ddX5_of_39 ?_
        refine lv_iload hx hb ddX5_of_42 (lv_at hl 0 rfl) ?_
        refine lv_iload_n hx hb ddX5_of_44 rfl (lv_at hl 3 rfl) ?_
        refine zg_iast hC hO 2 (by decide) rfl (za_all _) (zi_all sacks) (zi_in z_22_100 (by decide)) ddX5_of_45 (fun H locs c_45_125 zc_45_126 hO => ?_)
        have hO : cO D cy A s.heap s 8 ad (cup [(1, .inl (cy 0, 80, .inl c1)), (2, .inl (cy 0, 80, .inl c_45_125)), (7, .inl (cy 0, 30, .inl c7))] g) _ _ := hO
        refine lv_aload_n hx hb ddX5_of_46 rfl (lv_at hl 1 rfl) ?_
        refine cg_get hC hO 0 (by decide) o0 rfl i_X5 2 (by decide) (List.mem_of_getElem? (i := 1) rfl) rfl ddX5_of_47 ?_
        refine lv_iload hx hb ddX5_of_50 (lv_at hl 0 rfl) ?_
        refine lv_aload_n hx hb ddX5_of_52 rfl (lv_at hl 1 rfl) ?_
        refine cg_get hC hO 0 (by decide) o0 rfl i_X5 0 (by decide) (List.mem_of_getElem? (i := 3) rfl) rfl ddX5_of_53 ?_
        refine cg_get hC hO 3 (by decide) o3 rfl i_X7 17 (by decide) (List.mem_of_getElem? (i := 4) rfl) rfl ddX5_of_56 ?_
        refine lv_iload_n hx hb ddX5_of_59 rfl (lv_at hl 3 rfl) ?_
        refine lv_aload_n hx hb ddX5_of_60 rfl (lv_at hl 1 rfl) ?_
        refine cg_get hC hO 0 (by decide) o0 rfl i_X5 0 (by decide) (List.mem_of_getElem? (i := 3) rfl) rfl ddX5_of_61 ?_
        refine cg_get hC hO 3 (by decide) o3 rfl i_X7 8 (by decide) (List.mem_of_getElem? (i := 5) rfl) rfl ddX5_of_64 ?_
        refine lv_iload_n hx hb ddX5_of_67 rfl (lv_at hl 2 rfl) ?_
        refine zg_iald hC hO 4 (by decide) a4 (za_all _) (zi_in p_post (by decide)) ddX5_of_68 (fun v_68_127 z_68_128 => ?_)
        refine lv_iload_n hx hb ddX5_of_69 rfl (lv_at hl 4 rfl) ?_
        refine cg_Vi (As := [.int sacks, .int v_68_127, .int nth]) (rest := [.int v_7_92, .ref (ad 1)]) (mc := 0) (ms := 0) (rm := { frames := 1, cells := 0, slots := 0, locals := 22 }) hC hl.1 hO [5, 6, 7] (by decide +kernel) (k_X4_pay l D cy _ _ (c1 := c6) (x0_1 := x5_1) (u0_2 := u5_2) (x0_3 := x5_3) (c2 := c7) (sacks := sacks) (toll := v_68_127) (nth := nth) o5 a6 rfl b5_1 b5_3) gq_k_X5_of_k_X4_pay_37 rfl rfl rfl 3 (by decide +kernel) ⟨Nat.le_of_ble_eq_true rfl, Nat.le_of_ble_eq_true rfl⟩ rfl (by decide) o5 rfl rfl (Nat.le_of_ble_eq_true rfl) ddX5_of_70 ⟨Nat.le_of_ble_eq_true rfl, Nat.le_of_ble_eq_true rfl⟩ (fun r_70_131 nw_70_129 l_70_130 H locs hw hO => ?_)
        obtain ⟨d2_70_132, rfl⟩ := hw
        have hO := hO.mrg (lk := [(7, .inl (cy 0, 30, .inl d2_70_132))]) (lm := [(1, .inl (cy 0, 80, .inl c1)), (2, .inl (cy 0, 80, .inl c_45_125)), (7, .inl (cy 0, 30, .inl d2_70_132))]) rfl rfl rfl
        refine zg_iast hC hO 1 (by decide) rfl (za_all _) (zi_all r_70_131) (zi_in z_22_100 (by decide)) ddX5_of_73 (fun H locs c_73_133 zc_73_134 hO => ?_)
        have hO : cO D cy A s.heap s 8 ad (cup [(1, .inl (cy 0, 80, .inl c_73_133)), (2, .inl (cy 0, 80, .inl c_45_125)), (7, .inl (cy 0, 30, .inl d2_70_132))] g) _ _ := hO
        exact J_74_121 c_73_133 c_45_125 d2_70_132 zc_73_134 zc_45_126 (za_all _) _ _ hO ls (lv_sub hl [0, 1, 2, 3, 4] rfl)
    · have q_22_135 := zr_nlt h_22_98
      have z_22_136 : zi 80 2147483647 v_7_92 := zd_le q_22_135 (zi_k (a := 80) (b := 80) (x := 80) rfl) z_12_97 (by decide)
      refine lv_iconst (v := 0) hx hb ddX5_of_25 (by decide) ?_
      exact cg_iret (nw := fun _ => 0) hC hr hlk hO.same rfl (Nat.le_of_ble_eq_true rfl) (Nat.le_of_ble_eq_true rfl) (⟨c1, c2, c7, rfl⟩) ddX5_of_26

theorem ddX1_paidBy_0 : decode cX1_paidBy 0 = .ok (.iconst 0, 1) := by decide +kernel
theorem ddX1_paidBy_1 : decode cX1_paidBy 1 = .ok (.istore_n 2, 1) := by decide +kernel
theorem ddX1_paidBy_2 : decode cX1_paidBy 2 = .ok (.iconst 0, 1) := by decide +kernel
theorem ddX1_paidBy_3 : decode cX1_paidBy 3 = .ok (.istore_n 3, 1) := by decide +kernel
theorem ddX1_paidBy_4 : decode cX1_paidBy 4 = .ok (.iload_n 3, 1) := by decide +kernel
theorem ddX1_paidBy_5 : decode cX1_paidBy 5 = .ok (.aload_n 0, 1) := by decide +kernel
theorem ddX1_paidBy_6 : decode cX1_paidBy 6 = .ok (.getfield 21, 3) := by decide +kernel
theorem ddX1_paidBy_9 : decode cX1_paidBy 9 = .ok (.getfield 68, 3) := by decide +kernel
theorem ddX1_paidBy_12 : decode cX1_paidBy 12 = .ok (.if_icmp .ge 22, 3) := by decide +kernel
theorem ddX1_paidBy_15 : decode cX1_paidBy 15 = .ok (.iload_n 2, 1) := by decide +kernel
theorem ddX1_paidBy_16 : decode cX1_paidBy 16 = .ok (.aload_n 0, 1) := by decide +kernel
theorem ddX1_paidBy_17 : decode cX1_paidBy 17 = .ok (.getfield 15, 3) := by decide +kernel
theorem ddX1_paidBy_20 : decode cX1_paidBy 20 = .ok (.iload_n 1, 1) := by decide +kernel
theorem ddX1_paidBy_21 : decode cX1_paidBy 21 = .ok (.iconst 4, 1) := by decide +kernel
theorem ddX1_paidBy_22 : decode cX1_paidBy 22 = .ok (.imul, 1) := by decide +kernel
theorem ddX1_paidBy_23 : decode cX1_paidBy 23 = .ok (.iload_n 3, 1) := by decide +kernel
theorem ddX1_paidBy_24 : decode cX1_paidBy 24 = .ok (.iadd, 1) := by decide +kernel
theorem ddX1_paidBy_25 : decode cX1_paidBy 25 = .ok (.iaload, 1) := by decide +kernel
theorem ddX1_paidBy_26 : decode cX1_paidBy 26 = .ok (.iadd, 1) := by decide +kernel
theorem ddX1_paidBy_27 : decode cX1_paidBy 27 = .ok (.istore_n 2, 1) := by decide +kernel
theorem ddX1_paidBy_28 : decode cX1_paidBy 28 = .ok (.iinc 3 1, 3) := by decide +kernel
theorem ddX1_paidBy_31 : decode cX1_paidBy 31 = .ok (.goto (-27), 3) := by decide +kernel
theorem ddX1_paidBy_34 : decode cX1_paidBy 34 = .ok (.iload_n 2, 1) := by decide +kernel
theorem ddX1_paidBy_35 : decode cX1_paidBy 35 = .ok (.ireturn, 1) := by decide +kernel
def wq_k_X1_paidBy : List Cond := Cond.code yX1_paidBy cX1_paidBy 4 (some .int) :: (([Cond.fieldLink RX1 21 "CrowToll$Day" "road" "LCrowToll$Road;", Cond.fieldLink RX1 68 "CrowToll$Road" "posts" "I", Cond.fieldLink RX1 15 "CrowToll$Day" "paid" "[I"] : List Cond) ++ wsX10 ++ wsX70)
set_option maxHeartbeats 8000000 in
set_option maxRecDepth 100000 in
theorem k_X1_paidBy (l : Launch) (D : va_G) (cy : Nat → ClassId) (ad : Nat → Nat) (g : Nat → va_E) {u0_1 : Value} {u0_2 : Value} {u0_3 : Value} {u0_4 : Value} {u0_6 : Value} {u1_0 : Value} {u1_1 : Value} {u1_2 : Value} {u1_3 : Value} {u1_4 : Value} {u1_5 : Value} {u1_6 : Value} {u1_7 : Value} {u1_8 : Value} {u1_9 : Value} {u1_10 : Value} {x1_11 : Int32} {u1_12 : Value} {u1_13 : Value} {u1_14 : Value} {u1_15 : Value} {u1_16 : Value} {u1_17 : Value} {c2 : Nat → Int32} {cart : Int32} (o0 : g 0 = .inr (1, [.ref (ad 1), u0_1, u0_2, u0_3, u0_4, .ref (ad 2), u0_6])) (o1 : g 1 = .inr (7, [u1_0, u1_1, u1_2, u1_3, u1_4, u1_5, u1_6, u1_7, u1_8, u1_9, u1_10, .int x1_11, u1_12, u1_13, u1_14, u1_15, u1_16, u1_17])) (a2 : g 2 = .inl (cy 0, 96, .inl c2)) (b1_11 : zi 0 4 x1_11) (p_cart : zi 0 23 cart) : cMi l yX1_paidBy wq_k_X1_paidBy { frames := 0, cells := 0, slots := 0, locals := 0 } 3 0 0 0 D cy ad g [.ref (ad 0), .int cart] (fun r nw lu => lu = []) := by
  refine cM_of (Qc := fun A => cQi (fun r nw lu => lu = []) D 3 0 ad g A) (cc := cX1_paidBy) (maxL := 4) (ret := (some .int)) (by decide) rfl (Nat.le_of_ble_eq_true rfl) ?_
  intro p e s m below meth c A hC hr hlk hnm hO ls hl
  have hC : CallFix p m c cX1_paidBy 4 s [.ref (ad 0), .int cart].toArray wq_k_X1_paidBy RX1 := hC
  obtain ⟨hx, hb, hml, hown, hts⟩ := id hC
  have hl : lv_has ls 4 [(0, .ref (ad 0)), (1, .int cart)] := hl
  have i_X1 : ∀ w ∈ wsX10, w ∈ wq_k_X1_paidBy := fun w h => List.mem_cons_of_mem _ (List.mem_append_left _ (List.mem_append_right _ h))
  have i_X7 : ∀ w ∈ wsX70, w ∈ wq_k_X1_paidBy := fun w h => List.mem_cons_of_mem _ (List.mem_append_right _ h)
  refine lv_iconst (v := 0) hx hb ddX1_paidBy_0 (by decide) ?_
  refine lv_istore_n (lv' := [(2, .int 0), (0, .ref (ad 0)), (1, .int cart)]) hx hb ddX1_paidBy_1 rfl hl (by decide) rfl (fun ls hl => ?_)
  refine lv_iconst (v := 0) hx hb ddX1_paidBy_2 (by decide) ?_
  refine lv_istore_n (lv' := [(3, .int 0), (2, .int 0), (0, .ref (ad 0)), (1, .int cart)]) hx hb ddX1_paidBy_3 rfl hl (by decide) rfl (fun ls hl => ?_)
  have loop_4_231 : ∀ (d_4_232 : Nat) (v_4_211 : Int32) (v_4_213 : Int32), zi 0 4 v_4_211 → (4 + 1 - v_4_211.toInt).toNat < d_4_232 → ∀ (H : Heap) (locs : List Loc), cO D cy A s.heap s 3 ad (cup [] g) H locs → ∀ ls : Array Slot, lv_has ls 4 [(3, .int v_4_211), (2, .int v_4_213), (0, .ref (ad 0)), (1, .int cart)] → W p l e { frames := 0, cells := 0, slots := 0, locals := 0 } s m [.ref (ad 0), .int cart].toArray below meth c H locs 0 0 (MQ below (cQi (fun r nw lu => lu = []) D 3 0 ad g A) [.ref (ad 0), .int cart].toArray s 0 0 A) (F0 m 4 ls [])  := by
    intro d_4_232
    induction d_4_232 with
    | zero => intro v_4_211 v_4_213 z_4_212 mu_4_233; exact absurd mu_4_233 (Nat.not_lt_zero _)
    | succ d_4_232 ih_4_234 =>
      intro v_4_211 v_4_213 z_4_212 mu_4_233 H locs hO ls hl
      refine lv_iload_n hx hb ddX1_paidBy_4 rfl (lv_at hl 0 rfl) ?_
      refine lv_aload_n hx hb ddX1_paidBy_5 rfl (lv_at hl 2 rfl) ?_
      refine cg_get hC hO 0 (by decide) o0 rfl i_X1 0 (by decide) (List.mem_of_getElem? (i := 1) rfl) rfl ddX1_paidBy_6 ?_
      refine cg_get hC hO 1 (by decide) o1 rfl i_X7 11 (by decide) (List.mem_of_getElem? (i := 2) rfl) rfl ddX1_paidBy_9 ?_
      refine lv_icmp_ge (tgt := 34) hx hb ddX1_paidBy_12 (by decide) (fun h_12_235 => ?_) (fun h_12_235 => ?_)
      · have q_12_236 := zr_le h_12_235
        refine lv_iload_n hx hb ddX1_paidBy_34 rfl (lv_at hl 1 rfl) ?_
        exact cg_iret (nw := fun _ => 0) hC hr hlk hO.same rfl (Nat.le_of_ble_eq_true rfl) (Nat.le_of_ble_eq_true rfl) rfl ddX1_paidBy_35
      · have q_12_237 := zr_nle h_12_235
        have z_12_238 : zi 0 3 v_4_211 := zu_lt q_12_237 z_4_212 b1_11 (by decide)
        have z_12_239 : zi 1 4 x1_11 := zd_lt q_12_237 z_4_212 b1_11 (by decide)
        refine lv_iload_n hx hb ddX1_paidBy_15 rfl (lv_at hl 1 rfl) ?_
        refine lv_aload_n hx hb ddX1_paidBy_16 rfl (lv_at hl 2 rfl) ?_
        refine cg_get hC hO 0 (by decide) o0 rfl i_X1 5 (by decide) (List.mem_of_getElem? (i := 3) rfl) rfl ddX1_paidBy_17 ?_
        refine lv_iload_n hx hb ddX1_paidBy_20 rfl (lv_at hl 3 rfl) ?_
        refine lv_iconst (v := 4) hx hb ddX1_paidBy_21 (by decide) ?_
        refine lv_imul hx hb ddX1_paidBy_22 ?_
        refine zg_top (P := fun v => zi 0 92 v) ((zi_mul p_cart (zi_k (a := 4) (b := 4) (x := 4) rfl) (by decide)).1) (fun v_22_240 z_22_241 => ?_)
        refine lv_iload_n hx hb ddX1_paidBy_23 rfl (lv_at hl 0 rfl) ?_
        refine lv_iadd hx hb ddX1_paidBy_24 ?_
        refine zg_top2 (P := fun v => zi 0 95 v) (E := fun v => v.toInt = (v_22_240 : Int32).toInt + (v_4_211 : Int32).toInt) (zi_add z_22_241 z_12_238 (by decide)) (fun v_24_242 z_24_243 q_24_244 => ?_)
        refine zg_iald hC hO 2 (by decide) a2 (za_all _) (zi_in z_24_243 (by decide)) ddX1_paidBy_25 (fun v_25_245 z_25_246 => ?_)
        refine lv_iadd hx hb ddX1_paidBy_26 ?_
        refine lv_topi (fun v_26_247 _ => ?_)
        refine lv_istore_n (lv' := [(2, .int v_26_247), (3, .int v_4_211), (0, .ref (ad 0)), (1, .int cart)]) hx hb ddX1_paidBy_27 rfl hl (by decide) rfl (fun ls hl => ?_)
        obtain ⟨v_28_248, e_28_249, z_28_250, q_28_251⟩ := zi_inc (e := 1) (f := 4) 1 z_12_238 (by decide)
        refine lv_iinc (v := v_28_248) (lv' := [(3, .int v_28_248), (2, .int v_26_247), (0, .ref (ad 0)), (1, .int cart)]) hx hb ddX1_paidBy_28 hl (k := 1) rfl e_28_249 (by decide) rfl (fun ls hl => ?_)
        refine lv_goto (tgt := 4) hx hb ddX1_paidBy_31 (by decide) ?_
        exact ih_4_234 v_28_248 v_26_247 (zi_w (c := 0) (d := 4) z_28_250 (by decide)) (zm_up q_28_251 ((zi_w (c := 0) (d := 4) z_28_250 (by decide))).2 (by decide) mu_4_233) _ _ hO ls (lv_sub hl [0, 1, 2, 3] rfl)
  exact loop_4_231 ((4 + 1 - (0 : Int32).toInt).toNat + 1) 0 0 (zi_k (a := 0) (b := 4) (x := 0) rfl) (Nat.lt_succ_self _) _ _ hO ls (lv_sub hl [0, 1, 2, 3] rfl)

theorem ddX1_takenAt_0 : decode cX1_takenAt 0 = .ok (.iconst 0, 1) := by decide +kernel
theorem ddX1_takenAt_1 : decode cX1_takenAt 1 = .ok (.istore_n 2, 1) := by decide +kernel
theorem ddX1_takenAt_2 : decode cX1_takenAt 2 = .ok (.iconst 0, 1) := by decide +kernel
theorem ddX1_takenAt_3 : decode cX1_takenAt 3 = .ok (.istore_n 3, 1) := by decide +kernel
theorem ddX1_takenAt_4 : decode cX1_takenAt 4 = .ok (.iload_n 3, 1) := by decide +kernel
theorem ddX1_takenAt_5 : decode cX1_takenAt 5 = .ok (.aload_n 0, 1) := by decide +kernel
theorem ddX1_takenAt_6 : decode cX1_takenAt 6 = .ok (.getfield 25, 3) := by decide +kernel
theorem ddX1_takenAt_9 : decode cX1_takenAt 9 = .ok (.getfield 93, 3) := by decide +kernel
theorem ddX1_takenAt_12 : decode cX1_takenAt 12 = .ok (.if_icmp .ge 22, 3) := by decide +kernel
theorem ddX1_takenAt_15 : decode cX1_takenAt 15 = .ok (.iload_n 2, 1) := by decide +kernel
theorem ddX1_takenAt_16 : decode cX1_takenAt 16 = .ok (.aload_n 0, 1) := by decide +kernel
theorem ddX1_takenAt_17 : decode cX1_takenAt 17 = .ok (.getfield 15, 3) := by decide +kernel
theorem ddX1_takenAt_20 : decode cX1_takenAt 20 = .ok (.iload_n 3, 1) := by decide +kernel
theorem ddX1_takenAt_21 : decode cX1_takenAt 21 = .ok (.iconst 4, 1) := by decide +kernel
theorem ddX1_takenAt_22 : decode cX1_takenAt 22 = .ok (.imul, 1) := by decide +kernel
theorem ddX1_takenAt_23 : decode cX1_takenAt 23 = .ok (.iload_n 1, 1) := by decide +kernel
theorem ddX1_takenAt_24 : decode cX1_takenAt 24 = .ok (.iadd, 1) := by decide +kernel
theorem ddX1_takenAt_25 : decode cX1_takenAt 25 = .ok (.iaload, 1) := by decide +kernel
theorem ddX1_takenAt_26 : decode cX1_takenAt 26 = .ok (.iadd, 1) := by decide +kernel
theorem ddX1_takenAt_27 : decode cX1_takenAt 27 = .ok (.istore_n 2, 1) := by decide +kernel
theorem ddX1_takenAt_28 : decode cX1_takenAt 28 = .ok (.iinc 3 1, 3) := by decide +kernel
theorem ddX1_takenAt_31 : decode cX1_takenAt 31 = .ok (.goto (-27), 3) := by decide +kernel
theorem ddX1_takenAt_34 : decode cX1_takenAt 34 = .ok (.iload_n 2, 1) := by decide +kernel
theorem ddX1_takenAt_35 : decode cX1_takenAt 35 = .ok (.ireturn, 1) := by decide +kernel
def wq_k_X1_takenAt : List Cond := Cond.code yX1_takenAt cX1_takenAt 4 (some .int) :: (([Cond.fieldLink RX1 25 "CrowToll$Day" "stand" "LCrowToll$Stand;", Cond.fieldLink RX1 93 "CrowToll$Stand" "carts" "I", Cond.fieldLink RX1 15 "CrowToll$Day" "paid" "[I"] : List Cond) ++ wsX10 ++ wsX90)
set_option maxHeartbeats 8000000 in
set_option maxRecDepth 100000 in
theorem k_X1_takenAt (l : Launch) (D : va_G) (cy : Nat → ClassId) (ad : Nat → Nat) (g : Nat → va_E) {u0_0 : Value} {u0_2 : Value} {u0_3 : Value} {u0_4 : Value} {u0_6 : Value} {u1_0 : Value} {u1_1 : Value} {u1_2 : Value} {u1_3 : Value} {x1_4 : Int32} {c2 : Nat → Int32} {post : Int32} (o0 : g 0 = .inr (1, [u0_0, .ref (ad 1), u0_2, u0_3, u0_4, .ref (ad 2), u0_6])) (o1 : g 1 = .inr (9, [u1_0, u1_1, u1_2, u1_3, .int x1_4])) (a2 : g 2 = .inl (cy 0, 96, .inl c2)) (b1_4 : zi 0 24 x1_4) (p_post : zi 0 3 post) : cMi l yX1_takenAt wq_k_X1_takenAt { frames := 0, cells := 0, slots := 0, locals := 0 } 3 0 0 0 D cy ad g [.ref (ad 0), .int post] (fun r nw lu => lu = []) := by
  refine cM_of (Qc := fun A => cQi (fun r nw lu => lu = []) D 3 0 ad g A) (cc := cX1_takenAt) (maxL := 4) (ret := (some .int)) (by decide) rfl (Nat.le_of_ble_eq_true rfl) ?_
  intro p e s m below meth c A hC hr hlk hnm hO ls hl
  have hC : CallFix p m c cX1_takenAt 4 s [.ref (ad 0), .int post].toArray wq_k_X1_takenAt RX1 := hC
  obtain ⟨hx, hb, hml, hown, hts⟩ := id hC
  have hl : lv_has ls 4 [(0, .ref (ad 0)), (1, .int post)] := hl
  have i_X1 : ∀ w ∈ wsX10, w ∈ wq_k_X1_takenAt := fun w h => List.mem_cons_of_mem _ (List.mem_append_left _ (List.mem_append_right _ h))
  have i_X9 : ∀ w ∈ wsX90, w ∈ wq_k_X1_takenAt := fun w h => List.mem_cons_of_mem _ (List.mem_append_right _ h)
  refine lv_iconst (v := 0) hx hb ddX1_takenAt_0 (by decide) ?_
  refine lv_istore_n (lv' := [(2, .int 0), (0, .ref (ad 0)), (1, .int post)]) hx hb ddX1_takenAt_1 rfl hl (by decide) rfl (fun ls hl => ?_)
  refine lv_iconst (v := 0) hx hb ddX1_takenAt_2 (by decide) ?_
  refine lv_istore_n (lv' := [(3, .int 0), (2, .int 0), (0, .ref (ad 0)), (1, .int post)]) hx hb ddX1_takenAt_3 rfl hl (by decide) rfl (fun ls hl => ?_)
  have loop_4_307 : ∀ (d_4_308 : Nat) (v_4_287 : Int32) (v_4_289 : Int32), zi 0 24 v_4_287 → (24 + 1 - v_4_287.toInt).toNat < d_4_308 → ∀ (H : Heap) (locs : List Loc), cO D cy A s.heap s 3 ad (cup [] g) H locs → ∀ ls : Array Slot, lv_has ls 4 [(3, .int v_4_287), (2, .int v_4_289), (0, .ref (ad 0)), (1, .int post)] → W p l e { frames := 0, cells := 0, slots := 0, locals := 0 } s m [.ref (ad 0), .int post].toArray below meth c H locs 0 0 (MQ below (cQi (fun r nw lu => lu = []) D 3 0 ad g A) [.ref (ad 0), .int post].toArray s 0 0 A) (F0 m 4 ls [])  := by
    intro d_4_308
    induction d_4_308 with
    | zero => intro v_4_287 v_4_289 z_4_288 mu_4_309; exact absurd mu_4_309 (Nat.not_lt_zero _)
    | succ d_4_308 ih_4_310 =>
      intro v_4_287 v_4_289 z_4_288 mu_4_309 H locs hO ls hl
      refine lv_iload_n hx hb ddX1_takenAt_4 rfl (lv_at hl 0 rfl) ?_
      refine lv_aload_n hx hb ddX1_takenAt_5 rfl (lv_at hl 2 rfl) ?_
      refine cg_get hC hO 0 (by decide) o0 rfl i_X1 1 (by decide) (List.mem_of_getElem? (i := 1) rfl) rfl ddX1_takenAt_6 ?_
      refine cg_get hC hO 1 (by decide) o1 rfl i_X9 4 (by decide) (List.mem_of_getElem? (i := 2) rfl) rfl ddX1_takenAt_9 ?_
      refine lv_icmp_ge (tgt := 34) hx hb ddX1_takenAt_12 (by decide) (fun h_12_311 => ?_) (fun h_12_311 => ?_)
      · have q_12_312 := zr_le h_12_311
        refine lv_iload_n hx hb ddX1_takenAt_34 rfl (lv_at hl 1 rfl) ?_
        exact cg_iret (nw := fun _ => 0) hC hr hlk hO.same rfl (Nat.le_of_ble_eq_true rfl) (Nat.le_of_ble_eq_true rfl) rfl ddX1_takenAt_35
      · have q_12_313 := zr_nle h_12_311
        have z_12_314 : zi 0 23 v_4_287 := zu_lt q_12_313 z_4_288 b1_4 (by decide)
        have z_12_315 : zi 1 24 x1_4 := zd_lt q_12_313 z_4_288 b1_4 (by decide)
        refine lv_iload_n hx hb ddX1_takenAt_15 rfl (lv_at hl 1 rfl) ?_
        refine lv_aload_n hx hb ddX1_takenAt_16 rfl (lv_at hl 2 rfl) ?_
        refine cg_get hC hO 0 (by decide) o0 rfl i_X1 5 (by decide) (List.mem_of_getElem? (i := 3) rfl) rfl ddX1_takenAt_17 ?_
        refine lv_iload_n hx hb ddX1_takenAt_20 rfl (lv_at hl 0 rfl) ?_
        refine lv_iconst (v := 4) hx hb ddX1_takenAt_21 (by decide) ?_
        refine lv_imul hx hb ddX1_takenAt_22 ?_
        refine zg_top (P := fun v => zi 0 92 v) ((zi_mul z_12_314 (zi_k (a := 4) (b := 4) (x := 4) rfl) (by decide)).1) (fun v_22_316 z_22_317 => ?_)
        refine lv_iload_n hx hb ddX1_takenAt_23 rfl (lv_at hl 3 rfl) ?_
        refine lv_iadd hx hb ddX1_takenAt_24 ?_
        refine zg_top2 (P := fun v => zi 0 95 v) (E := fun v => v.toInt = (v_22_316 : Int32).toInt + (post : Int32).toInt) (zi_add z_22_317 p_post (by decide)) (fun v_24_318 z_24_319 q_24_320 => ?_)
        refine zg_iald hC hO 2 (by decide) a2 (za_all _) (zi_in z_24_319 (by decide)) ddX1_takenAt_25 (fun v_25_321 z_25_322 => ?_)
        refine lv_iadd hx hb ddX1_takenAt_26 ?_
        refine lv_topi (fun v_26_323 _ => ?_)
        refine lv_istore_n (lv' := [(2, .int v_26_323), (3, .int v_4_287), (0, .ref (ad 0)), (1, .int post)]) hx hb ddX1_takenAt_27 rfl hl (by decide) rfl (fun ls hl => ?_)
        obtain ⟨v_28_324, e_28_325, z_28_326, q_28_327⟩ := zi_inc (e := 1) (f := 24) 1 z_12_314 (by decide)
        refine lv_iinc (v := v_28_324) (lv' := [(3, .int v_28_324), (2, .int v_26_323), (0, .ref (ad 0)), (1, .int post)]) hx hb ddX1_takenAt_28 hl (k := 1) rfl e_28_325 (by decide) rfl (fun ls hl => ?_)
        refine lv_goto (tgt := 4) hx hb ddX1_takenAt_31 (by decide) ?_
        exact ih_4_310 v_28_324 v_26_323 (zi_w (c := 0) (d := 24) z_28_326 (by decide)) (zm_up q_28_327 ((zi_w (c := 0) (d := 24) z_28_326 (by decide))).2 (by decide) mu_4_309) _ _ hO ls (lv_sub hl [0, 1, 2, 3] rfl)
  exact loop_4_307 ((24 + 1 - (0 : Int32).toInt).toNat + 1) 0 0 (zi_k (a := 0) (b := 24) (x := 0) rfl) (Nat.lt_succ_self _) _ _ hO ls (lv_sub hl [0, 1, 2, 3] rfl)

theorem ddX1_takenInAll_0 : decode cX1_takenInAll 0 = .ok (.iconst 0, 1) := by decide +kernel
theorem ddX1_takenInAll_1 : decode cX1_takenInAll 1 = .ok (.istore_n 1, 1) := by decide +kernel
theorem ddX1_takenInAll_2 : decode cX1_takenInAll 2 = .ok (.iconst 0, 1) := by decide +kernel
theorem ddX1_takenInAll_3 : decode cX1_takenInAll 3 = .ok (.istore_n 2, 1) := by decide +kernel
theorem ddX1_takenInAll_4 : decode cX1_takenInAll 4 = .ok (.iload_n 2, 1) := by decide +kernel
theorem ddX1_takenInAll_5 : decode cX1_takenInAll 5 = .ok (.aload_n 0, 1) := by decide +kernel
theorem ddX1_takenInAll_6 : decode cX1_takenInAll 6 = .ok (.getfield 21, 3) := by decide +kernel
theorem ddX1_takenInAll_9 : decode cX1_takenInAll 9 = .ok (.getfield 68, 3) := by decide +kernel
theorem ddX1_takenInAll_12 : decode cX1_takenInAll 12 = .ok (.if_icmp .ge 17, 3) := by decide +kernel
theorem ddX1_takenInAll_15 : decode cX1_takenInAll 15 = .ok (.iload_n 1, 1) := by decide +kernel
theorem ddX1_takenInAll_16 : decode cX1_takenInAll 16 = .ok (.aload_n 0, 1) := by decide +kernel
theorem ddX1_takenInAll_17 : decode cX1_takenInAll 17 = .ok (.iload_n 2, 1) := by decide +kernel
theorem ddX1_takenInAll_18 : decode cX1_takenInAll 18 = .ok (.invokevirtual 96, 3) := by decide +kernel
theorem ddX1_takenInAll_21 : decode cX1_takenInAll 21 = .ok (.iadd, 1) := by decide +kernel
theorem ddX1_takenInAll_22 : decode cX1_takenInAll 22 = .ok (.istore_n 1, 1) := by decide +kernel
theorem ddX1_takenInAll_23 : decode cX1_takenInAll 23 = .ok (.iinc 2 1, 3) := by decide +kernel
theorem ddX1_takenInAll_26 : decode cX1_takenInAll 26 = .ok (.goto (-22), 3) := by decide +kernel
theorem ddX1_takenInAll_29 : decode cX1_takenInAll 29 = .ok (.iload_n 1, 1) := by decide +kernel
theorem ddX1_takenInAll_30 : decode cX1_takenInAll 30 = .ok (.ireturn, 1) := by decide +kernel
def wq_k_X1_takenInAll : List Cond := Cond.code yX1_takenInAll cX1_takenInAll 3 (some .int) :: (([Cond.fieldLink RX1 21 "CrowToll$Day" "road" "LCrowToll$Road;", Cond.fieldLink RX1 68 "CrowToll$Road" "posts" "I", Cond.methodLink RX1 96 yX1_takenAt, Cond.instanceMethod yX1_takenAt, Cond.selects RX1 yX1_takenAt yX1_takenAt, Cond.initialized RX1, Cond.code yX1_takenAt cX1_takenAt 4 (some .int), Cond.fieldLink RX1 25 "CrowToll$Day" "stand" "LCrowToll$Stand;", Cond.fieldLink RX1 93 "CrowToll$Stand" "carts" "I", Cond.fieldLink RX1 15 "CrowToll$Day" "paid" "[I"] : List Cond) ++ wsX10 ++ wsX70 ++ wsX90)
set_option maxRecDepth 20000 in
theorem gr_k_X1_takenInAll_k_X1_takenAt : GoodIn wq_k_X1_takenInAll wq_k_X1_takenAt := List.forall_mem_cons.mpr ⟨⟨(List.mem_of_getElem? (i := 7) rfl), good_of_word rfl⟩, List.forall_mem_append.mpr ⟨List.forall_mem_append.mpr ⟨List.forall_mem_cons.mpr ⟨⟨(List.mem_of_getElem? (i := 8) rfl), good_of_word rfl⟩, List.forall_mem_cons.mpr ⟨⟨(List.mem_of_getElem? (i := 9) rfl), good_of_word rfl⟩, List.forall_mem_cons.mpr ⟨⟨(List.mem_of_getElem? (i := 10) rfl), good_of_word rfl⟩, (fun _ h => absurd h List.not_mem_nil)⟩⟩⟩, fun w h => ⟨(fun w h => List.mem_cons_of_mem _ (List.mem_append_left _ (List.mem_append_left _ (List.mem_append_right _ h)))) w h, good_of_word (List.all_eq_true.mp gw_X1 w h)⟩⟩, fun w h => ⟨(fun w h => List.mem_cons_of_mem _ (List.mem_append_right _ h)) w h, good_of_word (List.all_eq_true.mp gw_X9 w h)⟩⟩⟩
set_option maxRecDepth 20000 in
theorem gq_k_X1_takenInAll_k_X1_takenAt_96 : GoodIn wq_k_X1_takenInAll (wsV RX1 96 RX1 yX1_takenAt wq_k_X1_takenAt) := goodIn_app (List.forall_mem_cons.mpr ⟨⟨(List.mem_of_getElem? (i := 3) rfl), good_of_word rfl⟩, List.forall_mem_cons.mpr ⟨⟨(List.mem_of_getElem? (i := 4) rfl), good_of_word rfl⟩, List.forall_mem_cons.mpr ⟨⟨(List.mem_of_getElem? (i := 5) rfl), good_of_word rfl⟩, List.forall_mem_cons.mpr ⟨⟨(List.mem_of_getElem? (i := 6) rfl), good_of_word rfl⟩, (fun _ h => absurd h List.not_mem_nil)⟩⟩⟩⟩) gr_k_X1_takenInAll_k_X1_takenAt
set_option maxHeartbeats 8000000 in
set_option maxRecDepth 100000 in
theorem k_X1_takenInAll (l : Launch) (D : va_G) (cy : Nat → ClassId) (ad : Nat → Nat) (g : Nat → va_E) {u0_2 : Value} {u0_3 : Value} {u0_4 : Value} {u0_6 : Value} {u1_0 : Value} {u1_1 : Value} {u1_2 : Value} {u1_3 : Value} {u1_4 : Value} {u1_5 : Value} {u1_6 : Value} {u1_7 : Value} {u1_8 : Value} {u1_9 : Value} {u1_10 : Value} {x1_11 : Int32} {u1_12 : Value} {u1_13 : Value} {u1_14 : Value} {u1_15 : Value} {u1_16 : Value} {u1_17 : Value} {u2_0 : Value} {u2_1 : Value} {u2_2 : Value} {u2_3 : Value} {x2_4 : Int32} {c3 : Nat → Int32} (o0 : g 0 = .inr (1, [.ref (ad 1), .ref (ad 2), u0_2, u0_3, u0_4, .ref (ad 3), u0_6])) (o1 : g 1 = .inr (7, [u1_0, u1_1, u1_2, u1_3, u1_4, u1_5, u1_6, u1_7, u1_8, u1_9, u1_10, .int x1_11, u1_12, u1_13, u1_14, u1_15, u1_16, u1_17])) (o2 : g 2 = .inr (9, [u2_0, u2_1, u2_2, u2_3, .int x2_4])) (a3 : g 3 = .inl (cy 0, 96, .inl c3)) (b1_11 : zi 0 4 x1_11) (b2_4 : zi 0 24 x2_4) : cMi l yX1_takenInAll wq_k_X1_takenInAll { frames := 1, cells := 0, slots := 0, locals := 23 } 4 0 0 0 D cy ad g [.ref (ad 0)] (fun r nw lu => lu = []) := by
  refine cM_of (Qc := fun A => cQi (fun r nw lu => lu = []) D 4 0 ad g A) (cc := cX1_takenInAll) (maxL := 3) (ret := (some .int)) (by decide) rfl (Nat.le_of_ble_eq_true rfl) ?_
  intro p e s m below meth c A hC hr hlk hnm hO ls hl
  have hC : CallFix p m c cX1_takenInAll 3 s [.ref (ad 0)].toArray wq_k_X1_takenInAll RX1 := hC
  obtain ⟨hx, hb, hml, hown, hts⟩ := id hC
  have hl : lv_has ls 3 [(0, .ref (ad 0))] := hl
  have i_X1 : ∀ w ∈ wsX10, w ∈ wq_k_X1_takenInAll := fun w h => List.mem_cons_of_mem _ (List.mem_append_left _ (List.mem_append_left _ (List.mem_append_right _ h)))
  have i_X7 : ∀ w ∈ wsX70, w ∈ wq_k_X1_takenInAll := fun w h => List.mem_cons_of_mem _ (List.mem_append_left _ (List.mem_append_right _ h))
  have i_X9 : ∀ w ∈ wsX90, w ∈ wq_k_X1_takenInAll := fun w h => List.mem_cons_of_mem _ (List.mem_append_right _ h)
  refine lv_iconst (v := 0) hx hb ddX1_takenInAll_0 (by decide) ?_
  refine lv_istore_n (lv' := [(1, .int 0), (0, .ref (ad 0))]) hx hb ddX1_takenInAll_1 rfl hl (by decide) rfl (fun ls hl => ?_)
  refine lv_iconst (v := 0) hx hb ddX1_takenInAll_2 (by decide) ?_
  refine lv_istore_n (lv' := [(2, .int 0), (1, .int 0), (0, .ref (ad 0))]) hx hb ddX1_takenInAll_3 rfl hl (by decide) rfl (fun ls hl => ?_)
  have loop_4_151 : ∀ (d_4_152 : Nat) (v_4_135 : Int32) (v_4_137 : Int32), zi 0 4 v_4_135 → (4 + 1 - v_4_135.toInt).toNat < d_4_152 → ∀ (H : Heap) (locs : List Loc), cO D cy A s.heap s 4 ad (cup [] g) H locs → ∀ ls : Array Slot, lv_has ls 3 [(2, .int v_4_135), (1, .int v_4_137), (0, .ref (ad 0))] → W p l e { frames := 1, cells := 0, slots := 0, locals := 23 } s m [.ref (ad 0)].toArray below meth c H locs 0 0 (MQ below (cQi (fun r nw lu => lu = []) D 4 0 ad g A) [.ref (ad 0)].toArray s 0 0 A) (F0 m 4 ls [])  := by
    intro d_4_152
    induction d_4_152 with
    | zero => intro v_4_135 v_4_137 z_4_136 mu_4_153; exact absurd mu_4_153 (Nat.not_lt_zero _)
    | succ d_4_152 ih_4_154 =>
      intro v_4_135 v_4_137 z_4_136 mu_4_153 H locs hO ls hl
      refine lv_iload_n hx hb ddX1_takenInAll_4 rfl (lv_at hl 0 rfl) ?_
      refine lv_aload_n hx hb ddX1_takenInAll_5 rfl (lv_at hl 2 rfl) ?_
      refine cg_get hC hO 0 (by decide) o0 rfl i_X1 0 (by decide) (List.mem_of_getElem? (i := 1) rfl) rfl ddX1_takenInAll_6 ?_
      refine cg_get hC hO 1 (by decide) o1 rfl i_X7 11 (by decide) (List.mem_of_getElem? (i := 2) rfl) rfl ddX1_takenInAll_9 ?_
      refine lv_icmp_ge (tgt := 29) hx hb ddX1_takenInAll_12 (by decide) (fun h_12_155 => ?_) (fun h_12_155 => ?_)
      · have q_12_156 := zr_le h_12_155
        refine lv_iload_n hx hb ddX1_takenInAll_29 rfl (lv_at hl 1 rfl) ?_
        exact cg_iret (nw := fun _ => 0) hC hr hlk hO.same rfl (Nat.le_of_ble_eq_true rfl) (Nat.le_of_ble_eq_true rfl) rfl ddX1_takenInAll_30
      · have q_12_157 := zr_nle h_12_155
        have z_12_158 : zi 0 3 v_4_135 := zu_lt q_12_157 z_4_136 b1_11 (by decide)
        have z_12_159 : zi 1 4 x1_11 := zd_lt q_12_157 z_4_136 b1_11 (by decide)
        refine lv_iload_n hx hb ddX1_takenInAll_15 rfl (lv_at hl 1 rfl) ?_
        refine lv_aload_n hx hb ddX1_takenInAll_16 rfl (lv_at hl 2 rfl) ?_
        refine lv_iload_n hx hb ddX1_takenInAll_17 rfl (lv_at hl 0 rfl) ?_
        refine cg_Vi (As := [.int v_4_135]) (rest := [.int v_4_137]) (mc := 0) (ms := 0) (rm := { frames := 0, cells := 0, slots := 0, locals := 0 }) hC hl.1 hO [0, 2, 3] (by decide +kernel) (k_X1_takenAt l D cy _ _ (u0_0 := .ref (ad 1)) (u1_0 := u2_0) (u1_1 := u2_1) (u1_2 := u2_2) (u1_3 := u2_3) (x1_4 := x2_4) (u0_2 := u0_2) (u0_3 := u0_3) (u0_4 := u0_4) (c2 := c3) (u0_6 := u0_6) (post := v_4_135) o0 o2 a3 b2_4 z_12_158) gq_k_X1_takenInAll_k_X1_takenAt_96 rfl rfl rfl 1 (by decide +kernel) ⟨Nat.le_of_ble_eq_true rfl, Nat.le_of_ble_eq_true rfl⟩ rfl (by decide) o0 rfl rfl (Nat.le_of_ble_eq_true rfl) ddX1_takenInAll_18 ⟨Nat.le_of_ble_eq_true rfl, Nat.le_of_ble_eq_true rfl⟩ (fun r_18_162 nw_18_160 l_18_161 H locs hw hO => ?_)
        obtain rfl := hw
        have hO : cO D cy A s.heap s 4 ad (cup [] g) _ _ := hO
        refine lv_iadd hx hb ddX1_takenInAll_21 ?_
        refine lv_topi (fun v_21_163 _ => ?_)
        refine lv_istore_n (lv' := [(1, .int v_21_163), (2, .int v_4_135), (0, .ref (ad 0))]) hx hb ddX1_takenInAll_22 rfl hl (by decide) rfl (fun ls hl => ?_)
        obtain ⟨v_23_164, e_23_165, z_23_166, q_23_167⟩ := zi_inc (e := 1) (f := 4) 1 z_12_158 (by decide)
        refine lv_iinc (v := v_23_164) (lv' := [(2, .int v_23_164), (1, .int v_21_163), (0, .ref (ad 0))]) hx hb ddX1_takenInAll_23 hl (k := 1) rfl e_23_165 (by decide) rfl (fun ls hl => ?_)
        refine lv_goto (tgt := 4) hx hb ddX1_takenInAll_26 (by decide) ?_
        exact ih_4_154 v_23_164 v_21_163 (zi_w (c := 0) (d := 4) z_23_166 (by decide)) (zm_up q_23_167 ((zi_w (c := 0) (d := 4) z_23_166 (by decide))).2 (by decide) mu_4_153) _ _ hO ls (lv_sub hl [0, 1, 2] rfl)
  exact loop_4_151 ((4 + 1 - (0 : Int32).toInt).toNat + 1) 0 0 (zi_k (a := 0) (b := 4) (x := 0) rfl) (Nat.lt_succ_self _) _ _ hO ls (lv_sub hl [0, 1, 2] rfl)

theorem ddX1_workOut_0 : decode cX1_workOut 0 = .ok (.aload_n 0, 1) := by decide +kernel
theorem ddX1_workOut_1 : decode cX1_workOut 1 = .ok (.getfield 25, 3) := by decide +kernel
theorem ddX1_workOut_4 : decode cX1_workOut 4 = .ok (.aload_n 0, 1) := by decide +kernel
theorem ddX1_workOut_5 : decode cX1_workOut 5 = .ok (.getfield 18, 3) := by decide +kernel
theorem ddX1_workOut_8 : decode cX1_workOut 8 = .ok (.invokevirtual 48, 3) := by decide +kernel
theorem ddX1_workOut_11 : decode cX1_workOut 11 = .ok (.istore_n 1, 1) := by decide +kernel
theorem ddX1_workOut_12 : decode cX1_workOut 12 = .ok (.aload_n 0, 1) := by decide +kernel
theorem ddX1_workOut_13 : decode cX1_workOut 13 = .ok (.getfield 18, 3) := by decide +kernel
theorem ddX1_workOut_16 : decode cX1_workOut 16 = .ok (.iload_n 1, 1) := by decide +kernel
theorem ddX1_workOut_17 : decode cX1_workOut 17 = .ok (.aload_n 0, 1) := by decide +kernel
theorem ddX1_workOut_18 : decode cX1_workOut 18 = .ok (.getfield 25, 3) := by decide +kernel
theorem ddX1_workOut_21 : decode cX1_workOut 21 = .ok (.getfield 54, 3) := by decide +kernel
theorem ddX1_workOut_24 : decode cX1_workOut 24 = .ok (.invokestatic 57, 3) := by decide +kernel
theorem ddX1_workOut_27 : decode cX1_workOut 27 = .ok (.aload_n 0, 1) := by decide +kernel
theorem ddX1_workOut_28 : decode cX1_workOut 28 = .ok (.getfield 9, 3) := by decide +kernel
theorem ddX1_workOut_31 : decode cX1_workOut 31 = .ok (.iconst (-1), 1) := by decide +kernel
theorem ddX1_workOut_32 : decode cX1_workOut 32 = .ok (.invokestatic 42, 3) := by decide +kernel
theorem ddX1_workOut_35 : decode cX1_workOut 35 = .ok (.aload_n 0, 1) := by decide +kernel
theorem ddX1_workOut_36 : decode cX1_workOut 36 = .ok (.getfield 15, 3) := by decide +kernel
theorem ddX1_workOut_39 : decode cX1_workOut 39 = .ok (.iconst 0, 1) := by decide +kernel
theorem ddX1_workOut_40 : decode cX1_workOut 40 = .ok (.invokestatic 42, 3) := by decide +kernel
theorem ddX1_workOut_43 : decode cX1_workOut 43 = .ok (.aload_n 0, 1) := by decide +kernel
theorem ddX1_workOut_44 : decode cX1_workOut 44 = .ok (.getfield 38, 3) := by decide +kernel
theorem ddX1_workOut_47 : decode cX1_workOut 47 = .ok (.aload_n 0, 1) := by decide +kernel
theorem ddX1_workOut_48 : decode cX1_workOut 48 = .ok (.getfield 25, 3) := by decide +kernel
theorem ddX1_workOut_51 : decode cX1_workOut 51 = .ok (.getfield 61, 3) := by decide +kernel
theorem ddX1_workOut_54 : decode cX1_workOut 54 = .ok (.invokevirtual 64, 3) := by decide +kernel
theorem ddX1_workOut_57 : decode cX1_workOut 57 = .ok (.iconst 0, 1) := by decide +kernel
theorem ddX1_workOut_58 : decode cX1_workOut 58 = .ok (.istore_n 2, 1) := by decide +kernel
theorem ddX1_workOut_59 : decode cX1_workOut 59 = .ok (.iload_n 2, 1) := by decide +kernel
theorem ddX1_workOut_60 : decode cX1_workOut 60 = .ok (.aload_n 0, 1) := by decide +kernel
theorem ddX1_workOut_61 : decode cX1_workOut 61 = .ok (.getfield 21, 3) := by decide +kernel
theorem ddX1_workOut_64 : decode cX1_workOut 64 = .ok (.getfield 68, 3) := by decide +kernel
theorem ddX1_workOut_67 : decode cX1_workOut 67 = .ok (.if_icmp .ge 118, 3) := by decide +kernel
theorem ddX1_workOut_70 : decode cX1_workOut 70 = .ok (.iconst 0, 1) := by decide +kernel
theorem ddX1_workOut_71 : decode cX1_workOut 71 = .ok (.istore_n 3, 1) := by decide +kernel
theorem ddX1_workOut_72 : decode cX1_workOut 72 = .ok (.iload_n 3, 1) := by decide +kernel
theorem ddX1_workOut_73 : decode cX1_workOut 73 = .ok (.iload_n 1, 1) := by decide +kernel
theorem ddX1_workOut_74 : decode cX1_workOut 74 = .ok (.if_icmp .ge 105, 3) := by decide +kernel
theorem ddX1_workOut_77 : decode cX1_workOut 77 = .ok (.aload_n 0, 1) := by decide +kernel
theorem ddX1_workOut_78 : decode cX1_workOut 78 = .ok (.getfield 18, 3) := by decide +kernel
theorem ddX1_workOut_81 : decode cX1_workOut 81 = .ok (.iload_n 3, 1) := by decide +kernel
theorem ddX1_workOut_82 : decode cX1_workOut 82 = .ok (.iaload, 1) := by decide +kernel
theorem ddX1_workOut_83 : decode cX1_workOut 83 = .ok (.istore 4, 2) := by decide +kernel
theorem ddX1_workOut_85 : decode cX1_workOut 85 = .ok (.aload_n 0, 1) := by decide +kernel
theorem ddX1_workOut_86 : decode cX1_workOut 86 = .ok (.getfield 38, 3) := by decide +kernel
theorem ddX1_workOut_89 : decode cX1_workOut 89 = .ok (.iload_n 2, 1) := by decide +kernel
theorem ddX1_workOut_90 : decode cX1_workOut 90 = .ok (.aload_n 0, 1) := by decide +kernel
theorem ddX1_workOut_91 : decode cX1_workOut 91 = .ok (.getfield 25, 3) := by decide +kernel
theorem ddX1_workOut_94 : decode cX1_workOut 94 = .ok (.getfield 54, 3) := by decide +kernel
theorem ddX1_workOut_97 : decode cX1_workOut 97 = .ok (.iload 4, 2) := by decide +kernel
theorem ddX1_workOut_99 : decode cX1_workOut 99 = .ok (.iaload, 1) := by decide +kernel
theorem ddX1_workOut_100 : decode cX1_workOut 100 = .ok (.aload_n 0, 1) := by decide +kernel
theorem ddX1_workOut_101 : decode cX1_workOut 101 = .ok (.getfield 21, 3) := by decide +kernel
theorem ddX1_workOut_104 : decode cX1_workOut 104 = .ok (.getfield 74, 3) := by decide +kernel
theorem ddX1_workOut_107 : decode cX1_workOut 107 = .ok (.iload_n 2, 1) := by decide +kernel
theorem ddX1_workOut_108 : decode cX1_workOut 108 = .ok (.iaload, 1) := by decide +kernel
theorem ddX1_workOut_109 : decode cX1_workOut 109 = .ok (.iadd, 1) := by decide +kernel
theorem ddX1_workOut_110 : decode cX1_workOut 110 = .ok (.invokevirtual 77, 3) := by decide +kernel
theorem ddX1_workOut_113 : decode cX1_workOut 113 = .ok (.istore 5, 2) := by decide +kernel
theorem ddX1_workOut_115 : decode cX1_workOut 115 = .ok (.iload 5, 2) := by decide +kernel
theorem ddX1_workOut_117 : decode cX1_workOut 117 = .ok (.iconst (-1), 1) := by decide +kernel
theorem ddX1_workOut_118 : decode cX1_workOut 118 = .ok (.if_icmp .eq 55, 3) := by decide +kernel
theorem ddX1_workOut_121 : decode cX1_workOut 121 = .ok (.aload_n 0, 1) := by decide +kernel
theorem ddX1_workOut_122 : decode cX1_workOut 122 = .ok (.getfield 9, 3) := by decide +kernel
theorem ddX1_workOut_125 : decode cX1_workOut 125 = .ok (.iload 4, 2) := by decide +kernel
theorem ddX1_workOut_127 : decode cX1_workOut 127 = .ok (.iconst 4, 1) := by decide +kernel
theorem ddX1_workOut_128 : decode cX1_workOut 128 = .ok (.imul, 1) := by decide +kernel
theorem ddX1_workOut_129 : decode cX1_workOut 129 = .ok (.iload_n 2, 1) := by decide +kernel
theorem ddX1_workOut_130 : decode cX1_workOut 130 = .ok (.iadd, 1) := by decide +kernel
theorem ddX1_workOut_131 : decode cX1_workOut 131 = .ok (.iload 5, 2) := by decide +kernel
theorem ddX1_workOut_133 : decode cX1_workOut 133 = .ok (.iastore, 1) := by decide +kernel
theorem ddX1_workOut_134 : decode cX1_workOut 134 = .ok (.aload_n 0, 1) := by decide +kernel
theorem ddX1_workOut_135 : decode cX1_workOut 135 = .ok (.getfield 15, 3) := by decide +kernel
theorem ddX1_workOut_138 : decode cX1_workOut 138 = .ok (.iload 4, 2) := by decide +kernel
theorem ddX1_workOut_140 : decode cX1_workOut 140 = .ok (.iconst 4, 1) := by decide +kernel
theorem ddX1_workOut_141 : decode cX1_workOut 141 = .ok (.imul, 1) := by decide +kernel
theorem ddX1_workOut_142 : decode cX1_workOut 142 = .ok (.iload_n 2, 1) := by decide +kernel
theorem ddX1_workOut_143 : decode cX1_workOut 143 = .ok (.iadd, 1) := by decide +kernel
theorem ddX1_workOut_144 : decode cX1_workOut 144 = .ok (.aload_n 0, 1) := by decide +kernel
theorem ddX1_workOut_145 : decode cX1_workOut 145 = .ok (.getfield 29, 3) := by decide +kernel
theorem ddX1_workOut_148 : decode cX1_workOut 148 = .ok (.iload_n 2, 1) := by decide +kernel
theorem ddX1_workOut_149 : decode cX1_workOut 149 = .ok (.aload_n 0, 1) := by decide +kernel
theorem ddX1_workOut_150 : decode cX1_workOut 150 = .ok (.getfield 25, 3) := by decide +kernel
theorem ddX1_workOut_153 : decode cX1_workOut 153 = .ok (.getfield 81, 3) := by decide +kernel
theorem ddX1_workOut_156 : decode cX1_workOut 156 = .ok (.iload 4, 2) := by decide +kernel
theorem ddX1_workOut_158 : decode cX1_workOut 158 = .ok (.iaload, 1) := by decide +kernel
theorem ddX1_workOut_159 : decode cX1_workOut 159 = .ok (.aload_n 0, 1) := by decide +kernel
theorem ddX1_workOut_160 : decode cX1_workOut 160 = .ok (.getfield 38, 3) := by decide +kernel
theorem ddX1_workOut_163 : decode cX1_workOut 163 = .ok (.getfield 84, 3) := by decide +kernel
theorem ddX1_workOut_166 : decode cX1_workOut 166 = .ok (.iload 5, 2) := by decide +kernel
theorem ddX1_workOut_168 : decode cX1_workOut 168 = .ok (.iaload, 1) := by decide +kernel
theorem ddX1_workOut_169 : decode cX1_workOut 169 = .ok (.invokevirtual 87, 3) := by decide +kernel
theorem ddX1_workOut_172 : decode cX1_workOut 172 = .ok (.iastore, 1) := by decide +kernel
theorem ddX1_workOut_173 : decode cX1_workOut 173 = .ok (.iinc 3 1, 3) := by decide +kernel
theorem ddX1_workOut_176 : decode cX1_workOut 176 = .ok (.goto (-104), 3) := by decide +kernel
theorem ddX1_workOut_179 : decode cX1_workOut 179 = .ok (.iinc 2 1, 3) := by decide +kernel
theorem ddX1_workOut_182 : decode cX1_workOut 182 = .ok (.goto (-123), 3) := by decide +kernel
theorem ddX1_workOut_185 : decode cX1_workOut 185 = .ok (.return_, 1) := by decide +kernel
def wq_k_X1_workOut : List Cond := Cond.code yX1_workOut cX1_workOut 6 none :: (([Cond.fieldLink RX1 25 "CrowToll$Day" "stand" "LCrowToll$Stand;", Cond.fieldLink RX1 18 "CrowToll$Day" "order" "[I", Cond.methodLink RX1 48 yX9_coming, Cond.instanceMethod yX9_coming, Cond.selects RX9 yX9_coming yX9_coming, Cond.initialized RX9, Cond.code yX9_coming cX9_coming 4 (some .int), Cond.fieldLink RX9 21 "CrowToll$Stand" "carts" "I", Cond.fieldLink RX9 37 "CrowToll$Stand" "comes" "I", Cond.code yX11_has cX11_has 2 (some .boolean), Cond.static yX11_has, Cond.initialized RX11, Cond.fieldLink RX1 54 "CrowToll$Stand" "minute" "[I", Cond.code yX11_putByMinutes cX11_putByMinutes 6 none, Cond.static yX11_putByMinutes, Cond.fieldLink RX1 9 "CrowToll$Day" "counter" "[I", Cond.methodLink RX1 42 yJ7_fill_53178, Cond.static yJ7_fill_53178, Cond.initialized RJ7, Cond.code yJ7_fill_53178 cJ7_fill_53178 4 none, Cond.fieldLink RX1 15 "CrowToll$Day" "paid" "[I", Cond.fieldLink RX1 38 "CrowToll$Day" "watch" "LCrowToll$Watch;", Cond.fieldLink RX1 61 "CrowToll$Stand" "counts" "[I", Cond.methodLink RX1 64 yX10_sit, Cond.instanceMethod yX10_sit, Cond.selects RX10 yX10_sit yX10_sit, Cond.initialized RX10, Cond.code yX10_sit cX10_sit 2 none, Cond.fieldLink RX10 9 "CrowToll$Watch" "limit" "[I", Cond.methodLink RX10 37 arraycopyName, Cond.native arraycopyName, Cond.static arraycopyName, Cond.initialized "java/lang/System", Cond.fieldLink RX10 33 "CrowToll$Watch" "road" "LCrowToll$Road;", Cond.fieldLink RX10 43 "CrowToll$Road" "seat" "[I", Cond.fieldLink RX10 15 "CrowToll$Watch" "seat" "[I", Cond.fieldLink RX10 46 "CrowToll$Road" "seated" "[I", Cond.fieldLink RX10 18 "CrowToll$Watch" "seated" "[I", Cond.methodLink RX10 47 yX10_begin, Cond.instanceMethod yX10_begin, Cond.selects RX10 yX10_begin yX10_begin, Cond.code yX10_begin cX10_begin 1 none, Cond.fieldLink RX10 21 "CrowToll$Watch" "count" "[I", Cond.methodLink RX10 54 yJ7_fill_53178, Cond.fieldLink RX10 24 "CrowToll$Watch" "total" "[I", Cond.fieldLink RX10 27 "CrowToll$Watch" "lookedAt" "[I", Cond.fieldLink RX10 30 "CrowToll$Watch" "countedAt" "[I", Cond.fieldLink RX1 21 "CrowToll$Day" "road" "LCrowToll$Road;", Cond.fieldLink RX1 68 "CrowToll$Road" "posts" "I", Cond.fieldLink RX1 74 "CrowToll$Road" "at" "[I", Cond.methodLink RX1 77 yX10_look, Cond.instanceMethod yX10_look, Cond.selects RX10 yX10_look yX10_look, Cond.code yX10_look cX10_look 5 (some .int), Cond.fieldLink RX10 60 "CrowToll$Road" "gap" "[I", Cond.fieldLink RX10 63 "CrowToll$Road" "takes" "[I", Cond.fieldLink RX1 29 "CrowToll$Day" "prices" "LCrowToll$Prices;", Cond.fieldLink RX1 81 "CrowToll$Stand" "sacks" "[I", Cond.fieldLink RX1 84 "CrowToll$Watch" "count" "[I", Cond.methodLink RX1 87 yX5_of, Cond.instanceMethod yX5_of, Cond.selects RX5 yX5_of yX5_of, Cond.initialized RX5, Cond.code yX5_of cX5_of 5 (some .int), Cond.fieldLink RX5 15 "CrowToll$Prices" "known" "[I", Cond.fieldLink RX5 9 "CrowToll$Prices" "sacksKnown" "[I", Cond.fieldLink RX5 18 "CrowToll$Prices" "road" "LCrowToll$Road;", Cond.fieldLink RX5 28 "CrowToll$Road" "law" "LCrowToll$Law;", Cond.fieldLink RX5 34 "CrowToll$Road" "toll" "[I", Cond.methodLink RX5 37 yX4_pay, Cond.instanceMethod yX4_pay, Cond.selects RX4 yX4_pay yX4_pay, Cond.initialized RX4, Cond.code yX4_pay cX4_pay 7 (some .int), Cond.fieldLink RX4 25 "CrowToll$Law" "isTold" "Z", Cond.fieldLink RX4 18 "CrowToll$Law" "steps" "I", Cond.fieldLink RX4 11 "CrowToll$Law" "step" "[I", Cond.fieldLink RX4 15 "CrowToll$Law" "stack" "[I", Cond.methodLink RX4 39 Lib.Math.min.name, Cond.static Lib.Math.min.name, Cond.initialized "java/lang/Math", Cond.code Lib.Math.min.name Lib.Math.min.code 2 (some .int), Cond.methodLink RX4 45 Lib.Math.max.name, Cond.static Lib.Math.max.name, Cond.code Lib.Math.max.name Lib.Math.max.code 2 (some .int), Cond.methodLink RX4 35 yX4_joined, Cond.static yX4_joined, Cond.code yX4_joined cX4_joined 3 (some .int)] : List Cond) ++ wsX10 ++ wsX40 ++ wsX50 ++ wsX70 ++ wsX90 ++ wsX100)
set_option maxRecDepth 20000 in
theorem gr_k_X1_workOut_k_X9_coming : GoodIn wq_k_X1_workOut wq_k_X9_coming := List.forall_mem_cons.mpr ⟨⟨(List.mem_of_getElem? (i := 7) rfl), good_of_word rfl⟩, List.forall_mem_append.mpr ⟨List.forall_mem_cons.mpr ⟨⟨(List.mem_of_getElem? (i := 8) rfl), good_of_word rfl⟩, List.forall_mem_cons.mpr ⟨⟨(List.mem_of_getElem? (i := 9) rfl), good_of_word rfl⟩, List.forall_mem_cons.mpr ⟨⟨(List.mem_of_getElem? (i := 10) rfl), good_of_word rfl⟩, List.forall_mem_cons.mpr ⟨⟨(List.mem_of_getElem? (i := 11) rfl), good_of_word rfl⟩, List.forall_mem_cons.mpr ⟨⟨(List.mem_of_getElem? (i := 12) rfl), good_of_word rfl⟩, (fun _ h => absurd h List.not_mem_nil)⟩⟩⟩⟩⟩, fun w h => ⟨(fun w h => List.mem_cons_of_mem _ (List.mem_append_left _ (List.mem_append_right _ h))) w h, good_of_word (List.all_eq_true.mp gw_X9 w h)⟩⟩⟩
set_option maxRecDepth 20000 in
theorem gq_k_X1_workOut_k_X9_coming_48 : GoodIn wq_k_X1_workOut (wsV RX1 48 RX9 yX9_coming wq_k_X9_coming) := goodIn_app (List.forall_mem_cons.mpr ⟨⟨(List.mem_of_getElem? (i := 3) rfl), good_of_word rfl⟩, List.forall_mem_cons.mpr ⟨⟨(List.mem_of_getElem? (i := 4) rfl), good_of_word rfl⟩, List.forall_mem_cons.mpr ⟨⟨(List.mem_of_getElem? (i := 5) rfl), good_of_word rfl⟩, List.forall_mem_cons.mpr ⟨⟨(List.mem_of_getElem? (i := 6) rfl), good_of_word rfl⟩, (fun _ h => absurd h List.not_mem_nil)⟩⟩⟩⟩) gr_k_X1_workOut_k_X9_coming
set_option maxRecDepth 20000 in
theorem gr_k_X1_workOut_k_X11_putByMinutes_24 : GoodIn wq_k_X1_workOut wq_k_X11_putByMinutes_24 := List.forall_mem_cons.mpr ⟨⟨(List.mem_of_getElem? (i := 14) rfl), good_of_word rfl⟩, (fun _ h => absurd h List.not_mem_nil)⟩
theorem gq_k_X1_workOut_k_X11_putByMinutes_24 : GoodIn wq_k_X1_workOut wq_k_X11_putByMinutes_24 := gr_k_X1_workOut_k_X11_putByMinutes_24
set_option maxRecDepth 20000 in
theorem gr_k_X1_workOut_k_fill_96 : GoodIn wq_k_X1_workOut wq_k_fill_96 := List.forall_mem_cons.mpr ⟨⟨(List.mem_of_getElem? (i := 20) rfl), good_of_word rfl⟩, (fun _ h => absurd h List.not_mem_nil)⟩
set_option maxRecDepth 20000 in
theorem gq_k_X1_workOut_k_fill_96_42 : GoodIn wq_k_X1_workOut (va_wsS RX1 42 yJ7_fill_53178 wq_k_fill_96) := goodIn_app (List.forall_mem_cons.mpr ⟨⟨(List.mem_of_getElem? (i := 17) rfl), good_of_word rfl⟩, List.forall_mem_cons.mpr ⟨⟨(List.mem_of_getElem? (i := 18) rfl), good_of_word rfl⟩, List.forall_mem_cons.mpr ⟨⟨(List.mem_of_getElem? (i := 19) rfl), good_of_word rfl⟩, (fun _ h => absurd h List.not_mem_nil)⟩⟩⟩) gr_k_X1_workOut_k_fill_96
set_option maxRecDepth 20000 in
theorem gr_k_X1_workOut_k_X10_sit : GoodIn wq_k_X1_workOut wq_k_X10_sit := List.forall_mem_cons.mpr ⟨⟨(List.mem_of_getElem? (i := 28) rfl), good_of_word rfl⟩, List.forall_mem_append.mpr ⟨List.forall_mem_append.mpr ⟨List.forall_mem_cons.mpr ⟨⟨(List.mem_of_getElem? (i := 29) rfl), good_of_word rfl⟩, List.forall_mem_cons.mpr ⟨⟨(List.mem_of_getElem? (i := 30) rfl), good_of_word rfl⟩, List.forall_mem_cons.mpr ⟨⟨(List.mem_of_getElem? (i := 31) rfl), good_of_word rfl⟩, List.forall_mem_cons.mpr ⟨⟨(List.mem_of_getElem? (i := 32) rfl), good_of_word rfl⟩, List.forall_mem_cons.mpr ⟨⟨(List.mem_of_getElem? (i := 33) rfl), good_of_word rfl⟩, List.forall_mem_cons.mpr ⟨⟨(List.mem_of_getElem? (i := 34) rfl), good_of_word rfl⟩, List.forall_mem_cons.mpr ⟨⟨(List.mem_of_getElem? (i := 35) rfl), good_of_word rfl⟩, List.forall_mem_cons.mpr ⟨⟨(List.mem_of_getElem? (i := 36) rfl), good_of_word rfl⟩, List.forall_mem_cons.mpr ⟨⟨(List.mem_of_getElem? (i := 37) rfl), good_of_word rfl⟩, List.forall_mem_cons.mpr ⟨⟨(List.mem_of_getElem? (i := 38) rfl), good_of_word rfl⟩, List.forall_mem_cons.mpr ⟨⟨(List.mem_of_getElem? (i := 39) rfl), good_of_word rfl⟩, List.forall_mem_cons.mpr ⟨⟨(List.mem_of_getElem? (i := 40) rfl), good_of_word rfl⟩, List.forall_mem_cons.mpr ⟨⟨(List.mem_of_getElem? (i := 41) rfl), good_of_word rfl⟩, List.forall_mem_cons.mpr ⟨⟨(List.mem_of_getElem? (i := 27) rfl), good_of_word rfl⟩, List.forall_mem_cons.mpr ⟨⟨(List.mem_of_getElem? (i := 42) rfl), good_of_word rfl⟩, List.forall_mem_cons.mpr ⟨⟨(List.mem_of_getElem? (i := 43) rfl), good_of_word rfl⟩, List.forall_mem_cons.mpr ⟨⟨(List.mem_of_getElem? (i := 44) rfl), good_of_word rfl⟩, List.forall_mem_cons.mpr ⟨⟨(List.mem_of_getElem? (i := 18) rfl), good_of_word rfl⟩, List.forall_mem_cons.mpr ⟨⟨(List.mem_of_getElem? (i := 19) rfl), good_of_word rfl⟩, List.forall_mem_cons.mpr ⟨⟨(List.mem_of_getElem? (i := 20) rfl), good_of_word rfl⟩, List.forall_mem_cons.mpr ⟨⟨(List.mem_of_getElem? (i := 45) rfl), good_of_word rfl⟩, List.forall_mem_cons.mpr ⟨⟨(List.mem_of_getElem? (i := 46) rfl), good_of_word rfl⟩, List.forall_mem_cons.mpr ⟨⟨(List.mem_of_getElem? (i := 47) rfl), good_of_word rfl⟩, (fun _ h => absurd h List.not_mem_nil)⟩⟩⟩⟩⟩⟩⟩⟩⟩⟩⟩⟩⟩⟩⟩⟩⟩⟩⟩⟩⟩⟩⟩, fun w h => ⟨(fun w h => List.mem_cons_of_mem _ (List.mem_append_left _ (List.mem_append_left _ (List.mem_append_right _ h)))) w h, good_of_word (List.all_eq_true.mp gw_X7 w h)⟩⟩, fun w h => ⟨(fun w h => List.mem_cons_of_mem _ (List.mem_append_right _ h)) w h, good_of_word (List.all_eq_true.mp gw_X10 w h)⟩⟩⟩
set_option maxRecDepth 20000 in
theorem gq_k_X1_workOut_k_X10_sit_64 : GoodIn wq_k_X1_workOut (wsV RX1 64 RX10 yX10_sit wq_k_X10_sit) := goodIn_app (List.forall_mem_cons.mpr ⟨⟨(List.mem_of_getElem? (i := 24) rfl), good_of_word rfl⟩, List.forall_mem_cons.mpr ⟨⟨(List.mem_of_getElem? (i := 25) rfl), good_of_word rfl⟩, List.forall_mem_cons.mpr ⟨⟨(List.mem_of_getElem? (i := 26) rfl), good_of_word rfl⟩, List.forall_mem_cons.mpr ⟨⟨(List.mem_of_getElem? (i := 27) rfl), good_of_word rfl⟩, (fun _ h => absurd h List.not_mem_nil)⟩⟩⟩⟩) gr_k_X1_workOut_k_X10_sit
set_option maxRecDepth 20000 in
theorem gr_k_X1_workOut_k_X10_look : GoodIn wq_k_X1_workOut wq_k_X10_look := List.forall_mem_cons.mpr ⟨⟨(List.mem_of_getElem? (i := 54) rfl), good_of_word rfl⟩, List.forall_mem_append.mpr ⟨List.forall_mem_append.mpr ⟨List.forall_mem_cons.mpr ⟨⟨(List.mem_of_getElem? (i := 38) rfl), good_of_word rfl⟩, List.forall_mem_cons.mpr ⟨⟨(List.mem_of_getElem? (i := 36) rfl), good_of_word rfl⟩, List.forall_mem_cons.mpr ⟨⟨(List.mem_of_getElem? (i := 47) rfl), good_of_word rfl⟩, List.forall_mem_cons.mpr ⟨⟨(List.mem_of_getElem? (i := 46) rfl), good_of_word rfl⟩, List.forall_mem_cons.mpr ⟨⟨(List.mem_of_getElem? (i := 34) rfl), good_of_word rfl⟩, List.forall_mem_cons.mpr ⟨⟨(List.mem_of_getElem? (i := 55) rfl), good_of_word rfl⟩, List.forall_mem_cons.mpr ⟨⟨(List.mem_of_getElem? (i := 43) rfl), good_of_word rfl⟩, List.forall_mem_cons.mpr ⟨⟨(List.mem_of_getElem? (i := 29) rfl), good_of_word rfl⟩, List.forall_mem_cons.mpr ⟨⟨(List.mem_of_getElem? (i := 45) rfl), good_of_word rfl⟩, List.forall_mem_cons.mpr ⟨⟨(List.mem_of_getElem? (i := 56) rfl), good_of_word rfl⟩, (fun _ h => absurd h List.not_mem_nil)⟩⟩⟩⟩⟩⟩⟩⟩⟩⟩, fun w h => ⟨(fun w h => List.mem_cons_of_mem _ (List.mem_append_left _ (List.mem_append_left _ (List.mem_append_right _ h)))) w h, good_of_word (List.all_eq_true.mp gw_X7 w h)⟩⟩, fun w h => ⟨(fun w h => List.mem_cons_of_mem _ (List.mem_append_right _ h)) w h, good_of_word (List.all_eq_true.mp gw_X10 w h)⟩⟩⟩
set_option maxRecDepth 20000 in
theorem gq_k_X1_workOut_k_X10_look_77 : GoodIn wq_k_X1_workOut (wsV RX1 77 RX10 yX10_look wq_k_X10_look) := goodIn_app (List.forall_mem_cons.mpr ⟨⟨(List.mem_of_getElem? (i := 51) rfl), good_of_word rfl⟩, List.forall_mem_cons.mpr ⟨⟨(List.mem_of_getElem? (i := 52) rfl), good_of_word rfl⟩, List.forall_mem_cons.mpr ⟨⟨(List.mem_of_getElem? (i := 53) rfl), good_of_word rfl⟩, List.forall_mem_cons.mpr ⟨⟨(List.mem_of_getElem? (i := 27) rfl), good_of_word rfl⟩, (fun _ h => absurd h List.not_mem_nil)⟩⟩⟩⟩) gr_k_X1_workOut_k_X10_look
set_option maxRecDepth 20000 in
theorem gr_k_X1_workOut_k_X5_of : GoodIn wq_k_X1_workOut wq_k_X5_of := List.forall_mem_cons.mpr ⟨⟨(List.mem_of_getElem? (i := 64) rfl), good_of_word rfl⟩, List.forall_mem_append.mpr ⟨List.forall_mem_append.mpr ⟨List.forall_mem_append.mpr ⟨List.forall_mem_cons.mpr ⟨⟨(List.mem_of_getElem? (i := 65) rfl), good_of_word rfl⟩, List.forall_mem_cons.mpr ⟨⟨(List.mem_of_getElem? (i := 66) rfl), good_of_word rfl⟩, List.forall_mem_cons.mpr ⟨⟨(List.mem_of_getElem? (i := 67) rfl), good_of_word rfl⟩, List.forall_mem_cons.mpr ⟨⟨(List.mem_of_getElem? (i := 68) rfl), good_of_word rfl⟩, List.forall_mem_cons.mpr ⟨⟨(List.mem_of_getElem? (i := 69) rfl), good_of_word rfl⟩, List.forall_mem_cons.mpr ⟨⟨(List.mem_of_getElem? (i := 70) rfl), good_of_word rfl⟩, List.forall_mem_cons.mpr ⟨⟨(List.mem_of_getElem? (i := 71) rfl), good_of_word rfl⟩, List.forall_mem_cons.mpr ⟨⟨(List.mem_of_getElem? (i := 72) rfl), good_of_word rfl⟩, List.forall_mem_cons.mpr ⟨⟨(List.mem_of_getElem? (i := 73) rfl), good_of_word rfl⟩, List.forall_mem_cons.mpr ⟨⟨(List.mem_of_getElem? (i := 74) rfl), good_of_word rfl⟩, List.forall_mem_cons.mpr ⟨⟨(List.mem_of_getElem? (i := 75) rfl), good_of_word rfl⟩, List.forall_mem_cons.mpr ⟨⟨(List.mem_of_getElem? (i := 76) rfl), good_of_word rfl⟩, List.forall_mem_cons.mpr ⟨⟨(List.mem_of_getElem? (i := 77) rfl), good_of_word rfl⟩, List.forall_mem_cons.mpr ⟨⟨(List.mem_of_getElem? (i := 78) rfl), good_of_word rfl⟩, List.forall_mem_cons.mpr ⟨⟨(List.mem_of_getElem? (i := 79) rfl), good_of_word rfl⟩, List.forall_mem_cons.mpr ⟨⟨(List.mem_of_getElem? (i := 80) rfl), good_of_word rfl⟩, List.forall_mem_cons.mpr ⟨⟨(List.mem_of_getElem? (i := 81) rfl), good_of_word rfl⟩, List.forall_mem_cons.mpr ⟨⟨(List.mem_of_getElem? (i := 82) rfl), good_of_word rfl⟩, List.forall_mem_cons.mpr ⟨⟨(List.mem_of_getElem? (i := 83) rfl), good_of_word rfl⟩, List.forall_mem_cons.mpr ⟨⟨(List.mem_of_getElem? (i := 84) rfl), good_of_word rfl⟩, List.forall_mem_cons.mpr ⟨⟨(List.mem_of_getElem? (i := 85) rfl), good_of_word rfl⟩, List.forall_mem_cons.mpr ⟨⟨(List.mem_of_getElem? (i := 86) rfl), good_of_word rfl⟩, List.forall_mem_cons.mpr ⟨⟨(List.mem_of_getElem? (i := 87) rfl), good_of_word rfl⟩, List.forall_mem_cons.mpr ⟨⟨(List.mem_of_getElem? (i := 88) rfl), good_of_word rfl⟩, (fun _ h => absurd h List.not_mem_nil)⟩⟩⟩⟩⟩⟩⟩⟩⟩⟩⟩⟩⟩⟩⟩⟩⟩⟩⟩⟩⟩⟩⟩⟩, fun w h => ⟨(fun w h => List.mem_cons_of_mem _ (List.mem_append_left _ (List.mem_append_left _ (List.mem_append_left _ (List.mem_append_left _ (List.mem_append_right _ h)))))) w h, good_of_word (List.all_eq_true.mp gw_X4 w h)⟩⟩, fun w h => ⟨(fun w h => List.mem_cons_of_mem _ (List.mem_append_left _ (List.mem_append_left _ (List.mem_append_left _ (List.mem_append_right _ h))))) w h, good_of_word (List.all_eq_true.mp gw_X5 w h)⟩⟩, fun w h => ⟨(fun w h => List.mem_cons_of_mem _ (List.mem_append_left _ (List.mem_append_left _ (List.mem_append_right _ h)))) w h, good_of_word (List.all_eq_true.mp gw_X7 w h)⟩⟩⟩
set_option maxRecDepth 20000 in
theorem gq_k_X1_workOut_k_X5_of_87 : GoodIn wq_k_X1_workOut (wsV RX1 87 RX5 yX5_of wq_k_X5_of) := goodIn_app (List.forall_mem_cons.mpr ⟨⟨(List.mem_of_getElem? (i := 60) rfl), good_of_word rfl⟩, List.forall_mem_cons.mpr ⟨⟨(List.mem_of_getElem? (i := 61) rfl), good_of_word rfl⟩, List.forall_mem_cons.mpr ⟨⟨(List.mem_of_getElem? (i := 62) rfl), good_of_word rfl⟩, List.forall_mem_cons.mpr ⟨⟨(List.mem_of_getElem? (i := 63) rfl), good_of_word rfl⟩, (fun _ h => absurd h List.not_mem_nil)⟩⟩⟩⟩) gr_k_X1_workOut_k_X5_of
set_option maxHeartbeats 8000000 in
set_option maxRecDepth 100000 in
theorem k_X1_workOut (l : Launch) (D : va_G) (cy : Nat → ClassId) (ad : Nat → Nat) (g : Nat → va_E) {x1_2 : Int32} {x1_4 : Int32} {c2 : Nat → Int32} {c3 : Nat → Int32} {c4 : Nat → Int32} {c5 : Nat → Int32} {u7_0 : Value} {u7_1 : Value} {u7_4 : Value} {u7_5 : Value} {u7_6 : Value} {x7_11 : Int32} {u7_12 : Value} {u7_13 : Value} {u7_14 : Value} {u7_15 : Value} {u7_16 : Value} {c8 : Nat → Int32} {c9 : Nat → Int32} {c10 : Nat → Int32} {c11 : Nat → Int32} {c12 : Nat → Int32} {c13 : Nat → Int32} {c14 : Nat → Int32} {c15 : Nat → Int32} {c16 : Nat → Int32} {c17 : Nat → Int32} {c18 : Nat → Int32} {c19 : Nat → Int32} {c20 : Nat → Int32} {c21 : Nat → Int32} {x23_1 : Int32} {u23_2 : Value} {x23_3 : Int32} {c24 : Nat → Int32} {c25 : Nat → Int32} {c26 : Nat → Int32} {c27 : Nat → Int32} {c28 : Nat → Int32} (o0 : g 0 = .inr (1, [.ref (ad 7), .ref (ad 1), .ref (ad 22), .ref (ad 6), .ref (ad 4), .ref (ad 5), .ref (ad 2)])) (o1 : g 1 = .inr (9, [.ref (ad 3), .ref (ad 21), .int x1_2, .ref (ad 17), .int x1_4])) (a2 : g 2 = .inl (cy 0, 24, .inl c2)) (a3 : g 3 = .inl (cy 0, 24, .inl c3)) (a4 : g 4 = .inl (cy 0, 96, .inl c4)) (a5 : g 5 = .inl (cy 0, 96, .inl c5)) (o6 : g 6 = .inr (10, [.ref (ad 7), .ref (ad 10), .ref (ad 11), .ref (ad 12), .ref (ad 13), .ref (ad 14), .ref (ad 15), .ref (ad 16)])) (o7 : g 7 = .inr (7, [u7_0, u7_1, .ref (ad 19), .ref (ad 20), u7_4, u7_5, u7_6, .ref (ad 18), .ref (ad 24), .ref (ad 8), .ref (ad 9), .int x7_11, u7_12, u7_13, u7_14, u7_15, u7_16, .ref (ad 23)])) (a8 : g 8 = .inl (cy 0, 20, .inl c8)) (a9 : g 9 = .inl (cy 0, 4, .inl c9)) (a10 : g 10 = .inl (cy 0, 5, .inl c10)) (a11 : g 11 = .inl (cy 0, 20, .inl c11)) (a12 : g 12 = .inl (cy 0, 4, .inl c12)) (a13 : g 13 = .inl (cy 0, 5, .inl c13)) (a14 : g 14 = .inl (cy 0, 5, .inl c14)) (a15 : g 15 = .inl (cy 0, 5, .inl c15)) (a16 : g 16 = .inl (cy 0, 5, .inl c16)) (a17 : g 17 = .inl (cy 0, 5, .inl c17)) (a18 : g 18 = .inl (cy 0, 4, .inl c18)) (a19 : g 19 = .inl (cy 0, 5, .inl c19)) (a20 : g 20 = .inl (cy 0, 5, .inl c20)) (a21 : g 21 = .inl (cy 0, 24, .inl c21)) (o22 : g 22 = .inr (5, [.ref (ad 7), .ref (ad 27), .ref (ad 28)])) (o23 : g 23 = .inr (4, [.ref (ad 25), .int x23_1, u23_2, .int x23_3, .ref (ad 26)])) (a24 : g 24 = .inl (cy 0, 4, .inl c24)) (a25 : g 25 = .inl (cy 0, 300, .inl c25)) (a26 : g 26 = .inl (cy 0, 30, .inl c26)) (a27 : g 27 = .inl (cy 0, 80, .inl c27)) (a28 : g 28 = .inl (cy 0, 80, .inl c28)) (b1_4 : zi 0 24 x1_4) (ha2 : za 0 23 c2) (b7_11 : zi 0 4 x7_11) (ha8 : za 0 4 c8) (ha9 : za 0 5 c9) (ha11 : za 0 4 c11) (ha12 : za 0 5 c12) (b23_1 : zi 0 300 x23_1) (b23_3 : zi 0 1 x23_3) : cMv l yX1_workOut wq_k_X1_workOut { frames := 3, cells := 0, slots := 0, locals := 81 } 29 0 0 0 D cy ad g [.ref (ad 0)] (fun nw lu => ∃ (d2 : Nat → Int32) (d4 : Nat → Int32) (d5 : Nat → Int32) (d10 : Nat → Int32) (d11 : Nat → Int32) (d12 : Nat → Int32) (d13 : Nat → Int32) (d14 : Nat → Int32) (d15 : Nat → Int32) (d16 : Nat → Int32) (d26 : Nat → Int32) (d27 : Nat → Int32) (d28 : Nat → Int32), (za 0 23 d2) ∧ (za 0 4 d11) ∧ (za 0 5 d12) ∧ (lu = [(2, .inl (cy 0, 24, .inl d2)), (4, .inl (cy 0, 96, .inl d4)), (5, .inl (cy 0, 96, .inl d5)), (10, .inl (cy 0, 5, .inl d10)), (11, .inl (cy 0, 20, .inl d11)), (12, .inl (cy 0, 4, .inl d12)), (13, .inl (cy 0, 5, .inl d13)), (14, .inl (cy 0, 5, .inl d14)), (15, .inl (cy 0, 5, .inl d15)), (16, .inl (cy 0, 5, .inl d16)), (26, .inl (cy 0, 30, .inl d26)), (27, .inl (cy 0, 80, .inl d27)), (28, .inl (cy 0, 80, .inl d28))])) := by
  refine cM_of (Qc := fun A => cQv (fun nw lu => ∃ (d2 : Nat → Int32) (d4 : Nat → Int32) (d5 : Nat → Int32) (d10 : Nat → Int32) (d11 : Nat → Int32) (d12 : Nat → Int32) (d13 : Nat → Int32) (d14 : Nat → Int32) (d15 : Nat → Int32) (d16 : Nat → Int32) (d26 : Nat → Int32) (d27 : Nat → Int32) (d28 : Nat → Int32), (za 0 23 d2) ∧ (za 0 4 d11) ∧ (za 0 5 d12) ∧ (lu = [(2, .inl (cy 0, 24, .inl d2)), (4, .inl (cy 0, 96, .inl d4)), (5, .inl (cy 0, 96, .inl d5)), (10, .inl (cy 0, 5, .inl d10)), (11, .inl (cy 0, 20, .inl d11)), (12, .inl (cy 0, 4, .inl d12)), (13, .inl (cy 0, 5, .inl d13)), (14, .inl (cy 0, 5, .inl d14)), (15, .inl (cy 0, 5, .inl d15)), (16, .inl (cy 0, 5, .inl d16)), (26, .inl (cy 0, 30, .inl d26)), (27, .inl (cy 0, 80, .inl d27)), (28, .inl (cy 0, 80, .inl d28))])) D 29 0 ad g A) (cc := cX1_workOut) (maxL := 6) (ret := none) (by decide) rfl (Nat.le_of_ble_eq_true rfl) ?_
  intro p e s m below meth c A hC hr hlk hnm hO ls hl
  have hC : CallFix p m c cX1_workOut 6 s [.ref (ad 0)].toArray wq_k_X1_workOut RX1 := hC
  obtain ⟨hx, hb, hml, hown, hts⟩ := id hC
  have hl : lv_has ls 6 [(0, .ref (ad 0))] := hl
  have i_X1 : ∀ w ∈ wsX10, w ∈ wq_k_X1_workOut := fun w h => List.mem_cons_of_mem _ (List.mem_append_left _ (List.mem_append_left _ (List.mem_append_left _ (List.mem_append_left _ (List.mem_append_left _ (List.mem_append_right _ h))))))
  have i_X10 : ∀ w ∈ wsX100, w ∈ wq_k_X1_workOut := fun w h => List.mem_cons_of_mem _ (List.mem_append_right _ h)
  have i_X4 : ∀ w ∈ wsX40, w ∈ wq_k_X1_workOut := fun w h => List.mem_cons_of_mem _ (List.mem_append_left _ (List.mem_append_left _ (List.mem_append_left _ (List.mem_append_left _ (List.mem_append_right _ h)))))
  have i_X5 : ∀ w ∈ wsX50, w ∈ wq_k_X1_workOut := fun w h => List.mem_cons_of_mem _ (List.mem_append_left _ (List.mem_append_left _ (List.mem_append_left _ (List.mem_append_right _ h))))
  have i_X7 : ∀ w ∈ wsX70, w ∈ wq_k_X1_workOut := fun w h => List.mem_cons_of_mem _ (List.mem_append_left _ (List.mem_append_left _ (List.mem_append_right _ h)))
  have i_X9 : ∀ w ∈ wsX90, w ∈ wq_k_X1_workOut := fun w h => List.mem_cons_of_mem _ (List.mem_append_left _ (List.mem_append_right _ h))
  have hO := hO.notes [(2, .inl (cy 0, 24, .inl c2)), (4, .inl (cy 0, 96, .inl c4)), (5, .inl (cy 0, 96, .inl c5)), (10, .inl (cy 0, 5, .inl c10)), (11, .inl (cy 0, 20, .inl c11)), (12, .inl (cy 0, 4, .inl c12)), (13, .inl (cy 0, 5, .inl c13)), (14, .inl (cy 0, 5, .inl c14)), (15, .inl (cy 0, 5, .inl c15)), (16, .inl (cy 0, 5, .inl c16)), (26, .inl (cy 0, 30, .inl c26)), (27, .inl (cy 0, 80, .inl c27)), (28, .inl (cy 0, 80, .inl c28))] (List.forall_mem_cons.mpr ⟨a2, List.forall_mem_cons.mpr ⟨a4, List.forall_mem_cons.mpr ⟨a5, List.forall_mem_cons.mpr ⟨a10, List.forall_mem_cons.mpr ⟨a11, List.forall_mem_cons.mpr ⟨a12, List.forall_mem_cons.mpr ⟨a13, List.forall_mem_cons.mpr ⟨a14, List.forall_mem_cons.mpr ⟨a15, List.forall_mem_cons.mpr ⟨a16, List.forall_mem_cons.mpr ⟨a26, List.forall_mem_cons.mpr ⟨a27, List.forall_mem_cons.mpr ⟨a28, (fun _ h => absurd h List.not_mem_nil)⟩⟩⟩⟩⟩⟩⟩⟩⟩⟩⟩⟩⟩)
  refine lv_aload_n hx hb ddX1_workOut_0 rfl (lv_at hl 0 rfl) ?_
  refine cg_get hC hO 0 (by decide) o0 rfl i_X1 1 (by decide) (List.mem_of_getElem? (i := 1) rfl) rfl ddX1_workOut_1 ?_
  refine lv_aload_n hx hb ddX1_workOut_4 rfl (lv_at hl 0 rfl) ?_
  refine cg_get hC hO 0 (by decide) o0 rfl i_X1 6 (by decide) (List.mem_of_getElem? (i := 2) rfl) rfl ddX1_workOut_5 ?_
  refine cg_Vi (As := [.ref (ad 2)]) (rest := []) (mc := 0) (ms := 0) (rm := { frames := 1, cells := 0, slots := 0, locals := 21 }) hC hl.1 hO [1, 2] (by decide +kernel) (k_X9_coming l D cy _ _ (u0_0 := .ref (ad 3)) (u0_1 := .ref (ad 21)) (x0_2 := x1_2) (u0_3 := .ref (ad 17)) (x0_4 := x1_4) (c1 := c2) o1 rfl b1_4 ha2) gq_k_X1_workOut_k_X9_coming_48 rfl rfl rfl 1 (by decide +kernel) ⟨Nat.le_of_ble_eq_true rfl, Nat.le_of_ble_eq_true rfl⟩ rfl (by decide) o1 rfl rfl (Nat.le_of_ble_eq_true rfl) ddX1_workOut_8 ⟨Nat.le_of_ble_eq_true rfl, Nat.le_of_ble_eq_true rfl⟩ (fun r_8_24471 nw_8_24469 l_8_24470 H locs hw hO => ?_)
  obtain ⟨d1_8_24472, z_8_24473, z_8_24474, rfl⟩ := hw
  have hO := hO.mrg (lk := [(2, .inl (cy 0, 24, .inl d1_8_24472))]) (lm := [(2, .inl (cy 0, 24, .inl d1_8_24472)), (4, .inl (cy 0, 96, .inl c4)), (5, .inl (cy 0, 96, .inl c5)), (10, .inl (cy 0, 5, .inl c10)), (11, .inl (cy 0, 20, .inl c11)), (12, .inl (cy 0, 4, .inl c12)), (13, .inl (cy 0, 5, .inl c13)), (14, .inl (cy 0, 5, .inl c14)), (15, .inl (cy 0, 5, .inl c15)), (16, .inl (cy 0, 5, .inl c16)), (26, .inl (cy 0, 30, .inl c26)), (27, .inl (cy 0, 80, .inl c27)), (28, .inl (cy 0, 80, .inl c28))]) rfl rfl rfl
  refine lv_istore_n (lv' := [(1, .int r_8_24471), (0, .ref (ad 0))]) hx hb ddX1_workOut_11 rfl hl (by decide) rfl (fun ls hl => ?_)
  refine lv_aload_n hx hb ddX1_workOut_12 rfl (lv_at hl 1 rfl) ?_
  refine cg_get hC hO 0 (by decide) o0 rfl i_X1 6 (by decide) (List.mem_of_getElem? (i := 2) rfl) rfl ddX1_workOut_13 ?_
  refine lv_iload_n hx hb ddX1_workOut_16 rfl (lv_at hl 0 rfl) ?_
  refine lv_aload_n hx hb ddX1_workOut_17 rfl (lv_at hl 1 rfl) ?_
  refine cg_get hC hO 0 (by decide) o0 rfl i_X1 1 (by decide) (List.mem_of_getElem? (i := 1) rfl) rfl ddX1_workOut_18 ?_
  refine cg_get hC hO 1 (by decide) o1 rfl i_X9 0 (by decide) (List.mem_of_getElem? (i := 13) rfl) rfl ddX1_workOut_21 ?_
  refine cg_Nv (As := [.ref (ad 2), .int r_8_24471, .ref (ad 3)]) (rest := []) (mc := 0) (ms := 0) (rm := { frames := 0, cells := 0, slots := 0, locals := 0 }) hC hl.1 hO [2, 3] (by decide +kernel) (k_X11_putByMinutes_24 l D cy _ _ (c0 := d1_8_24472) (n := r_8_24471) (c1 := c3) rfl a3 z_8_24473 z_8_24474) gq_k_X1_workOut_k_X11_putByMinutes_24 rfl rfl rfl (host := "CrowToll") (nestL_mem_8) (List.mem_of_getElem? (i := 15) rfl) (List.mem_of_getElem? (i := 12) rfl) 3 (by decide +kernel) ⟨Nat.le_of_ble_eq_true rfl, Nat.le_of_ble_eq_true rfl⟩ rfl rfl (Nat.le_of_ble_eq_true rfl) ddX1_workOut_24 ⟨Nat.le_of_ble_eq_true rfl, Nat.le_of_ble_eq_true rfl⟩ (fun nw_24_24475 l_24_24476 H locs hw hO => ?_)
  obtain ⟨d0_24_24478, z_24_24479, rfl⟩ := hw
  have hO := hO.mrg (lk := [(2, .inl (cy 0, 24, .inl d0_24_24478))]) (lm := [(2, .inl (cy 0, 24, .inl d0_24_24478)), (4, .inl (cy 0, 96, .inl c4)), (5, .inl (cy 0, 96, .inl c5)), (10, .inl (cy 0, 5, .inl c10)), (11, .inl (cy 0, 20, .inl c11)), (12, .inl (cy 0, 4, .inl c12)), (13, .inl (cy 0, 5, .inl c13)), (14, .inl (cy 0, 5, .inl c14)), (15, .inl (cy 0, 5, .inl c15)), (16, .inl (cy 0, 5, .inl c16)), (26, .inl (cy 0, 30, .inl c26)), (27, .inl (cy 0, 80, .inl c27)), (28, .inl (cy 0, 80, .inl c28))]) rfl rfl rfl
  refine lv_aload_n hx hb ddX1_workOut_27 rfl (lv_at hl 1 rfl) ?_
  refine cg_get hC hO 0 (by decide) o0 rfl i_X1 4 (by decide) (List.mem_of_getElem? (i := 16) rfl) rfl ddX1_workOut_28 ?_
  refine lv_iconst (v := (-1)) hx hb ddX1_workOut_31 (by decide) ?_
  refine cg_Sv (As := [.ref (ad 4), .int (-1)]) (rest := []) (mc := 0) (ms := 0) (rm := { frames := 0, cells := 0, slots := 0, locals := 0 }) hC hl.1 hO [4] (by decide +kernel) (k_fill_96 l D cy _ _ (c0 := c4) (x := (-1)) rfl) gq_k_X1_workOut_k_fill_96_42 rfl rfl rfl 2 (by decide +kernel) ⟨Nat.le_of_ble_eq_true rfl, Nat.le_of_ble_eq_true rfl⟩ rfl rfl (Nat.le_of_ble_eq_true rfl) ddX1_workOut_32 ⟨Nat.le_of_ble_eq_true rfl, Nat.le_of_ble_eq_true rfl⟩ (fun nw_32_24480 l_32_24481 H locs hw hO => ?_)
  obtain ⟨d0_32_24483, rfl⟩ := hw
  have hO := hO.mrg (lk := [(4, .inl (cy 0, 96, .inl d0_32_24483))]) (lm := [(2, .inl (cy 0, 24, .inl d0_24_24478)), (4, .inl (cy 0, 96, .inl d0_32_24483)), (5, .inl (cy 0, 96, .inl c5)), (10, .inl (cy 0, 5, .inl c10)), (11, .inl (cy 0, 20, .inl c11)), (12, .inl (cy 0, 4, .inl c12)), (13, .inl (cy 0, 5, .inl c13)), (14, .inl (cy 0, 5, .inl c14)), (15, .inl (cy 0, 5, .inl c15)), (16, .inl (cy 0, 5, .inl c16)), (26, .inl (cy 0, 30, .inl c26)), (27, .inl (cy 0, 80, .inl c27)), (28, .inl (cy 0, 80, .inl c28))]) rfl rfl rfl
  refine lv_aload_n hx hb ddX1_workOut_35 rfl (lv_at hl 1 rfl) ?_
  refine cg_get hC hO 0 (by decide) o0 rfl i_X1 5 (by decide) (List.mem_of_getElem? (i := 21) rfl) rfl ddX1_workOut_36 ?_
  refine lv_iconst (v := 0) hx hb ddX1_workOut_39 (by decide) ?_
  refine cg_Sv (As := [.ref (ad 5), .int 0]) (rest := []) (mc := 0) (ms := 0) (rm := { frames := 0, cells := 0, slots := 0, locals := 0 }) hC hl.1 hO [5] (by decide +kernel) (k_fill_96 l D cy _ _ (c0 := c5) (x := 0) rfl) gq_k_X1_workOut_k_fill_96_42 rfl rfl rfl 2 (by decide +kernel) ⟨Nat.le_of_ble_eq_true rfl, Nat.le_of_ble_eq_true rfl⟩ rfl rfl (Nat.le_of_ble_eq_true rfl) ddX1_workOut_40 ⟨Nat.le_of_ble_eq_true rfl, Nat.le_of_ble_eq_true rfl⟩ (fun nw_40_24484 l_40_24485 H locs hw hO => ?_)
  obtain ⟨d0_40_24487, rfl⟩ := hw
  have hO := hO.mrg (lk := [(5, .inl (cy 0, 96, .inl d0_40_24487))]) (lm := [(2, .inl (cy 0, 24, .inl d0_24_24478)), (4, .inl (cy 0, 96, .inl d0_32_24483)), (5, .inl (cy 0, 96, .inl d0_40_24487)), (10, .inl (cy 0, 5, .inl c10)), (11, .inl (cy 0, 20, .inl c11)), (12, .inl (cy 0, 4, .inl c12)), (13, .inl (cy 0, 5, .inl c13)), (14, .inl (cy 0, 5, .inl c14)), (15, .inl (cy 0, 5, .inl c15)), (16, .inl (cy 0, 5, .inl c16)), (26, .inl (cy 0, 30, .inl c26)), (27, .inl (cy 0, 80, .inl c27)), (28, .inl (cy 0, 80, .inl c28))]) rfl rfl rfl
  refine lv_aload_n hx hb ddX1_workOut_43 rfl (lv_at hl 1 rfl) ?_
  refine cg_get hC hO 0 (by decide) o0 rfl i_X1 3 (by decide) (List.mem_of_getElem? (i := 22) rfl) rfl ddX1_workOut_44 ?_
  refine lv_aload_n hx hb ddX1_workOut_47 rfl (lv_at hl 1 rfl) ?_
  refine cg_get hC hO 0 (by decide) o0 rfl i_X1 1 (by decide) (List.mem_of_getElem? (i := 1) rfl) rfl ddX1_workOut_48 ?_
  refine cg_get hC hO 1 (by decide) o1 rfl i_X9 3 (by decide) (List.mem_of_getElem? (i := 23) rfl) rfl ddX1_workOut_51 ?_
  refine cg_Vv (As := [.ref (ad 17)]) (rest := []) (mc := 0) (ms := 0) (rm := { frames := 2, cells := 0, slots := 0, locals := 60 }) hC hl.1 hO [6, 17, 10, 7, 8, 11, 9, 12, 13, 14, 15, 16] (by decide +kernel) (k_X10_sit l D cy _ _ (u3_0 := u7_0) (u3_1 := u7_1) (u3_2 := .ref (ad 19)) (u3_3 := .ref (ad 20)) (u3_4 := u7_4) (u3_5 := u7_5) (u3_6 := u7_6) (u3_7 := .ref (ad 18)) (u3_8 := .ref (ad 24)) (c4 := c8) (c6 := c9) (u3_11 := .int x7_11) (u3_12 := u7_12) (u3_13 := u7_13) (u3_14 := u7_14) (u3_15 := u7_15) (u3_16 := u7_16) (u3_17 := .ref (ad 23)) (c2 := c10) (c5 := c11) (c7 := c12) (c8 := c13) (c9 := c14) (c10 := c15) (c11 := c16) (c1 := c17) o6 a17 rfl o7 a8 rfl a9 rfl rfl rfl rfl rfl ha8 ha11 ha9 ha12) gq_k_X1_workOut_k_X10_sit_64 rfl rfl rfl 1 (by decide +kernel) ⟨Nat.le_of_ble_eq_true rfl, Nat.le_of_ble_eq_true rfl⟩ rfl (by decide) o6 rfl rfl (Nat.le_of_ble_eq_true rfl) ddX1_workOut_54 ⟨Nat.le_of_ble_eq_true rfl, Nat.le_of_ble_eq_true rfl⟩ (fun nw_54_24488 l_54_24489 H locs hw hO => ?_)
  obtain ⟨d2_54_24491, d5_54_24492, d7_54_24493, d8_54_24494, d9_54_24495, d10_54_24496, d11_54_24497, z_54_24498, z_54_24499, rfl⟩ := hw
  have hO := hO.mrg (lk := [(10, .inl (cy 0, 5, .inl d2_54_24491)), (11, .inl (cy 0, 20, .inl d5_54_24492)), (12, .inl (cy 0, 4, .inl d7_54_24493)), (13, .inl (cy 0, 5, .inl d8_54_24494)), (14, .inl (cy 0, 5, .inl d9_54_24495)), (15, .inl (cy 0, 5, .inl d10_54_24496)), (16, .inl (cy 0, 5, .inl d11_54_24497))]) (lm := [(2, .inl (cy 0, 24, .inl d0_24_24478)), (4, .inl (cy 0, 96, .inl d0_32_24483)), (5, .inl (cy 0, 96, .inl d0_40_24487)), (10, .inl (cy 0, 5, .inl d2_54_24491)), (11, .inl (cy 0, 20, .inl d5_54_24492)), (12, .inl (cy 0, 4, .inl d7_54_24493)), (13, .inl (cy 0, 5, .inl d8_54_24494)), (14, .inl (cy 0, 5, .inl d9_54_24495)), (15, .inl (cy 0, 5, .inl d10_54_24496)), (16, .inl (cy 0, 5, .inl d11_54_24497)), (26, .inl (cy 0, 30, .inl c26)), (27, .inl (cy 0, 80, .inl c27)), (28, .inl (cy 0, 80, .inl c28))]) rfl rfl rfl
  refine lv_iconst (v := 0) hx hb ddX1_workOut_57 (by decide) ?_
  refine lv_istore_n (lv' := [(2, .int 0), (1, .int r_8_24471), (0, .ref (ad 0))]) hx hb ddX1_workOut_58 rfl hl (by decide) rfl (fun ls hl => ?_)
  have loop_59_37948 : ∀ (d_59_37949 : Nat) (v_59_35696 : Int32) (c_59_35698 : Nat → Int32) (c_59_35700 : Nat → Int32) (c_59_35702 : Nat → Int32) (c_59_35704 : Nat → Int32) (c_59_35706 : Nat → Int32) (c_59_35708 : Nat → Int32) (c_59_35710 : Nat → Int32) (c_59_35712 : Nat → Int32) (c_59_35714 : Nat → Int32), zi 0 4 v_59_35696 → za (-2147483648) 2147483647 c_59_35698 → za (-2147483648) 2147483647 c_59_35700 → za (-2147483648) 2147483647 c_59_35702 → za (-2147483648) 2147483647 c_59_35704 → za (-2147483648) 2147483647 c_59_35706 → za (-2147483648) 2147483647 c_59_35708 → za (-2147483648) 2147483647 c_59_35710 → za (-2147483648) 2147483647 c_59_35712 → za (-2147483648) 2147483647 c_59_35714 → (4 + 1 - v_59_35696.toInt).toNat < d_59_37949 → ∀ (H : Heap) (locs : List Loc), cO D cy A s.heap s 29 ad (cup [(2, .inl (cy 0, 24, .inl d0_24_24478)), (4, .inl (cy 0, 96, .inl c_59_35698)), (5, .inl (cy 0, 96, .inl c_59_35700)), (10, .inl (cy 0, 5, .inl d2_54_24491)), (11, .inl (cy 0, 20, .inl d5_54_24492)), (12, .inl (cy 0, 4, .inl d7_54_24493)), (13, .inl (cy 0, 5, .inl c_59_35702)), (14, .inl (cy 0, 5, .inl c_59_35704)), (15, .inl (cy 0, 5, .inl c_59_35706)), (16, .inl (cy 0, 5, .inl c_59_35708)), (26, .inl (cy 0, 30, .inl c_59_35710)), (27, .inl (cy 0, 80, .inl c_59_35712)), (28, .inl (cy 0, 80, .inl c_59_35714))] g) H locs → ∀ ls : Array Slot, lv_has ls 6 [(2, .int v_59_35696), (1, .int r_8_24471), (0, .ref (ad 0))] → W p l e { frames := 3, cells := 0, slots := 0, locals := 81 } s m [.ref (ad 0)].toArray below meth c H locs 0 0 (MQ below (cQv (fun nw lu => ∃ (d2 : Nat → Int32) (d4 : Nat → Int32) (d5 : Nat → Int32) (d10 : Nat → Int32) (d11 : Nat → Int32) (d12 : Nat → Int32) (d13 : Nat → Int32) (d14 : Nat → Int32) (d15 : Nat → Int32) (d16 : Nat → Int32) (d26 : Nat → Int32) (d27 : Nat → Int32) (d28 : Nat → Int32), (za 0 23 d2) ∧ (za 0 4 d11) ∧ (za 0 5 d12) ∧ (lu = [(2, .inl (cy 0, 24, .inl d2)), (4, .inl (cy 0, 96, .inl d4)), (5, .inl (cy 0, 96, .inl d5)), (10, .inl (cy 0, 5, .inl d10)), (11, .inl (cy 0, 20, .inl d11)), (12, .inl (cy 0, 4, .inl d12)), (13, .inl (cy 0, 5, .inl d13)), (14, .inl (cy 0, 5, .inl d14)), (15, .inl (cy 0, 5, .inl d15)), (16, .inl (cy 0, 5, .inl d16)), (26, .inl (cy 0, 30, .inl d26)), (27, .inl (cy 0, 80, .inl d27)), (28, .inl (cy 0, 80, .inl d28))])) D 29 0 ad g A) [.ref (ad 0)].toArray s 0 0 A) (F0 m 59 ls [])  := by
    intro d_59_37949
    induction d_59_37949 with
    | zero => intro v_59_35696 c_59_35698 c_59_35700 c_59_35702 c_59_35704 c_59_35706 c_59_35708 c_59_35710 c_59_35712 c_59_35714 z_59_35697 zc_59_35699 zc_59_35701 zc_59_35703 zc_59_35705 zc_59_35707 zc_59_35709 zc_59_35711 zc_59_35713 zc_59_35715 mu_59_37950; exact absurd mu_59_37950 (Nat.not_lt_zero _)
    | succ d_59_37949 ih_59_37951 =>
      intro v_59_35696 c_59_35698 c_59_35700 c_59_35702 c_59_35704 c_59_35706 c_59_35708 c_59_35710 c_59_35712 c_59_35714 z_59_35697 zc_59_35699 zc_59_35701 zc_59_35703 zc_59_35705 zc_59_35707 zc_59_35709 zc_59_35711 zc_59_35713 zc_59_35715 mu_59_37950 H locs hO ls hl
      refine lv_iload_n hx hb ddX1_workOut_59 rfl (lv_at hl 0 rfl) ?_
      refine lv_aload_n hx hb ddX1_workOut_60 rfl (lv_at hl 2 rfl) ?_
      refine cg_get hC hO 0 (by decide) o0 rfl i_X1 0 (by decide) (List.mem_of_getElem? (i := 48) rfl) rfl ddX1_workOut_61 ?_
      refine cg_get hC hO 7 (by decide) o7 rfl i_X7 11 (by decide) (List.mem_of_getElem? (i := 49) rfl) rfl ddX1_workOut_64 ?_
      refine lv_icmp_ge (tgt := 185) hx hb ddX1_workOut_67 (by decide) (fun h_67_37952 => ?_) (fun h_67_37952 => ?_)
      · have q_67_37953 := zr_le h_67_37952
        exact cg_vret (nw := fun _ => 0) hC hr hlk hO.same (Nat.le_of_ble_eq_true rfl) (Nat.le_of_ble_eq_true rfl) (⟨d0_24_24478, c_59_35698, c_59_35700, d2_54_24491, d5_54_24492, d7_54_24493, c_59_35702, c_59_35704, c_59_35706, c_59_35708, c_59_35710, c_59_35712, c_59_35714, z_24_24479, z_54_24498, z_54_24499, rfl⟩) ddX1_workOut_185
      · have q_67_37954 := zr_nle h_67_37952
        have z_67_37955 : zi 0 3 v_59_35696 := zu_lt q_67_37954 z_59_35697 b7_11 (by decide)
        have z_67_37956 : zi 1 4 x7_11 := zd_lt q_67_37954 z_59_35697 b7_11 (by decide)
        refine lv_iconst (v := 0) hx hb ddX1_workOut_70 (by decide) ?_
        refine lv_istore_n (lv' := [(3, .int 0), (2, .int v_59_35696), (1, .int r_8_24471), (0, .ref (ad 0))]) hx hb ddX1_workOut_71 rfl hl (by decide) rfl (fun ls hl => ?_)
        have loop_72_40184 : ∀ (d_72_40185 : Nat) (v_72_39979 : Int32) (c_72_39981 : Nat → Int32) (c_72_39983 : Nat → Int32) (c_72_39985 : Nat → Int32) (c_72_39987 : Nat → Int32) (c_72_39989 : Nat → Int32) (c_72_39991 : Nat → Int32) (c_72_39993 : Nat → Int32) (c_72_39995 : Nat → Int32) (c_72_39997 : Nat → Int32), zi 0 24 v_72_39979 → za (-2147483648) 2147483647 c_72_39981 → za (-2147483648) 2147483647 c_72_39983 → za (-2147483648) 2147483647 c_72_39985 → za (-2147483648) 2147483647 c_72_39987 → za (-2147483648) 2147483647 c_72_39989 → za (-2147483648) 2147483647 c_72_39991 → za (-2147483648) 2147483647 c_72_39993 → za (-2147483648) 2147483647 c_72_39995 → za (-2147483648) 2147483647 c_72_39997 → (24 + 1 - v_72_39979.toInt).toNat < d_72_40185 → ∀ (H : Heap) (locs : List Loc), cO D cy A s.heap s 29 ad (cup [(2, .inl (cy 0, 24, .inl d0_24_24478)), (4, .inl (cy 0, 96, .inl c_72_39981)), (5, .inl (cy 0, 96, .inl c_72_39983)), (10, .inl (cy 0, 5, .inl d2_54_24491)), (11, .inl (cy 0, 20, .inl d5_54_24492)), (12, .inl (cy 0, 4, .inl d7_54_24493)), (13, .inl (cy 0, 5, .inl c_72_39985)), (14, .inl (cy 0, 5, .inl c_72_39987)), (15, .inl (cy 0, 5, .inl c_72_39989)), (16, .inl (cy 0, 5, .inl c_72_39991)), (26, .inl (cy 0, 30, .inl c_72_39993)), (27, .inl (cy 0, 80, .inl c_72_39995)), (28, .inl (cy 0, 80, .inl c_72_39997))] g) H locs → ∀ ls : Array Slot, lv_has ls 6 [(3, .int v_72_39979), (2, .int v_59_35696), (1, .int r_8_24471), (0, .ref (ad 0))] → W p l e { frames := 3, cells := 0, slots := 0, locals := 81 } s m [.ref (ad 0)].toArray below meth c H locs 0 0 (MQ below (cQv (fun nw lu => ∃ (d2 : Nat → Int32) (d4 : Nat → Int32) (d5 : Nat → Int32) (d10 : Nat → Int32) (d11 : Nat → Int32) (d12 : Nat → Int32) (d13 : Nat → Int32) (d14 : Nat → Int32) (d15 : Nat → Int32) (d16 : Nat → Int32) (d26 : Nat → Int32) (d27 : Nat → Int32) (d28 : Nat → Int32), (za 0 23 d2) ∧ (za 0 4 d11) ∧ (za 0 5 d12) ∧ (lu = [(2, .inl (cy 0, 24, .inl d2)), (4, .inl (cy 0, 96, .inl d4)), (5, .inl (cy 0, 96, .inl d5)), (10, .inl (cy 0, 5, .inl d10)), (11, .inl (cy 0, 20, .inl d11)), (12, .inl (cy 0, 4, .inl d12)), (13, .inl (cy 0, 5, .inl d13)), (14, .inl (cy 0, 5, .inl d14)), (15, .inl (cy 0, 5, .inl d15)), (16, .inl (cy 0, 5, .inl d16)), (26, .inl (cy 0, 30, .inl d26)), (27, .inl (cy 0, 80, .inl d27)), (28, .inl (cy 0, 80, .inl d28))])) D 29 0 ad g A) [.ref (ad 0)].toArray s 0 0 A) (F0 m 72 ls [])  := by
          intro d_72_40185
          induction d_72_40185 with
          | zero => intro v_72_39979 c_72_39981 c_72_39983 c_72_39985 c_72_39987 c_72_39989 c_72_39991 c_72_39993 c_72_39995 c_72_39997 z_72_39980 zc_72_39982 zc_72_39984 zc_72_39986 zc_72_39988 zc_72_39990 zc_72_39992 zc_72_39994 zc_72_39996 zc_72_39998 mu_72_40186; exact absurd mu_72_40186 (Nat.not_lt_zero _)
          | succ d_72_40185 ih_72_40187 =>
            intro v_72_39979 c_72_39981 c_72_39983 c_72_39985 c_72_39987 c_72_39989 c_72_39991 c_72_39993 c_72_39995 c_72_39997 z_72_39980 zc_72_39982 zc_72_39984 zc_72_39986 zc_72_39988 zc_72_39990 zc_72_39992 zc_72_39994 zc_72_39996 zc_72_39998 mu_72_40186 H locs hO ls hl
            refine lv_iload_n hx hb ddX1_workOut_72 rfl (lv_at hl 0 rfl) ?_
            refine lv_iload_n hx hb ddX1_workOut_73 rfl (lv_at hl 2 rfl) ?_
            refine lv_icmp_ge (tgt := 179) hx hb ddX1_workOut_74 (by decide) (fun h_74_40188 => ?_) (fun h_74_40188 => ?_)
            · have q_74_40279 := zr_le h_74_40188
              obtain ⟨v_179_40280, e_179_40281, z_179_40282, q_179_40283⟩ := zi_inc (e := 1) (f := 4) 1 z_67_37955 (by decide)
              refine lv_iinc (v := v_179_40280) (lv' := [(2, .int v_179_40280), (3, .int v_72_39979), (1, .int r_8_24471), (0, .ref (ad 0))]) hx hb ddX1_workOut_179 hl (k := 1) rfl e_179_40281 (by decide) rfl (fun ls hl => ?_)
              refine lv_goto (tgt := 59) hx hb ddX1_workOut_182 (by decide) ?_
              exact ih_59_37951 v_179_40280 c_72_39981 c_72_39983 c_72_39985 c_72_39987 c_72_39989 c_72_39991 c_72_39993 c_72_39995 c_72_39997 (zi_w (c := 0) (d := 4) z_179_40282 (by decide)) zc_72_39982 zc_72_39984 zc_72_39986 zc_72_39988 zc_72_39990 zc_72_39992 zc_72_39994 zc_72_39996 zc_72_39998 (zm_up q_179_40283 ((zi_w (c := 0) (d := 4) z_179_40282 (by decide))).2 (by decide) mu_59_37950) _ _ hO ls (lv_sub hl [0, 2, 3] rfl)
            · have q_74_40284 := zr_nle h_74_40188
              have z_74_40285 : zi 0 23 v_72_39979 := zu_lt q_74_40284 z_72_39980 z_8_24474 (by decide)
              have z_74_40286 : zi 1 24 r_8_24471 := zd_lt q_74_40284 z_72_39980 z_8_24474 (by decide)
              refine lv_aload_n hx hb ddX1_workOut_77 rfl (lv_at hl 3 rfl) ?_
              refine cg_get hC hO 0 (by decide) o0 rfl i_X1 6 (by decide) (List.mem_of_getElem? (i := 2) rfl) rfl ddX1_workOut_78 ?_
              refine lv_iload_n hx hb ddX1_workOut_81 rfl (lv_at hl 0 rfl) ?_
              refine zg_iald hC hO 2 (by decide) rfl z_24_24479 (zi_in z_74_40285 (by decide)) ddX1_workOut_82 (fun v_82_40287 z_82_40288 => ?_)
              refine lv_istore (lv' := [(4, .int v_82_40287), (3, .int v_72_39979), (2, .int v_59_35696), (1, .int r_8_24471), (0, .ref (ad 0))]) hx hb ddX1_workOut_83 hl (by decide) rfl (fun ls hl => ?_)
              refine lv_aload_n hx hb ddX1_workOut_85 rfl (lv_at hl 4 rfl) ?_
              refine cg_get hC hO 0 (by decide) o0 rfl i_X1 3 (by decide) (List.mem_of_getElem? (i := 22) rfl) rfl ddX1_workOut_86 ?_
              refine lv_iload_n hx hb ddX1_workOut_89 rfl (lv_at hl 2 rfl) ?_
              refine lv_aload_n hx hb ddX1_workOut_90 rfl (lv_at hl 4 rfl) ?_
              refine cg_get hC hO 0 (by decide) o0 rfl i_X1 1 (by decide) (List.mem_of_getElem? (i := 1) rfl) rfl ddX1_workOut_91 ?_
              refine cg_get hC hO 1 (by decide) o1 rfl i_X9 0 (by decide) (List.mem_of_getElem? (i := 13) rfl) rfl ddX1_workOut_94 ?_
              refine lv_iload hx hb ddX1_workOut_97 (lv_at hl 0 rfl) ?_
              refine zg_iald hC hO 3 (by decide) a3 (za_all _) (zi_in z_82_40288 (by decide)) ddX1_workOut_99 (fun v_99_40289 z_99_40290 => ?_)
              refine lv_aload_n hx hb ddX1_workOut_100 rfl (lv_at hl 4 rfl) ?_
              refine cg_get hC hO 0 (by decide) o0 rfl i_X1 0 (by decide) (List.mem_of_getElem? (i := 48) rfl) rfl ddX1_workOut_101 ?_
              refine cg_get hC hO 7 (by decide) o7 rfl i_X7 7 (by decide) (List.mem_of_getElem? (i := 50) rfl) rfl ddX1_workOut_104 ?_
              refine lv_iload_n hx hb ddX1_workOut_107 rfl (lv_at hl 2 rfl) ?_
              refine zg_iald hC hO 18 (by decide) a18 (za_all _) (zi_in z_67_37955 (by decide)) ddX1_workOut_108 (fun v_108_40291 z_108_40292 => ?_)
              refine lv_iadd hx hb ddX1_workOut_109 ?_
              refine lv_topi (fun v_109_40293 _ => ?_)
              refine cg_Vi (As := [.int v_59_35696, .int v_109_40293]) (rest := []) (mc := 0) (ms := 0) (rm := { frames := 0, cells := 0, slots := 0, locals := 0 }) hC hl.1 hO [6, 12, 11, 16, 15, 7, 19, 13, 10, 14, 20] (by decide +kernel) (k_X10_look l D cy _ _ (u5_0 := u7_0) (u5_1 := u7_1) (c6 := c19) (c10 := c20) (u5_4 := u7_4) (u5_5 := u7_5) (u5_6 := u7_6) (u5_7 := .ref (ad 18)) (u5_8 := .ref (ad 24)) (u5_9 := .ref (ad 8)) (u5_10 := .ref (ad 9)) (u5_11 := .int x7_11) (u5_12 := u7_12) (u5_13 := u7_13) (u5_14 := u7_14) (u5_15 := u7_15) (u5_16 := u7_16) (u5_17 := .ref (ad 23)) (c8 := d2_54_24491) (c2 := d5_54_24492) (c1 := d7_54_24493) (c7 := c_72_39985) (c9 := c_72_39987) (c4 := c_72_39989) (c3 := c_72_39991) (post := v_59_35696) (now := v_109_40293) o6 rfl rfl rfl rfl o7 a19 rfl rfl rfl a20 z_54_24499 z_54_24498 z_67_37955) gq_k_X1_workOut_k_X10_look_77 rfl rfl rfl 2 (by decide +kernel) ⟨Nat.le_of_ble_eq_true rfl, Nat.le_of_ble_eq_true rfl⟩ rfl (by decide) o6 rfl rfl (Nat.le_of_ble_eq_true rfl) ddX1_workOut_110 ⟨Nat.le_of_ble_eq_true rfl, Nat.le_of_ble_eq_true rfl⟩ (fun r_110_40296 nw_110_40294 l_110_40295 H locs hw hO => ?_)
              obtain ⟨d3_110_40297, d4_110_40298, d7_110_40299, d9_110_40300, z_110_40301, rfl⟩ := hw
              have hO := hO.mrg (lk := [(16, .inl (cy 0, 5, .inl d3_110_40297)), (15, .inl (cy 0, 5, .inl d4_110_40298)), (13, .inl (cy 0, 5, .inl d7_110_40299)), (14, .inl (cy 0, 5, .inl d9_110_40300))]) (lm := [(2, .inl (cy 0, 24, .inl d0_24_24478)), (4, .inl (cy 0, 96, .inl c_72_39981)), (5, .inl (cy 0, 96, .inl c_72_39983)), (10, .inl (cy 0, 5, .inl d2_54_24491)), (11, .inl (cy 0, 20, .inl d5_54_24492)), (12, .inl (cy 0, 4, .inl d7_54_24493)), (13, .inl (cy 0, 5, .inl d7_110_40299)), (14, .inl (cy 0, 5, .inl d9_110_40300)), (15, .inl (cy 0, 5, .inl d4_110_40298)), (16, .inl (cy 0, 5, .inl d3_110_40297)), (26, .inl (cy 0, 30, .inl c_72_39993)), (27, .inl (cy 0, 80, .inl c_72_39995)), (28, .inl (cy 0, 80, .inl c_72_39997))]) rfl rfl rfl
              refine lv_istore (lv' := [(5, .int r_110_40296), (4, .int v_82_40287), (3, .int v_72_39979), (2, .int v_59_35696), (1, .int r_8_24471), (0, .ref (ad 0))]) hx hb ddX1_workOut_113 hl (by decide) rfl (fun ls hl => ?_)
              refine lv_iload hx hb ddX1_workOut_115 (lv_at hl 0 rfl) ?_
              refine lv_iconst (v := (-1)) hx hb ddX1_workOut_117 (by decide) ?_
              have J_173_40341 : ∀ (c_173_40331 : Nat → Int32) (c_173_40333 : Nat → Int32) (c_173_40335 : Nat → Int32) (c_173_40337 : Nat → Int32) (c_173_40339 : Nat → Int32), za (-2147483648) 2147483647 c_173_40331 → za (-2147483648) 2147483647 c_173_40333 → za (-2147483648) 2147483647 c_173_40335 → za (-2147483648) 2147483647 c_173_40337 → za (-2147483648) 2147483647 c_173_40339 → ∀ (H : Heap) (locs : List Loc), cO D cy A s.heap s 29 ad (cup [(2, .inl (cy 0, 24, .inl d0_24_24478)), (4, .inl (cy 0, 96, .inl c_173_40331)), (5, .inl (cy 0, 96, .inl c_173_40333)), (10, .inl (cy 0, 5, .inl d2_54_24491)), (11, .inl (cy 0, 20, .inl d5_54_24492)), (12, .inl (cy 0, 4, .inl d7_54_24493)), (13, .inl (cy 0, 5, .inl d7_110_40299)), (14, .inl (cy 0, 5, .inl d9_110_40300)), (15, .inl (cy 0, 5, .inl d4_110_40298)), (16, .inl (cy 0, 5, .inl d3_110_40297)), (26, .inl (cy 0, 30, .inl c_173_40335)), (27, .inl (cy 0, 80, .inl c_173_40337)), (28, .inl (cy 0, 80, .inl c_173_40339))] g) H locs → ∀ ls : Array Slot, lv_has ls 6 [(5, .int r_110_40296), (4, .int v_82_40287), (3, .int v_72_39979), (2, .int v_59_35696), (1, .int r_8_24471), (0, .ref (ad 0))] → W p l e { frames := 3, cells := 0, slots := 0, locals := 81 } s m [.ref (ad 0)].toArray below meth c H locs 0 0 (MQ below (cQv (fun nw lu => ∃ (d2 : Nat → Int32) (d4 : Nat → Int32) (d5 : Nat → Int32) (d10 : Nat → Int32) (d11 : Nat → Int32) (d12 : Nat → Int32) (d13 : Nat → Int32) (d14 : Nat → Int32) (d15 : Nat → Int32) (d16 : Nat → Int32) (d26 : Nat → Int32) (d27 : Nat → Int32) (d28 : Nat → Int32), (za 0 23 d2) ∧ (za 0 4 d11) ∧ (za 0 5 d12) ∧ (lu = [(2, .inl (cy 0, 24, .inl d2)), (4, .inl (cy 0, 96, .inl d4)), (5, .inl (cy 0, 96, .inl d5)), (10, .inl (cy 0, 5, .inl d10)), (11, .inl (cy 0, 20, .inl d11)), (12, .inl (cy 0, 4, .inl d12)), (13, .inl (cy 0, 5, .inl d13)), (14, .inl (cy 0, 5, .inl d14)), (15, .inl (cy 0, 5, .inl d15)), (16, .inl (cy 0, 5, .inl d16)), (26, .inl (cy 0, 30, .inl d26)), (27, .inl (cy 0, 80, .inl d27)), (28, .inl (cy 0, 80, .inl d28))])) D 29 0 ad g A) [.ref (ad 0)].toArray s 0 0 A) (F0 m 173 ls []) := by
                intro c_173_40331 c_173_40333 c_173_40335 c_173_40337 c_173_40339 zc_173_40332 zc_173_40334 zc_173_40336 zc_173_40338 zc_173_40340 H locs hO ls hl
                obtain ⟨v_173_40342, e_173_40343, z_173_40344, q_173_40345⟩ := zi_inc (e := 1) (f := 24) 1 z_74_40285 (by decide)
                refine lv_iinc (v := v_173_40342) (lv' := [(3, .int v_173_40342), (5, .int r_110_40296), (4, .int v_82_40287), (2, .int v_59_35696), (1, .int r_8_24471), (0, .ref (ad 0))]) hx hb ddX1_workOut_173 hl (k := 2) rfl e_173_40343 (by decide) rfl (fun ls hl => ?_)
                refine lv_goto (tgt := 72) hx hb ddX1_workOut_176 (by decide) ?_
                exact ih_72_40187 v_173_40342 c_173_40331 c_173_40333 d7_110_40299 d9_110_40300 d4_110_40298 d3_110_40297 c_173_40335 c_173_40337 c_173_40339 (zi_w (c := 0) (d := 24) z_173_40344 (by decide)) zc_173_40332 zc_173_40334 (za_all _) (za_all _) (za_all _) (za_all _) zc_173_40336 zc_173_40338 zc_173_40340 (zm_up q_173_40345 ((zi_w (c := 0) (d := 24) z_173_40344 (by decide))).2 (by decide) mu_72_40186) _ _ hO ls (lv_sub hl [0, 3, 4, 5] rfl)
              refine lv_icmp_eq (tgt := 173) hx hb ddX1_workOut_118 (by decide) (fun h_118_40302 => ?_) (fun h_118_40302 => ?_)
              · have q_118_40346 := zr_eq h_118_40302
                have z_118_40347 : zi (-1) (-1) r_110_40296 := ze_eq q_118_40346 z_110_40301 (zi_k (a := (-1)) (b := (-1)) (x := (-1)) rfl)
                exact J_173_40341 c_72_39981 c_72_39983 c_72_39993 c_72_39995 c_72_39997 zc_72_39982 zc_72_39984 zc_72_39994 zc_72_39996 zc_72_39998 _ _ hO ls (lv_sub hl [0, 1, 2, 3, 4, 5] rfl)
              · have q_118_40348 := zr_ne h_118_40302
                have z_118_40349 : zi 0 4 r_110_40296 := zn_lo q_118_40348 z_110_40301 (zi_k (a := (-1)) (b := (-1)) (x := (-1)) rfl) (by decide)
                refine lv_aload_n hx hb ddX1_workOut_121 rfl (lv_at hl 5 rfl) ?_
                refine cg_get hC hO 0 (by decide) o0 rfl i_X1 4 (by decide) (List.mem_of_getElem? (i := 16) rfl) rfl ddX1_workOut_122 ?_
                refine lv_iload hx hb ddX1_workOut_125 (lv_at hl 1 rfl) ?_
                refine lv_iconst (v := 4) hx hb ddX1_workOut_127 (by decide) ?_
                refine lv_imul hx hb ddX1_workOut_128 ?_
                refine zg_top (P := fun v => zi 0 92 v) ((zi_mul z_82_40288 (zi_k (a := 4) (b := 4) (x := 4) rfl) (by decide)).1) (fun v_128_40350 z_128_40351 => ?_)
                refine lv_iload_n hx hb ddX1_workOut_129 rfl (lv_at hl 3 rfl) ?_
                refine lv_iadd hx hb ddX1_workOut_130 ?_
                refine zg_top2 (P := fun v => zi 0 95 v) (E := fun v => v.toInt = (v_128_40350 : Int32).toInt + (v_59_35696 : Int32).toInt) (zi_add z_128_40351 z_67_37955 (by decide)) (fun v_130_40352 z_130_40353 q_130_40354 => ?_)
                refine lv_iload hx hb ddX1_workOut_131 (lv_at hl 0 rfl) ?_
                refine zg_iast hC hO 4 (by decide) rfl zc_72_39982 (zi_w (c := (-2147483648)) (d := 2147483647) z_118_40349 (by decide)) (zi_in z_130_40353 (by decide)) ddX1_workOut_133 (fun H locs c_133_40355 zc_133_40356 hO => ?_)
                have hO : cO D cy A s.heap s 29 ad (cup [(2, .inl (cy 0, 24, .inl d0_24_24478)), (4, .inl (cy 0, 96, .inl c_133_40355)), (5, .inl (cy 0, 96, .inl c_72_39983)), (10, .inl (cy 0, 5, .inl d2_54_24491)), (11, .inl (cy 0, 20, .inl d5_54_24492)), (12, .inl (cy 0, 4, .inl d7_54_24493)), (13, .inl (cy 0, 5, .inl d7_110_40299)), (14, .inl (cy 0, 5, .inl d9_110_40300)), (15, .inl (cy 0, 5, .inl d4_110_40298)), (16, .inl (cy 0, 5, .inl d3_110_40297)), (26, .inl (cy 0, 30, .inl c_72_39993)), (27, .inl (cy 0, 80, .inl c_72_39995)), (28, .inl (cy 0, 80, .inl c_72_39997))] g) _ _ := hO
                refine lv_aload_n hx hb ddX1_workOut_134 rfl (lv_at hl 5 rfl) ?_
                refine cg_get hC hO 0 (by decide) o0 rfl i_X1 5 (by decide) (List.mem_of_getElem? (i := 21) rfl) rfl ddX1_workOut_135 ?_
                refine lv_iload hx hb ddX1_workOut_138 (lv_at hl 1 rfl) ?_
                refine lv_iconst (v := 4) hx hb ddX1_workOut_140 (by decide) ?_
                refine lv_imul hx hb ddX1_workOut_141 ?_
                refine zg_top (P := fun v => zi 0 92 v) ((zi_mul z_82_40288 (zi_k (a := 4) (b := 4) (x := 4) rfl) (by decide)).1) (fun v_141_40357 z_141_40358 => ?_)
                refine lv_iload_n hx hb ddX1_workOut_142 rfl (lv_at hl 3 rfl) ?_
                refine lv_iadd hx hb ddX1_workOut_143 ?_
                refine zg_top2 (P := fun v => zi 0 95 v) (E := fun v => v.toInt = (v_141_40357 : Int32).toInt + (v_59_35696 : Int32).toInt) (zi_add z_141_40358 z_67_37955 (by decide)) (fun v_143_40359 z_143_40360 q_143_40361 => ?_)
                refine lv_aload_n hx hb ddX1_workOut_144 rfl (lv_at hl 5 rfl) ?_
                refine cg_get hC hO 0 (by decide) o0 rfl i_X1 2 (by decide) (List.mem_of_getElem? (i := 57) rfl) rfl ddX1_workOut_145 ?_
                refine lv_iload_n hx hb ddX1_workOut_148 rfl (lv_at hl 3 rfl) ?_
                refine lv_aload_n hx hb ddX1_workOut_149 rfl (lv_at hl 5 rfl) ?_
                refine cg_get hC hO 0 (by decide) o0 rfl i_X1 1 (by decide) (List.mem_of_getElem? (i := 1) rfl) rfl ddX1_workOut_150 ?_
                refine cg_get hC hO 1 (by decide) o1 rfl i_X9 1 (by decide) (List.mem_of_getElem? (i := 58) rfl) rfl ddX1_workOut_153 ?_
                refine lv_iload hx hb ddX1_workOut_156 (lv_at hl 1 rfl) ?_
                refine zg_iald hC hO 21 (by decide) a21 (za_all _) (zi_in z_82_40288 (by decide)) ddX1_workOut_158 (fun v_158_40362 z_158_40363 => ?_)
                refine lv_aload_n hx hb ddX1_workOut_159 rfl (lv_at hl 5 rfl) ?_
                refine cg_get hC hO 0 (by decide) o0 rfl i_X1 3 (by decide) (List.mem_of_getElem? (i := 22) rfl) rfl ddX1_workOut_160 ?_
                refine cg_get hC hO 6 (by decide) o6 rfl i_X10 4 (by decide) (List.mem_of_getElem? (i := 59) rfl) rfl ddX1_workOut_163 ?_
                refine lv_iload hx hb ddX1_workOut_166 (lv_at hl 0 rfl) ?_
                refine zg_iald hC hO 13 (by decide) rfl (za_all _) (zi_in z_118_40349 (by decide)) ddX1_workOut_168 (fun v_168_40364 z_168_40365 => ?_)
                refine cg_Vi (As := [.int v_59_35696, .int v_158_40362, .int v_168_40364]) (rest := [.int v_143_40359, .ref (ad 5)]) (mc := 0) (ms := 0) (rm := { frames := 2, cells := 0, slots := 0, locals := 48 }) hC hl.1 hO [22, 28, 27, 7, 24, 23, 25, 26] (by decide +kernel) (k_X5_of l D cy _ _ (u3_0 := u7_0) (u3_1 := u7_1) (u3_2 := .ref (ad 19)) (u3_3 := .ref (ad 20)) (u3_4 := u7_4) (u3_5 := u7_5) (u3_6 := u7_6) (u3_7 := .ref (ad 18)) (c4 := c24) (u3_9 := .ref (ad 8)) (u3_10 := .ref (ad 9)) (u3_11 := .int x7_11) (u3_12 := u7_12) (u3_13 := u7_13) (u3_14 := u7_14) (u3_15 := u7_15) (u3_16 := u7_16) (c6 := c25) (x5_1 := x23_1) (u5_2 := u23_2) (x5_3 := x23_3) (c7 := c_72_39993) (c2 := c_72_39995) (c1 := c_72_39997) (post := v_59_35696) (sacks := v_158_40362) (nth := v_168_40364) o22 rfl rfl o7 a24 o23 a25 rfl b23_1 b23_3 z_67_37955) gq_k_X1_workOut_k_X5_of_87 rfl rfl rfl 3 (by decide +kernel) ⟨Nat.le_of_ble_eq_true rfl, Nat.le_of_ble_eq_true rfl⟩ rfl (by decide) o22 rfl rfl (Nat.le_of_ble_eq_true rfl) ddX1_workOut_169 ⟨Nat.le_of_ble_eq_true rfl, Nat.le_of_ble_eq_true rfl⟩ (fun r_169_40368 nw_169_40366 l_169_40367 H locs hw hO => ?_)
                obtain ⟨d1_169_40369, d2_169_40370, d7_169_40371, rfl⟩ := hw
                have hO := hO.mrg (lk := [(28, .inl (cy 0, 80, .inl d1_169_40369)), (27, .inl (cy 0, 80, .inl d2_169_40370)), (26, .inl (cy 0, 30, .inl d7_169_40371))]) (lm := [(2, .inl (cy 0, 24, .inl d0_24_24478)), (4, .inl (cy 0, 96, .inl c_133_40355)), (5, .inl (cy 0, 96, .inl c_72_39983)), (10, .inl (cy 0, 5, .inl d2_54_24491)), (11, .inl (cy 0, 20, .inl d5_54_24492)), (12, .inl (cy 0, 4, .inl d7_54_24493)), (13, .inl (cy 0, 5, .inl d7_110_40299)), (14, .inl (cy 0, 5, .inl d9_110_40300)), (15, .inl (cy 0, 5, .inl d4_110_40298)), (16, .inl (cy 0, 5, .inl d3_110_40297)), (26, .inl (cy 0, 30, .inl d7_169_40371)), (27, .inl (cy 0, 80, .inl d2_169_40370)), (28, .inl (cy 0, 80, .inl d1_169_40369))]) rfl rfl rfl
                refine zg_iast hC hO 5 (by decide) rfl zc_72_39984 (zi_all r_169_40368) (zi_in z_143_40360 (by decide)) ddX1_workOut_172 (fun H locs c_172_40372 zc_172_40373 hO => ?_)
                have hO : cO D cy A s.heap s 29 ad (cup [(2, .inl (cy 0, 24, .inl d0_24_24478)), (4, .inl (cy 0, 96, .inl c_133_40355)), (5, .inl (cy 0, 96, .inl c_172_40372)), (10, .inl (cy 0, 5, .inl d2_54_24491)), (11, .inl (cy 0, 20, .inl d5_54_24492)), (12, .inl (cy 0, 4, .inl d7_54_24493)), (13, .inl (cy 0, 5, .inl d7_110_40299)), (14, .inl (cy 0, 5, .inl d9_110_40300)), (15, .inl (cy 0, 5, .inl d4_110_40298)), (16, .inl (cy 0, 5, .inl d3_110_40297)), (26, .inl (cy 0, 30, .inl d7_169_40371)), (27, .inl (cy 0, 80, .inl d2_169_40370)), (28, .inl (cy 0, 80, .inl d1_169_40369))] g) _ _ := hO
                exact J_173_40341 c_133_40355 c_172_40372 d7_169_40371 d2_169_40370 d1_169_40369 zc_133_40356 zc_172_40373 (za_all _) (za_all _) (za_all _) _ _ hO ls (lv_sub hl [0, 1, 2, 3, 4, 5] rfl)
        exact loop_72_40184 ((24 + 1 - (0 : Int32).toInt).toNat + 1) 0 c_59_35698 c_59_35700 c_59_35702 c_59_35704 c_59_35706 c_59_35708 c_59_35710 c_59_35712 c_59_35714 (zi_k (a := 0) (b := 24) (x := 0) rfl) zc_59_35699 zc_59_35701 zc_59_35703 zc_59_35705 zc_59_35707 zc_59_35709 zc_59_35711 zc_59_35713 zc_59_35715 (Nat.lt_succ_self _) _ _ hO ls (lv_sub hl [0, 1, 2, 3] rfl)
  exact loop_59_37948 ((4 + 1 - (0 : Int32).toInt).toNat + 1) 0 d0_32_24483 d0_40_24487 d8_54_24494 d9_54_24495 d10_54_24496 d11_54_24497 c26 c27 c28 (zi_k (a := 0) (b := 4) (x := 0) rfl) (za_all _) (za_all _) (za_all _) (za_all _) (za_all _) (za_all _) (za_all _) (za_all _) (za_all _) (Nat.lt_succ_self _) _ _ hO ls (lv_sub hl [0, 1, 2] rfl)

