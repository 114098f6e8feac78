theorem ddX9_takeLast_0 : decode cX9_takeLast 0 = .ok (.aload_n 0, 1) := by decide +kernel
theorem ddX9_takeLast_1 : decode cX9_takeLast 1 = .ok (.getfield 21, 3) := by decide +kernel
theorem ddX9_takeLast_4 : decode cX9_takeLast 4 = .ok (.ifCond .le 13, 3) := by decide +kernel
theorem ddX9_takeLast_7 : decode cX9_takeLast 7 = .ok (.aload_n 0, 1) := by decide +kernel
theorem ddX9_takeLast_8 : decode cX9_takeLast 8 = .ok (.dup, 1) := by decide +kernel
theorem ddX9_takeLast_9 : decode cX9_takeLast 9 = .ok (.getfield 21, 3) := by decide +kernel
theorem ddX9_takeLast_12 : decode cX9_takeLast 12 = .ok (.iconst 1, 1) := by decide +kernel
theorem ddX9_takeLast_13 : decode cX9_takeLast 13 = .ok (.isub, 1) := by decide +kernel
theorem ddX9_takeLast_14 : decode cX9_takeLast 14 = .ok (.putfield 21, 3) := by decide +kernel
theorem ddX9_takeLast_17 : decode cX9_takeLast 17 = .ok (.return_, 1) := by decide +kernel
def wq_k_X9_takeLast : List Cond := Cond.code yX9_takeLast cX9_takeLast 1 none :: (([Cond.fieldLink RX9 21 "CrowToll$Stand" "carts" "I"] : List Cond) ++ wsX90)
set_option maxHeartbeats 8000000 in
set_option maxRecDepth 100000 in
theorem k_X9_takeLast (l : Launch) (D : va_G) (cy : Nat → ClassId) (ad : Nat → Nat) (g : Nat → va_E) {u0_0 : Value} {u0_1 : Value} {u0_2 : Value} {u0_3 : Value} {x0_4 : Int32} (o0 : g 0 = .inr (9, [u0_0, u0_1, u0_2, u0_3, .int x0_4])) (b0_4 : zi 0 24 x0_4) : cMv l yX9_takeLast wq_k_X9_takeLast { frames := 0, cells := 0, slots := 0, locals := 0 } 1 0 0 0 D cy ad g [.ref (ad 0)] (fun nw lu => ∃ (y0_4 : Int32), (zi 0 23 y0_4) ∧ (lu = [(0, .inr (9, [u0_0, u0_1, u0_2, u0_3, .int y0_4]))])) := by
  refine cM_of (Qc := fun A => cQv (fun nw lu => ∃ (y0_4 : Int32), (zi 0 23 y0_4) ∧ (lu = [(0, .inr (9, [u0_0, u0_1, u0_2, u0_3, .int y0_4]))])) D 1 0 ad g A) (cc := cX9_takeLast) (maxL := 1) (ret := none) (by decide) rfl (Nat.le_of_ble_eq_true rfl) ?_
  intro p e s m below meth c A hC hr hlk hnm hO ls hl
  have hC : CallFix p m c cX9_takeLast 1 s [.ref (ad 0)].toArray wq_k_X9_takeLast RX9 := hC
  obtain ⟨hx, hb, hml, hown, hts⟩ := id hC
  have hl : lv_has ls 1 [(0, .ref (ad 0))] := hl
  have i_X9 : ∀ w ∈ wsX90, w ∈ wq_k_X9_takeLast := fun w h => List.mem_cons_of_mem _ (List.mem_append_right _ h)
  have hO := hO.notes [(0, .inr (9, [u0_0, u0_1, u0_2, u0_3, .int x0_4]))] (List.forall_mem_cons.mpr ⟨o0, (fun _ h => absurd h List.not_mem_nil)⟩)
  refine lv_aload_n hx hb ddX9_takeLast_0 rfl (lv_at hl 0 rfl) ?_
  refine cg_get hC hO 0 (by decide) rfl rfl i_X9 4 (by decide) (List.mem_of_getElem? (i := 1) rfl) rfl ddX9_takeLast_1 ?_
  refine lv_if_le (tgt := 17) hx hb ddX9_takeLast_4 (by decide) (fun h_4_17 => ?_) (fun h_4_17 => ?_)
  · have q_4_18 := zr_le h_4_17
    have z_4_19 : zi 0 0 x0_4 := zu_le q_4_18 b0_4 (zi_k (a := 0) (b := 0) (x := 0) rfl) (by decide)
    exact cg_vret (nw := fun _ => 0) hC hr hlk hO.same (Nat.le_of_ble_eq_true rfl) (Nat.le_of_ble_eq_true rfl) (⟨x0_4, (zi_w (c := 0) (d := 23) z_4_19 (by decide)), rfl⟩) ddX9_takeLast_17
  · have q_4_20 := zr_nle h_4_17
    have z_4_21 : zi 1 24 x0_4 := zd_lt q_4_20 (zi_k (a := 0) (b := 0) (x := 0) rfl) b0_4 (by decide)
    refine lv_aload_n hx hb ddX9_takeLast_7 rfl (lv_at hl 0 rfl) ?_
    refine lv_dup hx hb ddX9_takeLast_8 rfl ?_
    refine cg_get hC hO 0 (by decide) rfl rfl i_X9 4 (by decide) (List.mem_of_getElem? (i := 1) rfl) rfl ddX9_takeLast_9 ?_
    refine lv_iconst (v := 1) hx hb ddX9_takeLast_12 (by decide) ?_
    refine lv_isub hx hb ddX9_takeLast_13 ?_
    refine zg_top2 (P := fun v => zi 0 23 v) (E := fun v => v.toInt = x0_4.toInt + -1) (zi_subk z_4_21 (n := 1) (by decide) (by decide)) (fun v_13_22 z_13_23 q_13_24 => ?_)
    refine cg_put hC hO 0 (by decide) rfl rfl i_X9 tyX9_ok nmX9 4 (by decide) (List.mem_of_getElem? (i := 1) rfl) rfl rfl rfl (Nat.le_of_ble_eq_true rfl) ddX9_takeLast_14 (fun H locs hO => ?_)
    have hO : cO D cy A s.heap s 1 ad (cup [(0, .inr (9, [u0_0, u0_1, u0_2, u0_3, .int v_13_22]))] g) _ _ := hO
    exact cg_vret (nw := fun _ => 0) hC hr hlk hO.same (Nat.le_of_ble_eq_true rfl) (Nat.le_of_ble_eq_true rfl) (⟨v_13_22, z_13_23, rfl⟩) ddX9_takeLast_17

theorem ddX9_becomes_0 : decode cX9_becomes 0 = .ok (.aload_n 1, 1) := by decide +kernel
theorem ddX9_becomes_1 : decode cX9_becomes 1 = .ok (.getfield 9, 3) := by decide +kernel
theorem ddX9_becomes_4 : decode cX9_becomes 4 = .ok (.iconst 0, 1) := by decide +kernel
theorem ddX9_becomes_5 : decode cX9_becomes 5 = .ok (.aload_n 0, 1) := by decide +kernel
theorem ddX9_becomes_6 : decode cX9_becomes 6 = .ok (.getfield 9, 3) := by decide +kernel
theorem ddX9_becomes_9 : decode cX9_becomes 9 = .ok (.iconst 0, 1) := by decide +kernel
theorem ddX9_becomes_10 : decode cX9_becomes 10 = .ok (.bipush 24, 2) := by decide +kernel
theorem ddX9_becomes_12 : decode cX9_becomes 12 = .ok (.invokestatic 41, 3) := by decide +kernel
theorem ddX9_becomes_15 : decode cX9_becomes 15 = .ok (.aload_n 1, 1) := by decide +kernel
theorem ddX9_becomes_16 : decode cX9_becomes 16 = .ok (.getfield 15, 3) := by decide +kernel
theorem ddX9_becomes_19 : decode cX9_becomes 19 = .ok (.iconst 0, 1) := by decide +kernel
theorem ddX9_becomes_20 : decode cX9_becomes 20 = .ok (.aload_n 0, 1) := by decide +kernel
theorem ddX9_becomes_21 : decode cX9_becomes 21 = .ok (.getfield 15, 3) := by decide +kernel
theorem ddX9_becomes_24 : decode cX9_becomes 24 = .ok (.iconst 0, 1) := by decide +kernel
theorem ddX9_becomes_25 : decode cX9_becomes 25 = .ok (.bipush 24, 2) := by decide +kernel
theorem ddX9_becomes_27 : decode cX9_becomes 27 = .ok (.invokestatic 41, 3) := by decide +kernel
theorem ddX9_becomes_30 : decode cX9_becomes 30 = .ok (.aload_n 0, 1) := by decide +kernel
theorem ddX9_becomes_31 : decode cX9_becomes 31 = .ok (.aload_n 1, 1) := by decide +kernel
theorem ddX9_becomes_32 : decode cX9_becomes 32 = .ok (.getfield 37, 3) := by decide +kernel
theorem ddX9_becomes_35 : decode cX9_becomes 35 = .ok (.putfield 37, 3) := by decide +kernel
theorem ddX9_becomes_38 : decode cX9_becomes 38 = .ok (.aload_n 1, 1) := by decide +kernel
theorem ddX9_becomes_39 : decode cX9_becomes 39 = .ok (.getfield 18, 3) := by decide +kernel
theorem ddX9_becomes_42 : decode cX9_becomes 42 = .ok (.iconst 0, 1) := by decide +kernel
theorem ddX9_becomes_43 : decode cX9_becomes 43 = .ok (.aload_n 0, 1) := by decide +kernel
theorem ddX9_becomes_44 : decode cX9_becomes 44 = .ok (.getfield 18, 3) := by decide +kernel
theorem ddX9_becomes_47 : decode cX9_becomes 47 = .ok (.iconst 0, 1) := by decide +kernel
theorem ddX9_becomes_48 : decode cX9_becomes 48 = .ok (.iconst 5, 1) := by decide +kernel
theorem ddX9_becomes_49 : decode cX9_becomes 49 = .ok (.invokestatic 41, 3) := by decide +kernel
theorem ddX9_becomes_52 : decode cX9_becomes 52 = .ok (.aload_n 0, 1) := by decide +kernel
theorem ddX9_becomes_53 : decode cX9_becomes 53 = .ok (.aload_n 1, 1) := by decide +kernel
theorem ddX9_becomes_54 : decode cX9_becomes 54 = .ok (.getfield 21, 3) := by decide +kernel
theorem ddX9_becomes_57 : decode cX9_becomes 57 = .ok (.putfield 21, 3) := by decide +kernel
theorem ddX9_becomes_60 : decode cX9_becomes 60 = .ok (.return_, 1) := by decide +kernel
def wq_k_X9_becomes : List Cond := Cond.code yX9_becomes cX9_becomes 2 none :: (([Cond.fieldLink RX9 9 "CrowToll$Stand" "minute" "[I", Cond.methodLink RX9 41 arraycopyName, Cond.native arraycopyName, Cond.static arraycopyName, Cond.initialized "java/lang/System", Cond.fieldLink RX9 15 "CrowToll$Stand" "sacks" "[I", Cond.fieldLink RX9 37 "CrowToll$Stand" "comes" "I", Cond.fieldLink RX9 18 "CrowToll$Stand" "counts" "[I", Cond.fieldLink RX9 21 "CrowToll$Stand" "carts" "I"] : List Cond) ++ wsX90)
set_option maxHeartbeats 8000000 in
set_option maxRecDepth 100000 in
theorem k_X9_becomes (l : Launch) (D : va_G) (cy : Nat → ClassId) (ad : Nat → Nat) (g : Nat → va_E) {x0_2 : Int32} {x0_4 : Int32} {x1_2 : Int32} {x1_4 : Int32} {c2 : Nat → Int32} {c3 : Nat → Int32} {c4 : Nat → Int32} {c5 : Nat → Int32} {c6 : Nat → Int32} {c7 : Nat → Int32} (o0 : g 0 = .inr (9, [.ref (ad 3), .ref (ad 5), .int x0_2, .ref (ad 7), .int x0_4])) (o1 : g 1 = .inr (9, [.ref (ad 2), .ref (ad 4), .int x1_2, .ref (ad 6), .int x1_4])) (a2 : g 2 = .inl (cy 0, 24, .inl c2)) (a3 : g 3 = .inl (cy 0, 24, .inl c3)) (a4 : g 4 = .inl (cy 0, 24, .inl c4)) (a5 : g 5 = .inl (cy 0, 24, .inl c5)) (a6 : g 6 = .inl (cy 0, 5, .inl c6)) (a7 : g 7 = .inl (cy 0, 5, .inl c7)) (b0_4 : zi (-1) 24 x0_4) (b1_4 : zi (-1) 24 x1_4) : cMv l yX9_becomes wq_k_X9_becomes { frames := 1, cells := 0, slots := 0, locals := 60 } 8 0 0 0 D cy ad g [.ref (ad 0), .ref (ad 1)] (fun nw lu => ∃ (d3 : Nat → Int32) (d5 : Nat → Int32) (d7 : Nat → Int32), lu = [(0, .inr (9, [.ref (ad 3), .ref (ad 5), .int x1_2, .ref (ad 7), .int x1_4])), (3, .inl (cy 0, 24, .inl d3)), (5, .inl (cy 0, 24, .inl d5)), (7, .inl (cy 0, 5, .inl d7))]) := by
  refine cM_of (Qc := fun A => cQv (fun nw lu => ∃ (d3 : Nat → Int32) (d5 : Nat → Int32) (d7 : Nat → Int32), lu = [(0, .inr (9, [.ref (ad 3), .ref (ad 5), .int x1_2, .ref (ad 7), .int x1_4])), (3, .inl (cy 0, 24, .inl d3)), (5, .inl (cy 0, 24, .inl d5)), (7, .inl (cy 0, 5, .inl d7))]) D 8 0 ad g A) (cc := cX9_becomes) (maxL := 2) (ret := none) (by decide) rfl (Nat.le_of_ble_eq_true rfl) ?_
  intro p e s m below meth c A hC hr hlk hnm hO ls hl
  have hC : CallFix p m c cX9_becomes 2 s [.ref (ad 0), .ref (ad 1)].toArray wq_k_X9_becomes RX9 := hC
  obtain ⟨hx, hb, hml, hown, hts⟩ := id hC
  have hl : lv_has ls 2 [(0, .ref (ad 0)), (1, .ref (ad 1))] := hl
  have i_X9 : ∀ w ∈ wsX90, w ∈ wq_k_X9_becomes := fun w h => List.mem_cons_of_mem _ (List.mem_append_right _ h)
  have hO := hO.notes [(0, .inr (9, [.ref (ad 3), .ref (ad 5), .int x0_2, .ref (ad 7), .int x0_4])), (3, .inl (cy 0, 24, .inl c3)), (5, .inl (cy 0, 24, .inl c5)), (7, .inl (cy 0, 5, .inl c7))] (List.forall_mem_cons.mpr ⟨o0, List.forall_mem_cons.mpr ⟨a3, List.forall_mem_cons.mpr ⟨a5, List.forall_mem_cons.mpr ⟨a7, (fun _ h => absurd h List.not_mem_nil)⟩⟩⟩⟩)
  refine lv_aload_n hx hb ddX9_becomes_0 rfl (lv_at hl 1 rfl) ?_
  refine cg_get hC hO 1 (by decide) o1 rfl i_X9 0 (by decide) (List.mem_of_getElem? (i := 1) rfl) rfl ddX9_becomes_1 ?_
  refine lv_iconst (v := 0) hx hb ddX9_becomes_4 (by decide) ?_
  refine lv_aload_n hx hb ddX9_becomes_5 rfl (lv_at hl 0 rfl) ?_
  refine cg_get hC hO 0 (by decide) rfl rfl i_X9 0 (by decide) (List.mem_of_getElem? (i := 1) rfl) rfl ddX9_becomes_6 ?_
  refine lv_iconst (v := 0) hx hb ddX9_becomes_9 (by decide) ?_
  refine lv_bipush (v := 24) hx hb ddX9_becomes_10 (by decide) ?_
  refine zg_copy (a := (-2147483648)) (b := 2147483647) hC hl.1 hO (List.mem_of_getElem? (i := 2) rfl) (List.mem_of_getElem? (i := 3) rfl) (List.mem_of_getElem? (i := 4) rfl) (List.mem_of_getElem? (i := 5) rfl) 2 3 (by decide) (by decide) a2 rfl (za_all _) (za_all _) (zi_k (a := 0) (b := 0) (x := 0) rfl) (zi_k (a := 0) (b := 0) (x := 0) rfl) (zi_k (a := 24) (b := 24) (x := 24) rfl) (by decide) (Nat.le_of_ble_eq_true rfl) (Nat.le_of_ble_eq_true rfl) ddX9_becomes_12 (fun H locs c_12_13 zc_12_14 hO => ?_)
  have hO : cO D cy A s.heap s 8 ad (cup [(0, .inr (9, [.ref (ad 3), .ref (ad 5), .int x0_2, .ref (ad 7), .int x0_4])), (3, .inl (cy 0, 24, .inl c_12_13)), (5, .inl (cy 0, 24, .inl c5)), (7, .inl (cy 0, 5, .inl c7))] g) _ _ := hO
  refine lv_aload_n hx hb ddX9_becomes_15 rfl (lv_at hl 1 rfl) ?_
  refine cg_get hC hO 1 (by decide) o1 rfl i_X9 1 (by decide) (List.mem_of_getElem? (i := 6) rfl) rfl ddX9_becomes_16 ?_
  refine lv_iconst (v := 0) hx hb ddX9_becomes_19 (by decide) ?_
  refine lv_aload_n hx hb ddX9_becomes_20 rfl (lv_at hl 0 rfl) ?_
  refine cg_get hC hO 0 (by decide) rfl rfl i_X9 1 (by decide) (List.mem_of_getElem? (i := 6) rfl) rfl ddX9_becomes_21 ?_
  refine lv_iconst (v := 0) hx hb ddX9_becomes_24 (by decide) ?_
  refine lv_bipush (v := 24) hx hb ddX9_becomes_25 (by decide) ?_
  refine zg_copy (a := (-2147483648)) (b := 2147483647) hC hl.1 hO (List.mem_of_getElem? (i := 2) rfl) (List.mem_of_getElem? (i := 3) rfl) (List.mem_of_getElem? (i := 4) rfl) (List.mem_of_getElem? (i := 5) rfl) 4 5 (by decide) (by decide) a4 rfl (za_all _) (za_all _) (zi_k (a := 0) (b := 0) (x := 0) rfl) (zi_k (a := 0) (b := 0) (x := 0) rfl) (zi_k (a := 24) (b := 24) (x := 24) rfl) (by decide) (Nat.le_of_ble_eq_true rfl) (Nat.le_of_ble_eq_true rfl) ddX9_becomes_27 (fun H locs c_27_15 zc_27_16 hO => ?_)
  have hO : cO D cy A s.heap s 8 ad (cup [(0, .inr (9, [.ref (ad 3), .ref (ad 5), .int x0_2, .ref (ad 7), .int x0_4])), (3, .inl (cy 0, 24, .inl c_12_13)), (5, .inl (cy 0, 24, .inl c_27_15)), (7, .inl (cy 0, 5, .inl c7))] g) _ _ := hO
  refine lv_aload_n hx hb ddX9_becomes_30 rfl (lv_at hl 0 rfl) ?_
  refine lv_aload_n hx hb ddX9_becomes_31 rfl (lv_at hl 1 rfl) ?_
  refine cg_get hC hO 1 (by decide) o1 rfl i_X9 2 (by decide) (List.mem_of_getElem? (i := 7) rfl) rfl ddX9_becomes_32 ?_
  refine cg_put hC hO 0 (by decide) rfl rfl i_X9 tyX9_ok nmX9 2 (by decide) (List.mem_of_getElem? (i := 7) rfl) rfl rfl rfl (Nat.le_of_ble_eq_true rfl) ddX9_becomes_35 (fun H locs hO => ?_)
  have hO : cO D cy A s.heap s 8 ad (cup [(0, .inr (9, [.ref (ad 3), .ref (ad 5), .int x1_2, .ref (ad 7), .int x0_4])), (3, .inl (cy 0, 24, .inl c_12_13)), (5, .inl (cy 0, 24, .inl c_27_15)), (7, .inl (cy 0, 5, .inl c7))] g) _ _ := hO
  refine lv_aload_n hx hb ddX9_becomes_38 rfl (lv_at hl 1 rfl) ?_
  refine cg_get hC hO 1 (by decide) o1 rfl i_X9 3 (by decide) (List.mem_of_getElem? (i := 8) rfl) rfl ddX9_becomes_39 ?_
  refine lv_iconst (v := 0) hx hb ddX9_becomes_42 (by decide) ?_
  refine lv_aload_n hx hb ddX9_becomes_43 rfl (lv_at hl 0 rfl) ?_
  refine cg_get hC hO 0 (by decide) rfl rfl i_X9 3 (by decide) (List.mem_of_getElem? (i := 8) rfl) rfl ddX9_becomes_44 ?_
  refine lv_iconst (v := 0) hx hb ddX9_becomes_47 (by decide) ?_
  refine lv_iconst (v := 5) hx hb ddX9_becomes_48 (by decide) ?_
  refine zg_copy (a := (-2147483648)) (b := 2147483647) hC hl.1 hO (List.mem_of_getElem? (i := 2) rfl) (List.mem_of_getElem? (i := 3) rfl) (List.mem_of_getElem? (i := 4) rfl) (List.mem_of_getElem? (i := 5) rfl) 6 7 (by decide) (by decide) a6 rfl (za_all _) (za_all _) (zi_k (a := 0) (b := 0) (x := 0) rfl) (zi_k (a := 0) (b := 0) (x := 0) rfl) (zi_k (a := 5) (b := 5) (x := 5) rfl) (by decide) (Nat.le_of_ble_eq_true rfl) (Nat.le_of_ble_eq_true rfl) ddX9_becomes_49 (fun H locs c_49_17 zc_49_18 hO => ?_)
  have hO : cO D cy A s.heap s 8 ad (cup [(0, .inr (9, [.ref (ad 3), .ref (ad 5), .int x1_2, .ref (ad 7), .int x0_4])), (3, .inl (cy 0, 24, .inl c_12_13)), (5, .inl (cy 0, 24, .inl c_27_15)), (7, .inl (cy 0, 5, .inl c_49_17))] g) _ _ := hO
  refine lv_aload_n hx hb ddX9_becomes_52 rfl (lv_at hl 0 rfl) ?_
  refine lv_aload_n hx hb ddX9_becomes_53 rfl (lv_at hl 1 rfl) ?_
  refine cg_get hC hO 1 (by decide) o1 rfl i_X9 4 (by decide) (List.mem_of_getElem? (i := 9) rfl) rfl ddX9_becomes_54 ?_
  refine cg_put hC hO 0 (by decide) rfl rfl i_X9 tyX9_ok nmX9 4 (by decide) (List.mem_of_getElem? (i := 9) rfl) rfl rfl rfl (Nat.le_of_ble_eq_true rfl) ddX9_becomes_57 (fun H locs hO => ?_)
  have hO : cO D cy A s.heap s 8 ad (cup [(0, .inr (9, [.ref (ad 3), .ref (ad 5), .int x1_2, .ref (ad 7), .int x1_4])), (3, .inl (cy 0, 24, .inl c_12_13)), (5, .inl (cy 0, 24, .inl c_27_15)), (7, .inl (cy 0, 5, .inl c_49_17))] g) _ _ := hO
  exact cg_vret (nw := fun _ => 0) hC hr hlk hO.same (Nat.le_of_ble_eq_true rfl) (Nat.le_of_ble_eq_true rfl) (⟨c_12_13, c_27_15, c_49_17, rfl⟩) ddX9_becomes_60

theorem ddX9_asTold_0 : decode cX9_asTold 0 = .ok (.aload_n 0, 1) := by decide +kernel
theorem ddX9_asTold_1 : decode cX9_asTold 1 = .ok (.iconst 0, 1) := by decide +kernel
theorem ddX9_asTold_2 : decode cX9_asTold 2 = .ok (.putfield 21, 3) := by decide +kernel
theorem ddX9_asTold_5 : decode cX9_asTold 5 = .ok (.iconst 0, 1) := by decide +kernel
theorem ddX9_asTold_6 : decode cX9_asTold 6 = .ok (.istore_n 2, 1) := by decide +kernel
theorem ddX9_asTold_7 : decode cX9_asTold 7 = .ok (.iload_n 2, 1) := by decide +kernel
theorem ddX9_asTold_8 : decode cX9_asTold 8 = .ok (.aload_n 1, 1) := by decide +kernel
theorem ddX9_asTold_9 : decode cX9_asTold 9 = .ok (.getfield 25, 3) := by decide +kernel
theorem ddX9_asTold_12 : decode cX9_asTold 12 = .ok (.if_icmp .ge 25, 3) := by decide +kernel
theorem ddX9_asTold_15 : decode cX9_asTold 15 = .ok (.aload_n 0, 1) := by decide +kernel
theorem ddX9_asTold_16 : decode cX9_asTold 16 = .ok (.aload_n 1, 1) := by decide +kernel
theorem ddX9_asTold_17 : decode cX9_asTold 17 = .ok (.getfield 28, 3) := by decide +kernel
theorem ddX9_asTold_20 : decode cX9_asTold 20 = .ok (.iload_n 2, 1) := by decide +kernel
theorem ddX9_asTold_21 : decode cX9_asTold 21 = .ok (.iaload, 1) := by decide +kernel
theorem ddX9_asTold_22 : decode cX9_asTold 22 = .ok (.aload_n 1, 1) := by decide +kernel
theorem ddX9_asTold_23 : decode cX9_asTold 23 = .ok (.getfield 29, 3) := by decide +kernel
theorem ddX9_asTold_26 : decode cX9_asTold 26 = .ok (.iload_n 2, 1) := by decide +kernel
theorem ddX9_asTold_27 : decode cX9_asTold 27 = .ok (.iaload, 1) := by decide +kernel
theorem ddX9_asTold_28 : decode cX9_asTold 28 = .ok (.invokevirtual 30, 3) := by decide +kernel
theorem ddX9_asTold_31 : decode cX9_asTold 31 = .ok (.iinc 2 1, 3) := by decide +kernel
theorem ddX9_asTold_34 : decode cX9_asTold 34 = .ok (.goto (-27), 3) := by decide +kernel
theorem ddX9_asTold_37 : decode cX9_asTold 37 = .ok (.aload_n 0, 1) := by decide +kernel
theorem ddX9_asTold_38 : decode cX9_asTold 38 = .ok (.aload_n 1, 1) := by decide +kernel
theorem ddX9_asTold_39 : decode cX9_asTold 39 = .ok (.getfield 34, 3) := by decide +kernel
theorem ddX9_asTold_42 : decode cX9_asTold 42 = .ok (.iconst (-1), 1) := by decide +kernel
theorem ddX9_asTold_43 : decode cX9_asTold 43 = .ok (.ixor, 1) := by decide +kernel
theorem ddX9_asTold_44 : decode cX9_asTold 44 = .ok (.putfield 37, 3) := by decide +kernel
theorem ddX9_asTold_47 : decode cX9_asTold 47 = .ok (.aload_n 1, 1) := by decide +kernel
theorem ddX9_asTold_48 : decode cX9_asTold 48 = .ok (.getfield 40, 3) := by decide +kernel
theorem ddX9_asTold_51 : decode cX9_asTold 51 = .ok (.iconst 0, 1) := by decide +kernel
theorem ddX9_asTold_52 : decode cX9_asTold 52 = .ok (.aload_n 0, 1) := by decide +kernel
theorem ddX9_asTold_53 : decode cX9_asTold 53 = .ok (.getfield 18, 3) := by decide +kernel
theorem ddX9_asTold_56 : decode cX9_asTold 56 = .ok (.iconst 0, 1) := by decide +kernel
theorem ddX9_asTold_57 : decode cX9_asTold 57 = .ok (.iconst 5, 1) := by decide +kernel
theorem ddX9_asTold_58 : decode cX9_asTold 58 = .ok (.invokestatic 41, 3) := by decide +kernel
theorem ddX9_asTold_61 : decode cX9_asTold 61 = .ok (.return_, 1) := by decide +kernel
def wq_k_X9_asTold : List Cond := Cond.code yX9_asTold cX9_asTold 3 none :: (([Cond.fieldLink RX9 21 "CrowToll$Stand" "carts" "I", Cond.fieldLink RX9 25 "CrowToll$Road" "carts" "I", Cond.fieldLink RX9 28 "CrowToll$Road" "minute" "[I", Cond.fieldLink RX9 29 "CrowToll$Road" "sacks" "[I", Cond.methodLink RX9 30 yX9_add, Cond.instanceMethod yX9_add, Cond.selects RX9 yX9_add yX9_add, Cond.initialized RX9, Cond.code yX9_add cX9_add 3 none, Cond.fieldLink RX9 9 "CrowToll$Stand" "minute" "[I", Cond.fieldLink RX9 15 "CrowToll$Stand" "sacks" "[I", Cond.fieldLink RX9 34 "CrowToll$Road" "maybe" "I", Cond.fieldLink RX9 37 "CrowToll$Stand" "comes" "I", Cond.fieldLink RX9 40 "CrowToll$Road" "counts" "[I", Cond.fieldLink RX9 18 "CrowToll$Stand" "counts" "[I", Cond.methodLink RX9 41 arraycopyName, Cond.native arraycopyName, Cond.static arraycopyName, Cond.initialized "java/lang/System"] : List Cond) ++ wsX70 ++ wsX90)
set_option maxRecDepth 20000 in
theorem gr_k_X9_asTold_k_X9_add : GoodIn wq_k_X9_asTold wq_k_X9_add := List.forall_mem_cons.mpr ⟨⟨(List.mem_of_getElem? (i := 9) rfl), good_of_word rfl⟩, List.forall_mem_append.mpr ⟨List.forall_mem_cons.mpr ⟨⟨(List.mem_of_getElem? (i := 1) rfl), good_of_word rfl⟩, List.forall_mem_cons.mpr ⟨⟨(List.mem_of_getElem? (i := 10) rfl), good_of_word rfl⟩, List.forall_mem_cons.mpr ⟨⟨(List.mem_of_getElem? (i := 11) rfl), good_of_word rfl⟩, (fun _ h => absurd h List.not_mem_nil)⟩⟩⟩, fun w h => ⟨(fun w h => List.mem_cons_of_mem _ (List.mem_append_right _ h)) w h, good_of_word (List.all_eq_true.mp gw_X9 w h)⟩⟩⟩
set_option maxRecDepth 20000 in
theorem gq_k_X9_asTold_k_X9_add_30 : GoodIn wq_k_X9_asTold (wsV RX9 30 RX9 yX9_add wq_k_X9_add) := goodIn_app (List.forall_mem_cons.mpr ⟨⟨(List.mem_of_getElem? (i := 5) rfl), good_of_word rfl⟩, List.forall_mem_cons.mpr ⟨⟨(List.mem_of_getElem? (i := 6) rfl), good_of_word rfl⟩, List.forall_mem_cons.mpr ⟨⟨(List.mem_of_getElem? (i := 7) rfl), good_of_word rfl⟩, List.forall_mem_cons.mpr ⟨⟨(List.mem_of_getElem? (i := 8) rfl), good_of_word rfl⟩, (fun _ h => absurd h List.not_mem_nil)⟩⟩⟩⟩) gr_k_X9_asTold_k_X9_add
set_option maxHeartbeats 8000000 in
set_option maxRecDepth 100000 in
theorem k_X9_asTold (l : Launch) (D : va_G) (cy : Nat → ClassId) (ad : Nat → Nat) (g : Nat → va_E) {x0_2 : Int32} {x0_4 : Int32} {u1_0 : Value} {u1_2 : Value} {u1_3 : Value} {u1_4 : Value} {u1_5 : Value} {u1_6 : Value} {u1_7 : Value} {u1_8 : Value} {u1_9 : Value} {u1_10 : Value} {u1_11 : Value} {u1_12 : Value} {x1_15 : Int32} {x1_16 : Int32} {u1_17 : Value} {c2 : Nat → Int32} {c3 : Nat → Int32} {c4 : Nat → Int32} {c5 : Nat → Int32} {c6 : Nat → Int32} {c7 : Nat → Int32} (o0 : g 0 = .inr (9, [.ref (ad 4), .ref (ad 5), .int x0_2, .ref (ad 7), .int x0_4])) (o1 : g 1 = .inr (7, [u1_0, .ref (ad 6), u1_2, u1_3, u1_4, u1_5, u1_6, u1_7, u1_8, u1_9, u1_10, u1_11, u1_12, .ref (ad 2), .ref (ad 3), .int x1_15, .int x1_16, u1_17])) (a2 : g 2 = .inl (cy 0, 12, .inl c2)) (a3 : g 3 = .inl (cy 0, 12, .inl c3)) (a4 : g 4 = .inl (cy 0, 24, .inl c4)) (a5 : g 5 = .inl (cy 0, 24, .inl c5)) (a6 : g 6 = .inl (cy 0, 5, .inl c6)) (a7 : g 7 = .inl (cy 0, 5, .inl c7)) (b0_4 : zi 0 24 x0_4) (b1_16 : zi 0 12 x1_16) : cMv l yX9_asTold wq_k_X9_asTold { frames := 1, cells := 0, slots := 0, locals := 60 } 8 0 0 0 D cy ad g [.ref (ad 0), .ref (ad 1)] (fun nw lu => ∃ (y0_2 : Int32) (y0_4 : Int32) (d4 : Nat → Int32) (d5 : Nat → Int32) (d7 : Nat → Int32), (zi 0 24 y0_4) ∧ (lu = [(0, .inr (9, [.ref (ad 4), .ref (ad 5), .int y0_2, .ref (ad 7), .int y0_4])), (4, .inl (cy 0, 24, .inl d4)), (5, .inl (cy 0, 24, .inl d5)), (7, .inl (cy 0, 5, .inl d7))])) := by
  refine cM_of (Qc := fun A => cQv (fun nw lu => ∃ (y0_2 : Int32) (y0_4 : Int32) (d4 : Nat → Int32) (d5 : Nat → Int32) (d7 : Nat → Int32), (zi 0 24 y0_4) ∧ (lu = [(0, .inr (9, [.ref (ad 4), .ref (ad 5), .int y0_2, .ref (ad 7), .int y0_4])), (4, .inl (cy 0, 24, .inl d4)), (5, .inl (cy 0, 24, .inl d5)), (7, .inl (cy 0, 5, .inl d7))])) D 8 0 ad g A) (cc := cX9_asTold) (maxL := 3) (ret := none) (by decide) rfl (Nat.le_of_ble_eq_true rfl) ?_
  intro p e s m below meth c A hC hr hlk hnm hO ls hl
  have hC : CallFix p m c cX9_asTold 3 s [.ref (ad 0), .ref (ad 1)].toArray wq_k_X9_asTold RX9 := hC
  obtain ⟨hx, hb, hml, hown, hts⟩ := id hC
  have hl : lv_has ls 3 [(0, .ref (ad 0)), (1, .ref (ad 1))] := hl
  have i_X7 : ∀ w ∈ wsX70, w ∈ wq_k_X9_asTold := fun w h => List.mem_cons_of_mem _ (List.mem_append_left _ (List.mem_append_right _ h))
  have i_X9 : ∀ w ∈ wsX90, w ∈ wq_k_X9_asTold := fun w h => List.mem_cons_of_mem _ (List.mem_append_right _ h)
  have hO := hO.notes [(0, .inr (9, [.ref (ad 4), .ref (ad 5), .int x0_2, .ref (ad 7), .int x0_4])), (4, .inl (cy 0, 24, .inl c4)), (5, .inl (cy 0, 24, .inl c5)), (7, .inl (cy 0, 5, .inl c7))] (List.forall_mem_cons.mpr ⟨o0, List.forall_mem_cons.mpr ⟨a4, List.forall_mem_cons.mpr ⟨a5, List.forall_mem_cons.mpr ⟨a7, (fun _ h => absurd h List.not_mem_nil)⟩⟩⟩⟩)
  refine lv_aload_n hx hb ddX9_asTold_0 rfl (lv_at hl 0 rfl) ?_
  refine lv_iconst (v := 0) hx hb ddX9_asTold_1 (by decide) ?_
  refine cg_put hC hO 0 (by decide) rfl rfl i_X9 tyX9_ok nmX9 4 (by decide) (List.mem_of_getElem? (i := 1) rfl) rfl rfl rfl (Nat.le_of_ble_eq_true rfl) ddX9_asTold_2 (fun H locs hO => ?_)
  have hO : cO D cy A s.heap s 8 ad (cup [(0, .inr (9, [.ref (ad 4), .ref (ad 5), .int x0_2, .ref (ad 7), .int 0])), (4, .inl (cy 0, 24, .inl c4)), (5, .inl (cy 0, 24, .inl c5)), (7, .inl (cy 0, 5, .inl c7))] g) _ _ := hO
  refine lv_iconst (v := 0) hx hb ddX9_asTold_5 (by decide) ?_
  refine lv_istore_n (lv' := [(2, .int 0), (0, .ref (ad 0)), (1, .ref (ad 1))]) hx hb ddX9_asTold_6 rfl hl (by decide) rfl (fun ls hl => ?_)
  have loop_7_1255 : ∀ (d_7_1256 : Nat) (v_7_1205 : Int32) (v_7_1207 : Int32) (c_7_1209 : Nat → Int32) (c_7_1211 : Nat → Int32), zi 0 12 v_7_1205 → zi 0 24 v_7_1207 → za (-2147483648) 2147483647 c_7_1209 → za (-2147483648) 2147483647 c_7_1211 → (12 + 1 - v_7_1205.toInt).toNat < d_7_1256 → ∀ (H : Heap) (locs : List Loc), cO D cy A s.heap s 8 ad (cup [(0, .inr (9, [.ref (ad 4), .ref (ad 5), .int x0_2, .ref (ad 7), .int v_7_1207])), (4, .inl (cy 0, 24, .inl c_7_1209)), (5, .inl (cy 0, 24, .inl c_7_1211)), (7, .inl (cy 0, 5, .inl c7))] g) H locs → ∀ ls : Array Slot, lv_has ls 3 [(2, .int v_7_1205), (0, .ref (ad 0)), (1, .ref (ad 1))] → W p l e { frames := 1, cells := 0, slots := 0, locals := 60 } s m [.ref (ad 0), .ref (ad 1)].toArray below meth c H locs 0 0 (MQ below (cQv (fun nw lu => ∃ (y0_2 : Int32) (y0_4 : Int32) (d4 : Nat → Int32) (d5 : Nat → Int32) (d7 : Nat → Int32), (zi 0 24 y0_4) ∧ (lu = [(0, .inr (9, [.ref (ad 4), .ref (ad 5), .int y0_2, .ref (ad 7), .int y0_4])), (4, .inl (cy 0, 24, .inl d4)), (5, .inl (cy 0, 24, .inl d5)), (7, .inl (cy 0, 5, .inl d7))])) D 8 0 ad g A) [.ref (ad 0), .ref (ad 1)].toArray s 0 0 A) (F0 m 7 ls [])  := by
    intro d_7_1256
    induction d_7_1256 with
    | zero => intro v_7_1205 v_7_1207 c_7_1209 c_7_1211 z_7_1206 z_7_1208 zc_7_1210 zc_7_1212 mu_7_1257; exact absurd mu_7_1257 (Nat.not_lt_zero _)
    | succ d_7_1256 ih_7_1258 =>
      intro v_7_1205 v_7_1207 c_7_1209 c_7_1211 z_7_1206 z_7_1208 zc_7_1210 zc_7_1212 mu_7_1257 H locs hO ls hl
      refine lv_iload_n hx hb ddX9_asTold_7 rfl (lv_at hl 0 rfl) ?_
      refine lv_aload_n hx hb ddX9_asTold_8 rfl (lv_at hl 2 rfl) ?_
      refine cg_get hC hO 1 (by decide) o1 rfl i_X7 16 (by decide) (List.mem_of_getElem? (i := 2) rfl) rfl ddX9_asTold_9 ?_
      refine lv_icmp_ge (tgt := 37) hx hb ddX9_asTold_12 (by decide) (fun h_12_1259 => ?_) (fun h_12_1259 => ?_)
      · have q_12_1279 := zr_le h_12_1259
        refine lv_aload_n hx hb ddX9_asTold_37 rfl (lv_at hl 1 rfl) ?_
        refine lv_aload_n hx hb ddX9_asTold_38 rfl (lv_at hl 2 rfl) ?_
        refine cg_get hC hO 1 (by decide) o1 rfl i_X7 15 (by decide) (List.mem_of_getElem? (i := 12) rfl) rfl ddX9_asTold_39 ?_
        refine lv_iconst (v := (-1)) hx hb ddX9_asTold_42 (by decide) ?_
        refine lv_ixor hx hb ddX9_asTold_43 ?_
        refine lv_topi (fun v_43_1280 _ => ?_)
        refine cg_put hC hO 0 (by decide) rfl rfl i_X9 tyX9_ok nmX9 2 (by decide) (List.mem_of_getElem? (i := 13) rfl) rfl rfl rfl (Nat.le_of_ble_eq_true rfl) ddX9_asTold_44 (fun H locs hO => ?_)
        have hO : cO D cy A s.heap s 8 ad (cup [(0, .inr (9, [.ref (ad 4), .ref (ad 5), .int v_43_1280, .ref (ad 7), .int v_7_1207])), (4, .inl (cy 0, 24, .inl c_7_1209)), (5, .inl (cy 0, 24, .inl c_7_1211)), (7, .inl (cy 0, 5, .inl c7))] g) _ _ := hO
        refine lv_aload_n hx hb ddX9_asTold_47 rfl (lv_at hl 2 rfl) ?_
        refine cg_get hC hO 1 (by decide) o1 rfl i_X7 1 (by decide) (List.mem_of_getElem? (i := 14) rfl) rfl ddX9_asTold_48 ?_
        refine lv_iconst (v := 0) hx hb ddX9_asTold_51 (by decide) ?_
        refine lv_aload_n hx hb ddX9_asTold_52 rfl (lv_at hl 1 rfl) ?_
        refine cg_get hC hO 0 (by decide) rfl rfl i_X9 3 (by decide) (List.mem_of_getElem? (i := 15) rfl) rfl ddX9_asTold_53 ?_
        refine lv_iconst (v := 0) hx hb ddX9_asTold_56 (by decide) ?_
        refine lv_iconst (v := 5) hx hb ddX9_asTold_57 (by decide) ?_
        refine zg_copy (a := (-2147483648)) (b := 2147483647) hC hl.1 hO (List.mem_of_getElem? (i := 16) rfl) (List.mem_of_getElem? (i := 17) rfl) (List.mem_of_getElem? (i := 18) rfl) (List.mem_of_getElem? (i := 19) rfl) 6 7 (by decide) (by decide) a6 rfl (za_all _) (za_all _) (zi_k (a := 0) (b := 0) (x := 0) rfl) (zi_k (a := 0) (b := 0) (x := 0) rfl) (zi_k (a := 5) (b := 5) (x := 5) rfl) (by decide) (Nat.le_of_ble_eq_true rfl) (Nat.le_of_ble_eq_true rfl) ddX9_asTold_58 (fun H locs c_58_1281 zc_58_1282 hO => ?_)
        have hO : cO D cy A s.heap s 8 ad (cup [(0, .inr (9, [.ref (ad 4), .ref (ad 5), .int v_43_1280, .ref (ad 7), .int v_7_1207])), (4, .inl (cy 0, 24, .inl c_7_1209)), (5, .inl (cy 0, 24, .inl c_7_1211)), (7, .inl (cy 0, 5, .inl c_58_1281))] g) _ _ := hO
        exact cg_vret (nw := fun _ => 0) hC hr hlk hO.same (Nat.le_of_ble_eq_true rfl) (Nat.le_of_ble_eq_true rfl) (⟨v_43_1280, v_7_1207, c_7_1209, c_7_1211, c_58_1281, z_7_1208, rfl⟩) ddX9_asTold_61
      · have q_12_1283 := zr_nle h_12_1259
        have z_12_1284 : zi 0 11 v_7_1205 := zu_lt q_12_1283 z_7_1206 b1_16 (by decide)
        have z_12_1285 : zi 1 12 x1_16 := zd_lt q_12_1283 z_7_1206 b1_16 (by decide)
        refine lv_aload_n hx hb ddX9_asTold_15 rfl (lv_at hl 1 rfl) ?_
        refine lv_aload_n hx hb ddX9_asTold_16 rfl (lv_at hl 2 rfl) ?_
        refine cg_get hC hO 1 (by decide) o1 rfl i_X7 13 (by decide) (List.mem_of_getElem? (i := 3) rfl) rfl ddX9_asTold_17 ?_
        refine lv_iload_n hx hb ddX9_asTold_20 rfl (lv_at hl 0 rfl) ?_
        refine zg_iald hC hO 2 (by decide) a2 (za_all _) (zi_in z_12_1284 (by decide)) ddX9_asTold_21 (fun v_21_1286 z_21_1287 => ?_)
        refine lv_aload_n hx hb ddX9_asTold_22 rfl (lv_at hl 2 rfl) ?_
        refine cg_get hC hO 1 (by decide) o1 rfl i_X7 14 (by decide) (List.mem_of_getElem? (i := 4) rfl) rfl ddX9_asTold_23 ?_
        refine lv_iload_n hx hb ddX9_asTold_26 rfl (lv_at hl 0 rfl) ?_
        refine zg_iald hC hO 3 (by decide) a3 (za_all _) (zi_in z_12_1284 (by decide)) ddX9_asTold_27 (fun v_27_1288 z_27_1289 => ?_)
        refine cg_Vv (As := [.int v_21_1286, .int v_27_1288]) (rest := []) (mc := 0) (ms := 0) (rm := { frames := 0, cells := 0, slots := 0, locals := 0 }) hC hl.1 hO [0, 4, 5] (by decide +kernel) (k_X9_add l D cy _ _ (c1 := c_7_1209) (c2 := c_7_1211) (u0_2 := .int x0_2) (u0_3 := .ref (ad 7)) (x0_4 := v_7_1207) (itsMinute := v_21_1286) (itsSacks := v_27_1288) rfl rfl rfl z_7_1208) gq_k_X9_asTold_k_X9_add_30 rfl rfl rfl 2 (by decide +kernel) ⟨Nat.le_of_ble_eq_true rfl, Nat.le_of_ble_eq_true rfl⟩ rfl (by decide) rfl rfl rfl (Nat.le_of_ble_eq_true rfl) ddX9_asTold_28 ⟨Nat.le_of_ble_eq_true rfl, Nat.le_of_ble_eq_true rfl⟩ (fun nw_28_1290 l_28_1291 H locs hw hO => ?_)
        obtain ⟨y0_28_1293, d1_28_1294, d2_28_1295, z_28_1296, rfl⟩ := hw
        have hO := hO.mrg (lk := [(0, .inr (9, [.ref (ad 4), .ref (ad 5), .int x0_2, .ref (ad 7), .int y0_28_1293])), (4, .inl (cy 0, 24, .inl d1_28_1294)), (5, .inl (cy 0, 24, .inl d2_28_1295))]) (lm := [(0, .inr (9, [.ref (ad 4), .ref (ad 5), .int x0_2, .ref (ad 7), .int y0_28_1293])), (4, .inl (cy 0, 24, .inl d1_28_1294)), (5, .inl (cy 0, 24, .inl d2_28_1295)), (7, .inl (cy 0, 5, .inl c7))]) rfl rfl rfl
        obtain ⟨v_31_1297, e_31_1298, z_31_1299, q_31_1300⟩ := zi_inc (e := 1) (f := 12) 1 z_12_1284 (by decide)
        refine lv_iinc (v := v_31_1297) (lv' := [(2, .int v_31_1297), (0, .ref (ad 0)), (1, .ref (ad 1))]) hx hb ddX9_asTold_31 hl (k := 0) rfl e_31_1298 (by decide) rfl (fun ls hl => ?_)
        refine lv_goto (tgt := 7) hx hb ddX9_asTold_34 (by decide) ?_
        exact ih_7_1258 v_31_1297 y0_28_1293 d1_28_1294 d2_28_1295 (zi_w (c := 0) (d := 12) z_31_1299 (by decide)) (zi_w (c := 0) (d := 24) z_28_1296 (by decide)) (za_all _) (za_all _) (zm_up q_31_1300 ((zi_w (c := 0) (d := 12) z_31_1299 (by decide))).2 (by decide) mu_7_1257) _ _ hO ls (lv_sub hl [0, 1, 2] rfl)
  exact loop_7_1255 ((12 + 1 - (0 : Int32).toInt).toNat + 1) 0 0 c4 c5 (zi_k (a := 0) (b := 12) (x := 0) rfl) (zi_k (a := 0) (b := 24) (x := 0) rfl) (za_all _) (za_all _) (Nat.lt_succ_self _) _ _ hO ls (lv_sub hl [0, 1, 2] rfl)

theorem ddX9_coming_0 : decode cX9_coming 0 = .ok (.iconst 0, 1) := by decide +kernel
theorem ddX9_coming_1 : decode cX9_coming 1 = .ok (.istore_n 2, 1) := by decide +kernel
theorem ddX9_coming_2 : decode cX9_coming 2 = .ok (.iconst 0, 1) := by decide +kernel
theorem ddX9_coming_3 : decode cX9_coming 3 = .ok (.istore_n 3, 1) := by decide +kernel
theorem ddX9_coming_4 : decode cX9_coming 4 = .ok (.iload_n 3, 1) := by decide +kernel
theorem ddX9_coming_5 : decode cX9_coming 5 = .ok (.aload_n 0, 1) := by decide +kernel
theorem ddX9_coming_6 : decode cX9_coming 6 = .ok (.getfield 21, 3) := by decide +kernel
theorem ddX9_coming_9 : decode cX9_coming 9 = .ok (.if_icmp .ge 27, 3) := by decide +kernel
theorem ddX9_coming_12 : decode cX9_coming 12 = .ok (.aload_n 0, 1) := by decide +kernel
theorem ddX9_coming_13 : decode cX9_coming 13 = .ok (.getfield 37, 3) := by decide +kernel
theorem ddX9_coming_16 : decode cX9_coming 16 = .ok (.iload_n 3, 1) := by decide +kernel
theorem ddX9_coming_17 : decode cX9_coming 17 = .ok (.invokestatic 47, 3) := by decide +kernel
theorem ddX9_coming_20 : decode cX9_coming 20 = .ok (.ifCond .eq 10, 3) := by decide +kernel
theorem ddX9_coming_23 : decode cX9_coming 23 = .ok (.aload_n 1, 1) := by decide +kernel
theorem ddX9_coming_24 : decode cX9_coming 24 = .ok (.iload_n 2, 1) := by decide +kernel
theorem ddX9_coming_25 : decode cX9_coming 25 = .ok (.iload_n 3, 1) := by decide +kernel
theorem ddX9_coming_26 : decode cX9_coming 26 = .ok (.iastore, 1) := by decide +kernel
theorem ddX9_coming_27 : decode cX9_coming 27 = .ok (.iinc 2 1, 3) := by decide +kernel
theorem ddX9_coming_30 : decode cX9_coming 30 = .ok (.iinc 3 1, 3) := by decide +kernel
theorem ddX9_coming_33 : decode cX9_coming 33 = .ok (.goto (-29), 3) := by decide +kernel
theorem ddX9_coming_36 : decode cX9_coming 36 = .ok (.iload_n 2, 1) := by decide +kernel
theorem ddX9_coming_37 : decode cX9_coming 37 = .ok (.ireturn, 1) := by decide +kernel
def wq_k_X9_coming : List Cond := Cond.code yX9_coming cX9_coming 4 (some .int) :: (([Cond.fieldLink RX9 21 "CrowToll$Stand" "carts" "I", Cond.fieldLink RX9 37 "CrowToll$Stand" "comes" "I", Cond.code yX11_has cX11_has 2 (some .boolean), Cond.static yX11_has, Cond.initialized RX11] : List Cond) ++ wsX90)
set_option maxRecDepth 20000 in
theorem gr_k_X9_coming_k_X11_has : GoodIn wq_k_X9_coming wq_k_X11_has := List.forall_mem_cons.mpr ⟨⟨(List.mem_of_getElem? (i := 3) rfl), good_of_word rfl⟩, (fun _ h => absurd h List.not_mem_nil)⟩
theorem gq_k_X9_coming_k_X11_has : GoodIn wq_k_X9_coming wq_k_X11_has := gr_k_X9_coming_k_X11_has
set_option maxHeartbeats 8000000 in
set_option maxRecDepth 100000 in
theorem k_X9_coming (l : Launch) (D : va_G) (cy : Nat → ClassId) (ad : Nat → Nat) (g : Nat → va_E) {u0_0 : Value} {u0_1 : Value} {x0_2 : Int32} {u0_3 : Value} {x0_4 : Int32} {c1 : Nat → Int32} (o0 : g 0 = .inr (9, [u0_0, u0_1, .int x0_2, u0_3, .int x0_4])) (a1 : g 1 = .inl (cy 0, 24, .inl c1)) (b0_4 : zi 0 24 x0_4) (ha1 : za 0 23 c1) : cMi l yX9_coming wq_k_X9_coming { frames := 1, cells := 0, slots := 0, locals := 21 } 2 0 0 0 D cy ad g [.ref (ad 0), .ref (ad 1)] (fun r nw lu => ∃ (d1 : Nat → Int32), (za 0 23 d1) ∧ (zi 0 24 r) ∧ (lu = [(1, .inl (cy 0, 24, .inl d1))])) := by
  refine cM_of (Qc := fun A => cQi (fun r nw lu => ∃ (d1 : Nat → Int32), (za 0 23 d1) ∧ (zi 0 24 r) ∧ (lu = [(1, .inl (cy 0, 24, .inl d1))])) D 2 0 ad g A) (cc := cX9_coming) (maxL := 4) (ret := (some .int)) (by decide) rfl (Nat.le_of_ble_eq_true rfl) ?_
  intro p e s m below meth c A hC hr hlk hnm hO ls hl
  have hC : CallFix p m c cX9_coming 4 s [.ref (ad 0), .ref (ad 1)].toArray wq_k_X9_coming RX9 := hC
  obtain ⟨hx, hb, hml, hown, hts⟩ := id hC
  have hl : lv_has ls 4 [(0, .ref (ad 0)), (1, .ref (ad 1))] := hl
  have i_X9 : ∀ w ∈ wsX90, w ∈ wq_k_X9_coming := fun w h => List.mem_cons_of_mem _ (List.mem_append_right _ h)
  have hO := hO.notes [(1, .inl (cy 0, 24, .inl c1))] (List.forall_mem_cons.mpr ⟨a1, (fun _ h => absurd h List.not_mem_nil)⟩)
  refine lv_iconst (v := 0) hx hb ddX9_coming_0 (by decide) ?_
  refine lv_istore_n (lv' := [(2, .int 0), (0, .ref (ad 0)), (1, .ref (ad 1))]) hx hb ddX9_coming_1 rfl hl (by decide) rfl (fun ls hl => ?_)
  refine lv_iconst (v := 0) hx hb ddX9_coming_2 (by decide) ?_
  refine lv_istore_n (lv' := [(3, .int 0), (2, .int 0), (0, .ref (ad 0)), (1, .ref (ad 1))]) hx hb ddX9_coming_3 rfl hl (by decide) rfl (fun ls hl => ?_)
  have loop_4_573 : ∀ (d_4_574 : Nat) (v_4_537 : Int32) (v_4_539 : Int32) (c_4_541 : Nat → Int32), zi 0 24 v_4_537 → zi 0 24 v_4_539 → za 0 23 c_4_541 → (v_4_539 : Int32).toInt ≤ (v_4_537 : Int32).toInt → (24 + 1 - v_4_537.toInt).toNat < d_4_574 → ∀ (H : Heap) (locs : List Loc), cO D cy A s.heap s 2 ad (cup [(1, .inl (cy 0, 24, .inl c_4_541))] g) H locs → ∀ ls : Array Slot, lv_has ls 4 [(3, .int v_4_537), (2, .int v_4_539), (0, .ref (ad 0)), (1, .ref (ad 1))] → W p l e { frames := 1, cells := 0, slots := 0, locals := 21 } s m [.ref (ad 0), .ref (ad 1)].toArray below meth c H locs 0 0 (MQ below (cQi (fun r nw lu => ∃ (d1 : Nat → Int32), (za 0 23 d1) ∧ (zi 0 24 r) ∧ (lu = [(1, .inl (cy 0, 24, .inl d1))])) D 2 0 ad g A) [.ref (ad 0), .ref (ad 1)].toArray s 0 0 A) (F0 m 4 ls [])  := by
    intro d_4_574
    induction d_4_574 with
    | zero => intro v_4_537 v_4_539 c_4_541 z_4_538 z_4_540 zc_4_542 q_4_543 mu_4_575; exact absurd mu_4_575 (Nat.not_lt_zero _)
    | succ d_4_574 ih_4_576 =>
      intro v_4_537 v_4_539 c_4_541 z_4_538 z_4_540 zc_4_542 q_4_543 mu_4_575 H locs hO ls hl
      refine lv_iload_n hx hb ddX9_coming_4 rfl (lv_at hl 0 rfl) ?_
      refine lv_aload_n hx hb ddX9_coming_5 rfl (lv_at hl 2 rfl) ?_
      refine cg_get hC hO 0 (by decide) o0 rfl i_X9 4 (by decide) (List.mem_of_getElem? (i := 1) rfl) rfl ddX9_coming_6 ?_
      refine lv_icmp_ge (tgt := 36) hx hb ddX9_coming_9 (by decide) (fun h_9_577 => ?_) (fun h_9_577 => ?_)
      · have q_9_578 := zr_le h_9_577
        refine lv_iload_n hx hb ddX9_coming_36 rfl (lv_at hl 1 rfl) ?_
        exact cg_iret (nw := fun _ => 0) hC hr hlk hO.same rfl (Nat.le_of_ble_eq_true rfl) (Nat.le_of_ble_eq_true rfl) (⟨c_4_541, zc_4_542, z_4_540, rfl⟩) ddX9_coming_37
      · have q_9_579 := zr_nle h_9_577
        have z_9_580 : zi 0 23 v_4_537 := zu_lt q_9_579 z_4_538 b0_4 (by decide)
        have z_9_581 : zi 0 23 v_4_539 := zu_le q_4_543 z_4_540 z_9_580 (by decide)
        have z_9_582 : zi 1 24 x0_4 := zd_lt q_9_579 z_4_538 b0_4 (by decide)
        refine lv_aload_n hx hb ddX9_coming_12 rfl (lv_at hl 2 rfl) ?_
        refine cg_get hC hO 0 (by decide) o0 rfl i_X9 2 (by decide) (List.mem_of_getElem? (i := 2) rfl) rfl ddX9_coming_13 ?_
        refine lv_iload_n hx hb ddX9_coming_16 rfl (lv_at hl 0 rfl) ?_
        refine cg_Ni (As := [.int x0_2, .int v_4_537]) (rest := []) (mc := 0) (ms := 0) (rm := { frames := 0, cells := 0, slots := 0, locals := 0 }) hC hl.1 hO [] (by decide +kernel) (k_X11_has l D cy _ _ (bits := x0_2) (q := v_4_537) ) gq_k_X9_coming_k_X11_has rfl rfl rfl (host := "CrowToll") (nestL_mem_7) (List.mem_of_getElem? (i := 4) rfl) (List.mem_of_getElem? (i := 5) rfl) 2 (by decide +kernel) ⟨Nat.le_of_ble_eq_true rfl, Nat.le_of_ble_eq_true rfl⟩ rfl rfl (Nat.le_of_ble_eq_true rfl) ddX9_coming_17 ⟨Nat.le_of_ble_eq_true rfl, Nat.le_of_ble_eq_true rfl⟩ (fun r_17_585 nw_17_583 l_17_584 H locs hw hO => ?_)
        obtain ⟨z_17_586, rfl⟩ := hw
        have hO : cO D cy A s.heap s 2 ad (cup [(1, .inl (cy 0, 24, .inl c_4_541))] g) _ _ := hO
        refine lv_if_eq (tgt := 30) hx hb ddX9_coming_20 (by decide) (fun h_20_587 => ?_) (fun h_20_587 => ?_)
        · have q_20_588 := zr_eq h_20_587
          have z_20_589 : zi 0 0 r_17_585 := ze_eq q_20_588 z_17_586 (zi_k (a := 0) (b := 0) (x := 0) rfl)
          obtain ⟨v_30_590, e_30_591, z_30_592, q_30_593⟩ := zi_inc (e := 1) (f := 24) 1 z_9_580 (by decide)
          refine lv_iinc (v := v_30_590) (lv' := [(3, .int v_30_590), (2, .int v_4_539), (0, .ref (ad 0)), (1, .ref (ad 1))]) hx hb ddX9_coming_30 hl (k := 0) rfl e_30_591 (by decide) rfl (fun ls hl => ?_)
          refine lv_goto (tgt := 4) hx hb ddX9_coming_33 (by decide) ?_
          exact ih_4_576 v_30_590 v_4_539 c_4_541 (zi_w (c := 0) (d := 24) z_30_592 (by decide)) (zi_w (c := 0) (d := 24) z_9_581 (by decide)) zc_4_542 (show (v_4_539 : Int32).toInt ≤ (v_30_590 : Int32).toInt by omega) (zm_up q_30_593 ((zi_w (c := 0) (d := 24) z_30_592 (by decide))).2 (by decide) mu_4_575) _ _ hO ls (lv_sub hl [0, 1, 2, 3] rfl)
        · have q_20_594 := zr_ne h_20_587
          have z_20_595 : zi 1 1 r_17_585 := zn_lo q_20_594 z_17_586 (zi_k (a := 0) (b := 0) (x := 0) rfl) (by decide)
          refine lv_aload_n hx hb ddX9_coming_23 rfl (lv_at hl 3 rfl) ?_
          refine lv_iload_n hx hb ddX9_coming_24 rfl (lv_at hl 1 rfl) ?_
          refine lv_iload_n hx hb ddX9_coming_25 rfl (lv_at hl 0 rfl) ?_
          refine zg_iast hC hO 1 (by decide) rfl zc_4_542 z_9_580 (zi_in z_9_581 (by decide)) ddX9_coming_26 (fun H locs c_26_596 zc_26_597 hO => ?_)
          have hO : cO D cy A s.heap s 2 ad (cup [(1, .inl (cy 0, 24, .inl c_26_596))] g) _ _ := hO
          obtain ⟨v_27_598, e_27_599, z_27_600, q_27_601⟩ := zi_inc (e := 1) (f := 24) 1 z_9_581 (by decide)
          refine lv_iinc (v := v_27_598) (lv' := [(2, .int v_27_598), (3, .int v_4_537), (0, .ref (ad 0)), (1, .ref (ad 1))]) hx hb ddX9_coming_27 hl (k := 1) rfl e_27_599 (by decide) rfl (fun ls hl => ?_)
          obtain ⟨v_30_602, e_30_603, z_30_604, q_30_605⟩ := zi_inc (e := 1) (f := 24) 1 z_9_580 (by decide)
          refine lv_iinc (v := v_30_602) (lv' := [(3, .int v_30_602), (2, .int v_27_598), (0, .ref (ad 0)), (1, .ref (ad 1))]) hx hb ddX9_coming_30 hl (k := 1) rfl e_30_603 (by decide) rfl (fun ls hl => ?_)
          refine lv_goto (tgt := 4) hx hb ddX9_coming_33 (by decide) ?_
          exact ih_4_576 v_30_602 v_27_598 c_26_596 (zi_w (c := 0) (d := 24) z_30_604 (by decide)) (zi_w (c := 0) (d := 24) z_27_600 (by decide)) zc_26_597 (show (v_27_598 : Int32).toInt ≤ (v_30_602 : Int32).toInt by omega) (zm_up q_30_605 ((zi_w (c := 0) (d := 24) z_30_604 (by decide))).2 (by decide) mu_4_575) _ _ hO ls (lv_sub hl [0, 1, 2, 3] rfl)
  exact loop_4_573 ((24 + 1 - (0 : Int32).toInt).toNat + 1) 0 0 c1 (zi_k (a := 0) (b := 24) (x := 0) rfl) (zi_k (a := 0) (b := 24) (x := 0) rfl) ha1 (by decide) (Nat.lt_succ_self _) _ _ hO ls (lv_sub hl [0, 1, 2, 3] rfl)

theorem ddX10_begin_0 : decode cX10_begin 0 = .ok (.aload_n 0, 1) := by decide +kernel
theorem ddX10_begin_1 : decode cX10_begin 1 = .ok (.getfield 21, 3) := by decide +kernel
theorem ddX10_begin_4 : decode cX10_begin 4 = .ok (.iconst 0, 1) := by decide +kernel
theorem ddX10_begin_5 : decode cX10_begin 5 = .ok (.invokestatic 54, 3) := by decide +kernel
theorem ddX10_begin_8 : decode cX10_begin 8 = .ok (.aload_n 0, 1) := by decide +kernel
theorem ddX10_begin_9 : decode cX10_begin 9 = .ok (.getfield 24, 3) := by decide +kernel
theorem ddX10_begin_12 : decode cX10_begin 12 = .ok (.iconst 0, 1) := by decide +kernel
theorem ddX10_begin_13 : decode cX10_begin 13 = .ok (.invokestatic 54, 3) := by decide +kernel
theorem ddX10_begin_16 : decode cX10_begin 16 = .ok (.aload_n 0, 1) := by decide +kernel
theorem ddX10_begin_17 : decode cX10_begin 17 = .ok (.getfield 27, 3) := by decide +kernel
theorem ddX10_begin_20 : decode cX10_begin 20 = .ok (.iconst 0, 1) := by decide +kernel
theorem ddX10_begin_21 : decode cX10_begin 21 = .ok (.invokestatic 54, 3) := by decide +kernel
theorem ddX10_begin_24 : decode cX10_begin 24 = .ok (.aload_n 0, 1) := by decide +kernel
theorem ddX10_begin_25 : decode cX10_begin 25 = .ok (.getfield 30, 3) := by decide +kernel
theorem ddX10_begin_28 : decode cX10_begin 28 = .ok (.iconst (-1), 1) := by decide +kernel
theorem ddX10_begin_29 : decode cX10_begin 29 = .ok (.invokestatic 54, 3) := by decide +kernel
theorem ddX10_begin_32 : decode cX10_begin 32 = .ok (.return_, 1) := by decide +kernel
def wq_k_X10_begin : List Cond := Cond.code yX10_begin cX10_begin 1 none :: (([Cond.fieldLink RX10 21 "CrowToll$Watch" "count" "[I", Cond.methodLink RX10 54 yJ7_fill_53178, Cond.static yJ7_fill_53178, Cond.initialized RJ7, Cond.code yJ7_fill_53178 cJ7_fill_53178 4 none, Cond.fieldLink RX10 24 "CrowToll$Watch" "total" "[I", Cond.fieldLink RX10 27 "CrowToll$Watch" "lookedAt" "[I", Cond.fieldLink RX10 30 "CrowToll$Watch" "countedAt" "[I"] : List Cond) ++ wsX100)
set_option maxRecDepth 20000 in
theorem gr_k_X10_begin_k_fill_5 : GoodIn wq_k_X10_begin wq_k_fill_5 := List.forall_mem_cons.mpr ⟨⟨(List.mem_of_getElem? (i := 5) rfl), good_of_word rfl⟩, (fun _ h => absurd h List.not_mem_nil)⟩
set_option maxRecDepth 20000 in
theorem gq_k_X10_begin_k_fill_5_54 : GoodIn wq_k_X10_begin (va_wsS RX10 54 yJ7_fill_53178 wq_k_fill_5) := goodIn_app (List.forall_mem_cons.mpr ⟨⟨(List.mem_of_getElem? (i := 2) rfl), good_of_word rfl⟩, List.forall_mem_cons.mpr ⟨⟨(List.mem_of_getElem? (i := 3) rfl), good_of_word rfl⟩, List.forall_mem_cons.mpr ⟨⟨(List.mem_of_getElem? (i := 4) rfl), good_of_word rfl⟩, (fun _ h => absurd h List.not_mem_nil)⟩⟩⟩) gr_k_X10_begin_k_fill_5
set_option maxHeartbeats 8000000 in
set_option maxRecDepth 100000 in
theorem k_X10_begin (l : Launch) (D : va_G) (cy : Nat → ClassId) (ad : Nat → Nat) (g : Nat → va_E) {u0_0 : Value} {u0_1 : Value} {u0_2 : Value} {u0_3 : Value} {c1 : Nat → Int32} {c2 : Nat → Int32} {c3 : Nat → Int32} {c4 : Nat → Int32} (o0 : g 0 = .inr (10, [u0_0, u0_1, u0_2, u0_3, .ref (ad 1), .ref (ad 2), .ref (ad 3), .ref (ad 4)])) (a1 : g 1 = .inl (cy 0, 5, .inl c1)) (a2 : g 2 = .inl (cy 0, 5, .inl c2)) (a3 : g 3 = .inl (cy 0, 5, .inl c3)) (a4 : g 4 = .inl (cy 0, 5, .inl c4)) : cMv l yX10_begin wq_k_X10_begin { frames := 1, cells := 0, slots := 0, locals := 23 } 5 0 0 0 D cy ad g [.ref (ad 0)] (fun nw lu => ∃ (d1 : Nat → Int32) (d2 : Nat → Int32) (d3 : Nat → Int32) (d4 : Nat → Int32), lu = [(1, .inl (cy 0, 5, .inl d1)), (2, .inl (cy 0, 5, .inl d2)), (3, .inl (cy 0, 5, .inl d3)), (4, .inl (cy 0, 5, .inl d4))]) := by
  refine cM_of (Qc := fun A => cQv (fun nw lu => ∃ (d1 : Nat → Int32) (d2 : Nat → Int32) (d3 : Nat → Int32) (d4 : Nat → Int32), lu = [(1, .inl (cy 0, 5, .inl d1)), (2, .inl (cy 0, 5, .inl d2)), (3, .inl (cy 0, 5, .inl d3)), (4, .inl (cy 0, 5, .inl d4))]) D 5 0 ad g A) (cc := cX10_begin) (maxL := 1) (ret := none) (by decide) rfl (Nat.le_of_ble_eq_true rfl) ?_
  intro p e s m below meth c A hC hr hlk hnm hO ls hl
  have hC : CallFix p m c cX10_begin 1 s [.ref (ad 0)].toArray wq_k_X10_begin RX10 := hC
  obtain ⟨hx, hb, hml, hown, hts⟩ := id hC
  have hl : lv_has ls 1 [(0, .ref (ad 0))] := hl
  have i_X10 : ∀ w ∈ wsX100, w ∈ wq_k_X10_begin := fun w h => List.mem_cons_of_mem _ (List.mem_append_right _ h)
  have hO := hO.notes [(1, .inl (cy 0, 5, .inl c1)), (2, .inl (cy 0, 5, .inl c2)), (3, .inl (cy 0, 5, .inl c3)), (4, .inl (cy 0, 5, .inl c4))] (List.forall_mem_cons.mpr ⟨a1, List.forall_mem_cons.mpr ⟨a2, List.forall_mem_cons.mpr ⟨a3, List.forall_mem_cons.mpr ⟨a4, (fun _ h => absurd h List.not_mem_nil)⟩⟩⟩⟩)
  refine lv_aload_n hx hb ddX10_begin_0 rfl (lv_at hl 0 rfl) ?_
  refine cg_get hC hO 0 (by decide) o0 rfl i_X10 4 (by decide) (List.mem_of_getElem? (i := 1) rfl) rfl ddX10_begin_1 ?_
  refine lv_iconst (v := 0) hx hb ddX10_begin_4 (by decide) ?_
  refine cg_Sv (As := [.ref (ad 1), .int 0]) (rest := []) (mc := 0) (ms := 0) (rm := { frames := 0, cells := 0, slots := 0, locals := 0 }) hC hl.1 hO [1] (by decide +kernel) (k_fill_5 l D cy _ _ (c0 := c1) (x := 0) rfl) gq_k_X10_begin_k_fill_5_54 rfl rfl rfl 2 (by decide +kernel) ⟨Nat.le_of_ble_eq_true rfl, Nat.le_of_ble_eq_true rfl⟩ rfl rfl (Nat.le_of_ble_eq_true rfl) ddX10_begin_5 ⟨Nat.le_of_ble_eq_true rfl, Nat.le_of_ble_eq_true rfl⟩ (fun nw_5_33 l_5_34 H locs hw hO => ?_)
  obtain ⟨d0_5_36, rfl⟩ := hw
  have hO := hO.mrg (lk := [(1, .inl (cy 0, 5, .inl d0_5_36))]) (lm := [(1, .inl (cy 0, 5, .inl d0_5_36)), (2, .inl (cy 0, 5, .inl c2)), (3, .inl (cy 0, 5, .inl c3)), (4, .inl (cy 0, 5, .inl c4))]) rfl rfl rfl
  refine lv_aload_n hx hb ddX10_begin_8 rfl (lv_at hl 0 rfl) ?_
  refine cg_get hC hO 0 (by decide) o0 rfl i_X10 5 (by decide) (List.mem_of_getElem? (i := 6) rfl) rfl ddX10_begin_9 ?_
  refine lv_iconst (v := 0) hx hb ddX10_begin_12 (by decide) ?_
  refine cg_Sv (As := [.ref (ad 2), .int 0]) (rest := []) (mc := 0) (ms := 0) (rm := { frames := 0, cells := 0, slots := 0, locals := 0 }) hC hl.1 hO [2] (by decide +kernel) (k_fill_5 l D cy _ _ (c0 := c2) (x := 0) rfl) gq_k_X10_begin_k_fill_5_54 rfl rfl rfl 2 (by decide +kernel) ⟨Nat.le_of_ble_eq_true rfl, Nat.le_of_ble_eq_true rfl⟩ rfl rfl (Nat.le_of_ble_eq_true rfl) ddX10_begin_13 ⟨Nat.le_of_ble_eq_true rfl, Nat.le_of_ble_eq_true rfl⟩ (fun nw_13_37 l_13_38 H locs hw hO => ?_)
  obtain ⟨d0_13_40, rfl⟩ := hw
  have hO := hO.mrg (lk := [(2, .inl (cy 0, 5, .inl d0_13_40))]) (lm := [(1, .inl (cy 0, 5, .inl d0_5_36)), (2, .inl (cy 0, 5, .inl d0_13_40)), (3, .inl (cy 0, 5, .inl c3)), (4, .inl (cy 0, 5, .inl c4))]) rfl rfl rfl
  refine lv_aload_n hx hb ddX10_begin_16 rfl (lv_at hl 0 rfl) ?_
  refine cg_get hC hO 0 (by decide) o0 rfl i_X10 6 (by decide) (List.mem_of_getElem? (i := 7) rfl) rfl ddX10_begin_17 ?_
  refine lv_iconst (v := 0) hx hb ddX10_begin_20 (by decide) ?_
  refine cg_Sv (As := [.ref (ad 3), .int 0]) (rest := []) (mc := 0) (ms := 0) (rm := { frames := 0, cells := 0, slots := 0, locals := 0 }) hC hl.1 hO [3] (by decide +kernel) (k_fill_5 l D cy _ _ (c0 := c3) (x := 0) rfl) gq_k_X10_begin_k_fill_5_54 rfl rfl rfl 2 (by decide +kernel) ⟨Nat.le_of_ble_eq_true rfl, Nat.le_of_ble_eq_true rfl⟩ rfl rfl (Nat.le_of_ble_eq_true rfl) ddX10_begin_21 ⟨Nat.le_of_ble_eq_true rfl, Nat.le_of_ble_eq_true rfl⟩ (fun nw_21_41 l_21_42 H locs hw hO => ?_)
  obtain ⟨d0_21_44, rfl⟩ := hw
  have hO := hO.mrg (lk := [(3, .inl (cy 0, 5, .inl d0_21_44))]) (lm := [(1, .inl (cy 0, 5, .inl d0_5_36)), (2, .inl (cy 0, 5, .inl d0_13_40)), (3, .inl (cy 0, 5, .inl d0_21_44)), (4, .inl (cy 0, 5, .inl c4))]) rfl rfl rfl
  refine lv_aload_n hx hb ddX10_begin_24 rfl (lv_at hl 0 rfl) ?_
  refine cg_get hC hO 0 (by decide) o0 rfl i_X10 7 (by decide) (List.mem_of_getElem? (i := 8) rfl) rfl ddX10_begin_25 ?_
  refine lv_iconst (v := (-1)) hx hb ddX10_begin_28 (by decide) ?_
  refine cg_Sv (As := [.ref (ad 4), .int (-1)]) (rest := []) (mc := 0) (ms := 0) (rm := { frames := 0, cells := 0, slots := 0, locals := 0 }) hC hl.1 hO [4] (by decide +kernel) (k_fill_5 l D cy _ _ (c0 := c4) (x := (-1)) rfl) gq_k_X10_begin_k_fill_5_54 rfl rfl rfl 2 (by decide +kernel) ⟨Nat.le_of_ble_eq_true rfl, Nat.le_of_ble_eq_true rfl⟩ rfl rfl (Nat.le_of_ble_eq_true rfl) ddX10_begin_29 ⟨Nat.le_of_ble_eq_true rfl, Nat.le_of_ble_eq_true rfl⟩ (fun nw_29_45 l_29_46 H locs hw hO => ?_)
  obtain ⟨d0_29_48, rfl⟩ := hw
  have hO := hO.mrg (lk := [(4, .inl (cy 0, 5, .inl d0_29_48))]) (lm := [(1, .inl (cy 0, 5, .inl d0_5_36)), (2, .inl (cy 0, 5, .inl d0_13_40)), (3, .inl (cy 0, 5, .inl d0_21_44)), (4, .inl (cy 0, 5, .inl d0_29_48))]) rfl rfl rfl
  exact cg_vret (nw := fun _ => 0) hC hr hlk hO.same (Nat.le_of_ble_eq_true rfl) (Nat.le_of_ble_eq_true rfl) (⟨d0_5_36, d0_13_40, d0_21_44, d0_29_48, rfl⟩) ddX10_begin_32

theorem ddX10_sit_0 : decode cX10_sit 0 = .ok (.aload_n 1, 1) := by decide +kernel
theorem ddX10_sit_1 : decode cX10_sit 1 = .ok (.iconst 0, 1) := by decide +kernel
theorem ddX10_sit_2 : decode cX10_sit 2 = .ok (.aload_n 0, 1) := by decide +kernel
theorem ddX10_sit_3 : decode cX10_sit 3 = .ok (.getfield 9, 3) := by decide +kernel
theorem ddX10_sit_6 : decode cX10_sit 6 = .ok (.iconst 0, 1) := by decide +kernel
theorem ddX10_sit_7 : decode cX10_sit 7 = .ok (.iconst 5, 1) := by decide +kernel
theorem ddX10_sit_8 : decode cX10_sit 8 = .ok (.invokestatic 37, 3) := by decide +kernel
theorem ddX10_sit_11 : decode cX10_sit 11 = .ok (.aload_n 0, 1) := by decide +kernel
theorem ddX10_sit_12 : decode cX10_sit 12 = .ok (.getfield 33, 3) := by decide +kernel
theorem ddX10_sit_15 : decode cX10_sit 15 = .ok (.getfield 43, 3) := by decide +kernel
theorem ddX10_sit_18 : decode cX10_sit 18 = .ok (.iconst 0, 1) := by decide +kernel
theorem ddX10_sit_19 : decode cX10_sit 19 = .ok (.aload_n 0, 1) := by decide +kernel
theorem ddX10_sit_20 : decode cX10_sit 20 = .ok (.getfield 15, 3) := by decide +kernel
theorem ddX10_sit_23 : decode cX10_sit 23 = .ok (.iconst 0, 1) := by decide +kernel
theorem ddX10_sit_24 : decode cX10_sit 24 = .ok (.bipush 20, 2) := by decide +kernel
theorem ddX10_sit_26 : decode cX10_sit 26 = .ok (.invokestatic 37, 3) := by decide +kernel
theorem ddX10_sit_29 : decode cX10_sit 29 = .ok (.aload_n 0, 1) := by decide +kernel
theorem ddX10_sit_30 : decode cX10_sit 30 = .ok (.getfield 33, 3) := by decide +kernel
theorem ddX10_sit_33 : decode cX10_sit 33 = .ok (.getfield 46, 3) := by decide +kernel
theorem ddX10_sit_36 : decode cX10_sit 36 = .ok (.iconst 0, 1) := by decide +kernel
theorem ddX10_sit_37 : decode cX10_sit 37 = .ok (.aload_n 0, 1) := by decide +kernel
theorem ddX10_sit_38 : decode cX10_sit 38 = .ok (.getfield 18, 3) := by decide +kernel
theorem ddX10_sit_41 : decode cX10_sit 41 = .ok (.iconst 0, 1) := by decide +kernel
theorem ddX10_sit_42 : decode cX10_sit 42 = .ok (.iconst 4, 1) := by decide +kernel
theorem ddX10_sit_43 : decode cX10_sit 43 = .ok (.invokestatic 37, 3) := by decide +kernel
theorem ddX10_sit_46 : decode cX10_sit 46 = .ok (.aload_n 0, 1) := by decide +kernel
theorem ddX10_sit_47 : decode cX10_sit 47 = .ok (.invokevirtual 47, 3) := by decide +kernel
theorem ddX10_sit_50 : decode cX10_sit 50 = .ok (.return_, 1) := by decide +kernel
def wq_k_X10_sit : List Cond := Cond.code yX10_sit cX10_sit 2 none :: (([Cond.fieldLink RX10 9 "CrowToll$Watch" "limit" "[I", Cond.methodLink RX10 37 arraycopyName, Cond.native arraycopyName, Cond.static arraycopyName, Cond.initialized "java/lang/System", Cond.fieldLink RX10 33 "CrowToll$Watch" "road" "LCrowToll$Road;", Cond.fieldLink RX10 43 "CrowToll$Road" "seat" "[I", Cond.fieldLink RX10 15 "CrowToll$Watch" "seat" "[I", Cond.fieldLink RX10 46 "CrowToll$Road" "seated" "[I", Cond.fieldLink RX10 18 "CrowToll$Watch" "seated" "[I", Cond.methodLink RX10 47 yX10_begin, Cond.instanceMethod yX10_begin, Cond.selects RX10 yX10_begin yX10_begin, Cond.initialized RX10, Cond.code yX10_begin cX10_begin 1 none, Cond.fieldLink RX10 21 "CrowToll$Watch" "count" "[I", Cond.methodLink RX10 54 yJ7_fill_53178, Cond.static yJ7_fill_53178, Cond.initialized RJ7, Cond.code yJ7_fill_53178 cJ7_fill_53178 4 none, Cond.fieldLink RX10 24 "CrowToll$Watch" "total" "[I", Cond.fieldLink RX10 27 "CrowToll$Watch" "lookedAt" "[I", Cond.fieldLink RX10 30 "CrowToll$Watch" "countedAt" "[I"] : List Cond) ++ wsX70 ++ wsX100)
set_option maxRecDepth 20000 in
theorem gr_k_X10_sit_k_X10_begin : GoodIn wq_k_X10_sit wq_k_X10_begin := List.forall_mem_cons.mpr ⟨⟨(List.mem_of_getElem? (i := 15) rfl), good_of_word rfl⟩, List.forall_mem_append.mpr ⟨List.forall_mem_cons.mpr ⟨⟨(List.mem_of_getElem? (i := 16) rfl), good_of_word rfl⟩, List.forall_mem_cons.mpr ⟨⟨(List.mem_of_getElem? (i := 17) rfl), good_of_word rfl⟩, List.forall_mem_cons.mpr ⟨⟨(List.mem_of_getElem? (i := 18) rfl), good_of_word rfl⟩, List.forall_mem_cons.mpr ⟨⟨(List.mem_of_getElem? (i := 19) rfl), good_of_word rfl⟩, List.forall_mem_cons.mpr ⟨⟨(List.mem_of_getElem? (i := 20) rfl), good_of_word rfl⟩, List.forall_mem_cons.mpr ⟨⟨(List.mem_of_getElem? (i := 21) rfl), good_of_word rfl⟩, List.forall_mem_cons.mpr ⟨⟨(List.mem_of_getElem? (i := 22) rfl), good_of_word rfl⟩, List.forall_mem_cons.mpr ⟨⟨(List.mem_of_getElem? (i := 23) rfl), good_of_word rfl⟩, (fun _ h => absurd h List.not_mem_nil)⟩⟩⟩⟩⟩⟩⟩⟩, fun w h => ⟨(fun w h => List.mem_cons_of_mem _ (List.mem_append_right _ h)) w h, good_of_word (List.all_eq_true.mp gw_X10 w h)⟩⟩⟩
set_option maxRecDepth 20000 in
theorem gq_k_X10_sit_k_X10_begin_47 : GoodIn wq_k_X10_sit (wsV RX10 47 RX10 yX10_begin wq_k_X10_begin) := goodIn_app (List.forall_mem_cons.mpr ⟨⟨(List.mem_of_getElem? (i := 11) rfl), good_of_word rfl⟩, List.forall_mem_cons.mpr ⟨⟨(List.mem_of_getElem? (i := 12) rfl), good_of_word rfl⟩, List.forall_mem_cons.mpr ⟨⟨(List.mem_of_getElem? (i := 13) rfl), good_of_word rfl⟩, List.forall_mem_cons.mpr ⟨⟨(List.mem_of_getElem? (i := 14) rfl), good_of_word rfl⟩, (fun _ h => absurd h List.not_mem_nil)⟩⟩⟩⟩) gr_k_X10_sit_k_X10_begin
set_option maxHeartbeats 8000000 in
set_option maxRecDepth 100000 in
theorem k_X10_sit (l : Launch) (D : va_G) (cy : Nat → ClassId) (ad : Nat → Nat) (g : Nat → va_E) {c1 : Nat → Int32} {c2 : Nat → Int32} {u3_0 : Value} {u3_1 : Value} {u3_2 : Value} {u3_3 : Value} {u3_4 : Value} {u3_5 : Value} {u3_6 : Value} {u3_7 : Value} {u3_8 : Value} {u3_11 : Value} {u3_12 : Value} {u3_13 : Value} {u3_14 : Value} {u3_15 : Value} {u3_16 : Value} {u3_17 : Value} {c4 : Nat → Int32} {c5 : Nat → Int32} {c6 : Nat → Int32} {c7 : Nat → Int32} {c8 : Nat → Int32} {c9 : Nat → Int32} {c10 : Nat → Int32} {c11 : Nat → Int32} (o0 : g 0 = .inr (10, [.ref (ad 3), .ref (ad 2), .ref (ad 5), .ref (ad 7), .ref (ad 8), .ref (ad 9), .ref (ad 10), .ref (ad 11)])) (a1 : g 1 = .inl (cy 0, 5, .inl c1)) (a2 : g 2 = .inl (cy 0, 5, .inl c2)) (o3 : g 3 = .inr (7, [u3_0, u3_1, u3_2, u3_3, u3_4, u3_5, u3_6, u3_7, u3_8, .ref (ad 4), .ref (ad 6), u3_11, u3_12, u3_13, u3_14, u3_15, u3_16, u3_17])) (a4 : g 4 = .inl (cy 0, 20, .inl c4)) (a5 : g 5 = .inl (cy 0, 20, .inl c5)) (a6 : g 6 = .inl (cy 0, 4, .inl c6)) (a7 : g 7 = .inl (cy 0, 4, .inl c7)) (a8 : g 8 = .inl (cy 0, 5, .inl c8)) (a9 : g 9 = .inl (cy 0, 5, .inl c9)) (a10 : g 10 = .inl (cy 0, 5, .inl c10)) (a11 : g 11 = .inl (cy 0, 5, .inl c11)) (ha4 : za 0 4 c4) (ha5 : za 0 4 c5) (ha6 : za 0 5 c6) (ha7 : za 0 5 c7) : cMv l yX10_sit wq_k_X10_sit { frames := 2, cells := 0, slots := 0, locals := 60 } 12 0 0 0 D cy ad g [.ref (ad 0), .ref (ad 1)] (fun nw lu => ∃ (d2 : Nat → Int32) (d5 : Nat → Int32) (d7 : Nat → Int32) (d8 : Nat → Int32) (d9 : Nat → Int32) (d10 : Nat → Int32) (d11 : Nat → Int32), (za 0 4 d5) ∧ (za 0 5 d7) ∧ (lu = [(2, .inl (cy 0, 5, .inl d2)), (5, .inl (cy 0, 20, .inl d5)), (7, .inl (cy 0, 4, .inl d7)), (8, .inl (cy 0, 5, .inl d8)), (9, .inl (cy 0, 5, .inl d9)), (10, .inl (cy 0, 5, .inl d10)), (11, .inl (cy 0, 5, .inl d11))])) := by
  refine cM_of (Qc := fun A => cQv (fun nw lu => ∃ (d2 : Nat → Int32) (d5 : Nat → Int32) (d7 : Nat → Int32) (d8 : Nat → Int32) (d9 : Nat → Int32) (d10 : Nat → Int32) (d11 : Nat → Int32), (za 0 4 d5) ∧ (za 0 5 d7) ∧ (lu = [(2, .inl (cy 0, 5, .inl d2)), (5, .inl (cy 0, 20, .inl d5)), (7, .inl (cy 0, 4, .inl d7)), (8, .inl (cy 0, 5, .inl d8)), (9, .inl (cy 0, 5, .inl d9)), (10, .inl (cy 0, 5, .inl d10)), (11, .inl (cy 0, 5, .inl d11))])) D 12 0 ad g A) (cc := cX10_sit) (maxL := 2) (ret := none) (by decide) rfl (Nat.le_of_ble_eq_true rfl) ?_
  intro p e s m below meth c A hC hr hlk hnm hO ls hl
  have hC : CallFix p m c cX10_sit 2 s [.ref (ad 0), .ref (ad 1)].toArray wq_k_X10_sit RX10 := hC
  obtain ⟨hx, hb, hml, hown, hts⟩ := id hC
  have hl : lv_has ls 2 [(0, .ref (ad 0)), (1, .ref (ad 1))] := hl
  have i_X10 : ∀ w ∈ wsX100, w ∈ wq_k_X10_sit := fun w h => List.mem_cons_of_mem _ (List.mem_append_right _ h)
  have i_X7 : ∀ w ∈ wsX70, w ∈ wq_k_X10_sit := fun w h => List.mem_cons_of_mem _ (List.mem_append_left _ (List.mem_append_right _ h))
  have hO := hO.notes [(2, .inl (cy 0, 5, .inl c2)), (5, .inl (cy 0, 20, .inl c5)), (7, .inl (cy 0, 4, .inl c7)), (8, .inl (cy 0, 5, .inl c8)), (9, .inl (cy 0, 5, .inl c9)), (10, .inl (cy 0, 5, .inl c10)), (11, .inl (cy 0, 5, .inl c11))] (List.forall_mem_cons.mpr ⟨a2, List.forall_mem_cons.mpr ⟨a5, List.forall_mem_cons.mpr ⟨a7, List.forall_mem_cons.mpr ⟨a8, List.forall_mem_cons.mpr ⟨a9, List.forall_mem_cons.mpr ⟨a10, List.forall_mem_cons.mpr ⟨a11, (fun _ h => absurd h List.not_mem_nil)⟩⟩⟩⟩⟩⟩⟩)
  refine lv_aload_n hx hb ddX10_sit_0 rfl (lv_at hl 1 rfl) ?_
  refine lv_iconst (v := 0) hx hb ddX10_sit_1 (by decide) ?_
  refine lv_aload_n hx hb ddX10_sit_2 rfl (lv_at hl 0 rfl) ?_
  refine cg_get hC hO 0 (by decide) o0 rfl i_X10 1 (by decide) (List.mem_of_getElem? (i := 1) rfl) rfl ddX10_sit_3 ?_
  refine lv_iconst (v := 0) hx hb ddX10_sit_6 (by decide) ?_
  refine lv_iconst (v := 5) hx hb ddX10_sit_7 (by decide) ?_
  refine zg_copy (a := (-2147483648)) (b := 2147483647) hC hl.1 hO (List.mem_of_getElem? (i := 2) rfl) (List.mem_of_getElem? (i := 3) rfl) (List.mem_of_getElem? (i := 4) rfl) (List.mem_of_getElem? (i := 5) rfl) 1 2 (by decide) (by decide) a1 rfl (za_all _) (za_all _) (zi_k (a := 0) (b := 0) (x := 0) rfl) (zi_k (a := 0) (b := 0) (x := 0) rfl) (zi_k (a := 5) (b := 5) (x := 5) rfl) (by decide) (Nat.le_of_ble_eq_true rfl) (Nat.le_of_ble_eq_true rfl) ddX10_sit_8 (fun H locs c_8_27 zc_8_28 hO => ?_)
  have hO : cO D cy A s.heap s 12 ad (cup [(2, .inl (cy 0, 5, .inl c_8_27)), (5, .inl (cy 0, 20, .inl c5)), (7, .inl (cy 0, 4, .inl c7)), (8, .inl (cy 0, 5, .inl c8)), (9, .inl (cy 0, 5, .inl c9)), (10, .inl (cy 0, 5, .inl c10)), (11, .inl (cy 0, 5, .inl c11))] g) _ _ := hO
  refine lv_aload_n hx hb ddX10_sit_11 rfl (lv_at hl 0 rfl) ?_
  refine cg_get hC hO 0 (by decide) o0 rfl i_X10 0 (by decide) (List.mem_of_getElem? (i := 6) rfl) rfl ddX10_sit_12 ?_
  refine cg_get hC hO 3 (by decide) o3 rfl i_X7 9 (by decide) (List.mem_of_getElem? (i := 7) rfl) rfl ddX10_sit_15 ?_
  refine lv_iconst (v := 0) hx hb ddX10_sit_18 (by decide) ?_
  refine lv_aload_n hx hb ddX10_sit_19 rfl (lv_at hl 0 rfl) ?_
  refine cg_get hC hO 0 (by decide) o0 rfl i_X10 2 (by decide) (List.mem_of_getElem? (i := 8) rfl) rfl ddX10_sit_20 ?_
  refine lv_iconst (v := 0) hx hb ddX10_sit_23 (by decide) ?_
  refine lv_bipush (v := 20) hx hb ddX10_sit_24 (by decide) ?_
  refine zg_copy (a := 0) (b := 4) hC hl.1 hO (List.mem_of_getElem? (i := 2) rfl) (List.mem_of_getElem? (i := 3) rfl) (List.mem_of_getElem? (i := 4) rfl) (List.mem_of_getElem? (i := 5) rfl) 4 5 (by decide) (by decide) a4 rfl ha4 ha5 (zi_k (a := 0) (b := 0) (x := 0) rfl) (zi_k (a := 0) (b := 0) (x := 0) rfl) (zi_k (a := 20) (b := 20) (x := 20) rfl) (by decide) (Nat.le_of_ble_eq_true rfl) (Nat.le_of_ble_eq_true rfl) ddX10_sit_26 (fun H locs c_26_29 zc_26_30 hO => ?_)
  have hO : cO D cy A s.heap s 12 ad (cup [(2, .inl (cy 0, 5, .inl c_8_27)), (5, .inl (cy 0, 20, .inl c_26_29)), (7, .inl (cy 0, 4, .inl c7)), (8, .inl (cy 0, 5, .inl c8)), (9, .inl (cy 0, 5, .inl c9)), (10, .inl (cy 0, 5, .inl c10)), (11, .inl (cy 0, 5, .inl c11))] g) _ _ := hO
  refine lv_aload_n hx hb ddX10_sit_29 rfl (lv_at hl 0 rfl) ?_
  refine cg_get hC hO 0 (by decide) o0 rfl i_X10 0 (by decide) (List.mem_of_getElem? (i := 6) rfl) rfl ddX10_sit_30 ?_
  refine cg_get hC hO 3 (by decide) o3 rfl i_X7 10 (by decide) (List.mem_of_getElem? (i := 9) rfl) rfl ddX10_sit_33 ?_
  refine lv_iconst (v := 0) hx hb ddX10_sit_36 (by decide) ?_
  refine lv_aload_n hx hb ddX10_sit_37 rfl (lv_at hl 0 rfl) ?_
  refine cg_get hC hO 0 (by decide) o0 rfl i_X10 3 (by decide) (List.mem_of_getElem? (i := 10) rfl) rfl ddX10_sit_38 ?_
  refine lv_iconst (v := 0) hx hb ddX10_sit_41 (by decide) ?_
  refine lv_iconst (v := 4) hx hb ddX10_sit_42 (by decide) ?_
  refine zg_copy (a := 0) (b := 5) hC hl.1 hO (List.mem_of_getElem? (i := 2) rfl) (List.mem_of_getElem? (i := 3) rfl) (List.mem_of_getElem? (i := 4) rfl) (List.mem_of_getElem? (i := 5) rfl) 6 7 (by decide) (by decide) a6 rfl ha6 ha7 (zi_k (a := 0) (b := 0) (x := 0) rfl) (zi_k (a := 0) (b := 0) (x := 0) rfl) (zi_k (a := 4) (b := 4) (x := 4) rfl) (by decide) (Nat.le_of_ble_eq_true rfl) (Nat.le_of_ble_eq_true rfl) ddX10_sit_43 (fun H locs c_43_31 zc_43_32 hO => ?_)
  have hO : cO D cy A s.heap s 12 ad (cup [(2, .inl (cy 0, 5, .inl c_8_27)), (5, .inl (cy 0, 20, .inl c_26_29)), (7, .inl (cy 0, 4, .inl c_43_31)), (8, .inl (cy 0, 5, .inl c8)), (9, .inl (cy 0, 5, .inl c9)), (10, .inl (cy 0, 5, .inl c10)), (11, .inl (cy 0, 5, .inl c11))] g) _ _ := hO
  refine lv_aload_n hx hb ddX10_sit_46 rfl (lv_at hl 0 rfl) ?_
  refine cg_Vv (As := []) (rest := []) (mc := 0) (ms := 0) (rm := { frames := 1, cells := 0, slots := 0, locals := 23 }) hC hl.1 hO [0, 8, 9, 10, 11] (by decide +kernel) (k_X10_begin l D cy _ _ (u0_0 := .ref (ad 3)) (u0_1 := .ref (ad 2)) (u0_2 := .ref (ad 5)) (u0_3 := .ref (ad 7)) (c1 := c8) (c2 := c9) (c3 := c10) (c4 := c11) o0 rfl rfl rfl rfl) gq_k_X10_sit_k_X10_begin_47 rfl rfl rfl 0 (by decide +kernel) ⟨Nat.le_of_ble_eq_true rfl, Nat.le_of_ble_eq_true rfl⟩ rfl (by decide) o0 rfl rfl (Nat.le_of_ble_eq_true rfl) ddX10_sit_47 ⟨Nat.le_of_ble_eq_true rfl, Nat.le_of_ble_eq_true rfl⟩ (fun nw_47_33 l_47_34 H locs hw hO => ?_)
  obtain ⟨d1_47_36, d2_47_37, d3_47_38, d4_47_39, rfl⟩ := hw
  have hO := hO.mrg (lk := [(8, .inl (cy 0, 5, .inl d1_47_36)), (9, .inl (cy 0, 5, .inl d2_47_37)), (10, .inl (cy 0, 5, .inl d3_47_38)), (11, .inl (cy 0, 5, .inl d4_47_39))]) (lm := [(2, .inl (cy 0, 5, .inl c_8_27)), (5, .inl (cy 0, 20, .inl c_26_29)), (7, .inl (cy 0, 4, .inl c_43_31)), (8, .inl (cy 0, 5, .inl d1_47_36)), (9, .inl (cy 0, 5, .inl d2_47_37)), (10, .inl (cy 0, 5, .inl d3_47_38)), (11, .inl (cy 0, 5, .inl d4_47_39))]) rfl rfl rfl
  exact cg_vret (nw := fun _ => 0) hC hr hlk hO.same (Nat.le_of_ble_eq_true rfl) (Nat.le_of_ble_eq_true rfl) (⟨c_8_27, c_26_29, c_43_31, d1_47_36, d2_47_37, d3_47_38, d4_47_39, zc_26_30, zc_43_32, rfl⟩) ddX10_sit_50

theorem ddX10_seatSet_0 : decode cX10_seatSet 0 = .ok (.aload_n 0, 1) := by decide +kernel
theorem ddX10_seatSet_1 : decode cX10_seatSet 1 = .ok (.getfield 18, 3) := by decide +kernel
theorem ddX10_seatSet_4 : decode cX10_seatSet 4 = .ok (.iload_n 1, 1) := by decide +kernel
theorem ddX10_seatSet_5 : decode cX10_seatSet 5 = .ok (.iconst 0, 1) := by decide +kernel
theorem ddX10_seatSet_6 : decode cX10_seatSet 6 = .ok (.iastore, 1) := by decide +kernel
theorem ddX10_seatSet_7 : decode cX10_seatSet 7 = .ok (.iconst 0, 1) := by decide +kernel
theorem ddX10_seatSet_8 : decode cX10_seatSet 8 = .ok (.istore_n 3, 1) := by decide +kernel
theorem ddX10_seatSet_9 : decode cX10_seatSet 9 = .ok (.iload_n 3, 1) := by decide +kernel
theorem ddX10_seatSet_10 : decode cX10_seatSet 10 = .ok (.iconst 5, 1) := by decide +kernel
theorem ddX10_seatSet_11 : decode cX10_seatSet 11 = .ok (.if_icmp .ge 43, 3) := by decide +kernel
theorem ddX10_seatSet_14 : decode cX10_seatSet 14 = .ok (.iload_n 2, 1) := by decide +kernel
theorem ddX10_seatSet_15 : decode cX10_seatSet 15 = .ok (.iload_n 3, 1) := by decide +kernel
theorem ddX10_seatSet_16 : decode cX10_seatSet 16 = .ok (.invokestatic 50, 3) := by decide +kernel
theorem ddX10_seatSet_19 : decode cX10_seatSet 19 = .ok (.ifCond .eq 29, 3) := by decide +kernel
theorem ddX10_seatSet_22 : decode cX10_seatSet 22 = .ok (.aload_n 0, 1) := by decide +kernel
theorem ddX10_seatSet_23 : decode cX10_seatSet 23 = .ok (.getfield 15, 3) := by decide +kernel
theorem ddX10_seatSet_26 : decode cX10_seatSet 26 = .ok (.iload_n 1, 1) := by decide +kernel
theorem ddX10_seatSet_27 : decode cX10_seatSet 27 = .ok (.iconst 5, 1) := by decide +kernel
theorem ddX10_seatSet_28 : decode cX10_seatSet 28 = .ok (.imul, 1) := by decide +kernel
theorem ddX10_seatSet_29 : decode cX10_seatSet 29 = .ok (.aload_n 0, 1) := by decide +kernel
theorem ddX10_seatSet_30 : decode cX10_seatSet 30 = .ok (.getfield 18, 3) := by decide +kernel
theorem ddX10_seatSet_33 : decode cX10_seatSet 33 = .ok (.iload_n 1, 1) := by decide +kernel
theorem ddX10_seatSet_34 : decode cX10_seatSet 34 = .ok (.iaload, 1) := by decide +kernel
theorem ddX10_seatSet_35 : decode cX10_seatSet 35 = .ok (.iadd, 1) := by decide +kernel
theorem ddX10_seatSet_36 : decode cX10_seatSet 36 = .ok (.iload_n 3, 1) := by decide +kernel
theorem ddX10_seatSet_37 : decode cX10_seatSet 37 = .ok (.iastore, 1) := by decide +kernel
theorem ddX10_seatSet_38 : decode cX10_seatSet 38 = .ok (.aload_n 0, 1) := by decide +kernel
theorem ddX10_seatSet_39 : decode cX10_seatSet 39 = .ok (.getfield 18, 3) := by decide +kernel
theorem ddX10_seatSet_42 : decode cX10_seatSet 42 = .ok (.iload_n 1, 1) := by decide +kernel
theorem ddX10_seatSet_43 : decode cX10_seatSet 43 = .ok (.dup2, 1) := by decide +kernel
theorem ddX10_seatSet_44 : decode cX10_seatSet 44 = .ok (.iaload, 1) := by decide +kernel
theorem ddX10_seatSet_45 : decode cX10_seatSet 45 = .ok (.iconst 1, 1) := by decide +kernel
theorem ddX10_seatSet_46 : decode cX10_seatSet 46 = .ok (.iadd, 1) := by decide +kernel
theorem ddX10_seatSet_47 : decode cX10_seatSet 47 = .ok (.iastore, 1) := by decide +kernel
theorem ddX10_seatSet_48 : decode cX10_seatSet 48 = .ok (.iinc 3 1, 3) := by decide +kernel
theorem ddX10_seatSet_51 : decode cX10_seatSet 51 = .ok (.goto (-42), 3) := by decide +kernel
theorem ddX10_seatSet_54 : decode cX10_seatSet 54 = .ok (.return_, 1) := by decide +kernel
def wq_k_X10_seatSet : List Cond := Cond.code yX10_seatSet cX10_seatSet 4 none :: (([Cond.fieldLink RX10 18 "CrowToll$Watch" "seated" "[I", Cond.code yX11_has cX11_has 2 (some .boolean), Cond.static yX11_has, Cond.initialized RX11, Cond.fieldLink RX10 15 "CrowToll$Watch" "seat" "[I"] : List Cond) ++ wsX100)
set_option maxRecDepth 20000 in
theorem gr_k_X10_seatSet_k_X11_has : GoodIn wq_k_X10_seatSet wq_k_X11_has := List.forall_mem_cons.mpr ⟨⟨(List.mem_of_getElem? (i := 2) rfl), good_of_word rfl⟩, (fun _ h => absurd h List.not_mem_nil)⟩
theorem gq_k_X10_seatSet_k_X11_has : GoodIn wq_k_X10_seatSet wq_k_X11_has := gr_k_X10_seatSet_k_X11_has
set_option maxHeartbeats 8000000 in
set_option maxRecDepth 100000 in
theorem k_X10_seatSet (l : Launch) (D : va_G) (cy : Nat → ClassId) (ad : Nat → Nat) (g : Nat → va_E) {u0_0 : Value} {u0_1 : Value} {u0_4 : Value} {u0_5 : Value} {u0_6 : Value} {u0_7 : Value} {c1 : Nat → Int32} {c2 : Nat → Int32} {post : Int32} {set : Int32} (o0 : g 0 = .inr (10, [u0_0, u0_1, .ref (ad 2), .ref (ad 1), u0_4, u0_5, u0_6, u0_7])) (a1 : g 1 = .inl (cy 0, 4, .inl c1)) (a2 : g 2 = .inl (cy 0, 20, .inl c2)) (ha1 : za 0 5 c1) (ha2 : za 0 4 c2) (p_post : zi 0 3 post) : cMv l yX10_seatSet wq_k_X10_seatSet { frames := 1, cells := 0, slots := 0, locals := 21 } 3 0 0 0 D cy ad g [.ref (ad 0), .int post, .int set] (fun nw lu => ∃ (d1 : Nat → Int32) (d2 : Nat → Int32), (za 0 5 d1) ∧ (za 0 4 d2) ∧ (lu = [(1, .inl (cy 0, 4, .inl d1)), (2, .inl (cy 0, 20, .inl d2))])) := by
  refine cM_of (Qc := fun A => cQv (fun nw lu => ∃ (d1 : Nat → Int32) (d2 : Nat → Int32), (za 0 5 d1) ∧ (za 0 4 d2) ∧ (lu = [(1, .inl (cy 0, 4, .inl d1)), (2, .inl (cy 0, 20, .inl d2))])) D 3 0 ad g A) (cc := cX10_seatSet) (maxL := 4) (ret := none) (by decide) rfl (Nat.le_of_ble_eq_true rfl) ?_
  intro p e s m below meth c A hC hr hlk hnm hO ls hl
  have hC : CallFix p m c cX10_seatSet 4 s [.ref (ad 0), .int post, .int set].toArray wq_k_X10_seatSet RX10 := hC
  obtain ⟨hx, hb, hml, hown, hts⟩ := id hC
  have hl : lv_has ls 4 [(0, .ref (ad 0)), (1, .int post), (2, .int set)] := hl
  have i_X10 : ∀ w ∈ wsX100, w ∈ wq_k_X10_seatSet := fun w h => List.mem_cons_of_mem _ (List.mem_append_right _ h)
  have hO := hO.notes [(1, .inl (cy 0, 4, .inl c1)), (2, .inl (cy 0, 20, .inl c2))] (List.forall_mem_cons.mpr ⟨a1, List.forall_mem_cons.mpr ⟨a2, (fun _ h => absurd h List.not_mem_nil)⟩⟩)
  refine lv_aload_n hx hb ddX10_seatSet_0 rfl (lv_at hl 0 rfl) ?_
  refine cg_get hC hO 0 (by decide) o0 rfl i_X10 3 (by decide) (List.mem_of_getElem? (i := 1) rfl) rfl ddX10_seatSet_1 ?_
  refine lv_iload_n hx hb ddX10_seatSet_4 rfl (lv_at hl 1 rfl) ?_
  refine lv_iconst (v := 0) hx hb ddX10_seatSet_5 (by decide) ?_
  refine zg_iastE hC hO 1 (by decide) rfl ha1 (zi_k (a := 0) (b := 5) (x := 0) rfl) (zi_in p_post (by decide)) ddX10_seatSet_6 (fun H locs c_6_554 zc_6_555 el_6_556 hO => ?_)
  have hO : cO D cy A s.heap s 3 ad (cup [(1, .inl (cy 0, 4, .inl c_6_554)), (2, .inl (cy 0, 20, .inl c2))] g) _ _ := hO
  refine lv_iconst (v := 0) hx hb ddX10_seatSet_7 (by decide) ?_
  refine lv_istore_n (lv' := [(3, .int 0), (0, .ref (ad 0)), (1, .int post), (2, .int set)]) hx hb ddX10_seatSet_8 rfl hl (by decide) rfl (fun ls hl => ?_)
  have loop_9_865 : ∀ (d_9_866 : Nat) (v_9_815 : Int32) (c_9_817 : Nat → Int32) (v_9_819 : Int32) (c_9_822 : Nat → Int32), zi 0 5 v_9_815 → za 0 5 c_9_817 → zi 0 5 v_9_819 → c_9_817 (post : Int32).toNatClampNeg = v_9_819 → za 0 4 c_9_822 → (v_9_819 : Int32).toInt ≤ (v_9_815 : Int32).toInt → (5 + 1 - v_9_815.toInt).toNat < d_9_866 → ∀ (H : Heap) (locs : List Loc), cO D cy A s.heap s 3 ad (cup [(1, .inl (cy 0, 4, .inl c_9_817)), (2, .inl (cy 0, 20, .inl c_9_822))] g) H locs → ∀ ls : Array Slot, lv_has ls 4 [(3, .int v_9_815), (0, .ref (ad 0)), (1, .int post), (2, .int set)] → W p l e { frames := 1, cells := 0, slots := 0, locals := 21 } s m [.ref (ad 0), .int post, .int set].toArray below meth c H locs 0 0 (MQ below (cQv (fun nw lu => ∃ (d1 : Nat → Int32) (d2 : Nat → Int32), (za 0 5 d1) ∧ (za 0 4 d2) ∧ (lu = [(1, .inl (cy 0, 4, .inl d1)), (2, .inl (cy 0, 20, .inl d2))])) D 3 0 ad g A) [.ref (ad 0), .int post, .int set].toArray s 0 0 A) (F0 m 9 ls [])  := by
    intro d_9_866
    induction d_9_866 with
    | zero => intro v_9_815 c_9_817 v_9_819 c_9_822 z_9_816 zc_9_818 z_9_820 el_9_821 zc_9_823 q_9_824 mu_9_867; exact absurd mu_9_867 (Nat.not_lt_zero _)
    | succ d_9_866 ih_9_868 =>
      intro v_9_815 c_9_817 v_9_819 c_9_822 z_9_816 zc_9_818 z_9_820 el_9_821 zc_9_823 q_9_824 mu_9_867 H locs hO ls hl
      refine lv_iload_n hx hb ddX10_seatSet_9 rfl (lv_at hl 0 rfl) ?_
      refine lv_iconst (v := 5) hx hb ddX10_seatSet_10 (by decide) ?_
      refine lv_icmp_ge (tgt := 54) hx hb ddX10_seatSet_11 (by decide) (fun h_11_869 => ?_) (fun h_11_869 => ?_)
      · have q_11_870 := zr_le h_11_869
        have z_11_871 : zi 5 5 v_9_815 := zd_le q_11_870 (zi_k (a := 5) (b := 5) (x := 5) rfl) z_9_816 (by decide)
        exact cg_vret (nw := fun _ => 0) hC hr hlk hO.same (Nat.le_of_ble_eq_true rfl) (Nat.le_of_ble_eq_true rfl) (⟨c_9_817, c_9_822, zc_9_818, zc_9_823, rfl⟩) ddX10_seatSet_54
      · have q_11_872 := zr_nle h_11_869
        have z_11_873 : zi 0 4 v_9_815 := zu_lt q_11_872 z_9_816 (zi_k (a := 5) (b := 5) (x := 5) rfl) (by decide)
        have z_11_874 : zi 0 4 v_9_819 := zu_le q_9_824 z_9_820 z_11_873 (by decide)
        refine lv_iload_n hx hb ddX10_seatSet_14 rfl (lv_at hl 3 rfl) ?_
        refine lv_iload_n hx hb ddX10_seatSet_15 rfl (lv_at hl 0 rfl) ?_
        refine cg_Ni (As := [.int set, .int v_9_815]) (rest := []) (mc := 0) (ms := 0) (rm := { frames := 0, cells := 0, slots := 0, locals := 0 }) hC hl.1 hO [] (by decide +kernel) (k_X11_has l D cy _ _ (bits := set) (q := v_9_815) ) gq_k_X10_seatSet_k_X11_has rfl rfl rfl (host := "CrowToll") (nestL_mem_13) (List.mem_of_getElem? (i := 3) rfl) (List.mem_of_getElem? (i := 4) rfl) 2 (by decide +kernel) ⟨Nat.le_of_ble_eq_true rfl, Nat.le_of_ble_eq_true rfl⟩ rfl rfl (Nat.le_of_ble_eq_true rfl) ddX10_seatSet_16 ⟨Nat.le_of_ble_eq_true rfl, Nat.le_of_ble_eq_true rfl⟩ (fun r_16_877 nw_16_875 l_16_876 H locs hw hO => ?_)
        obtain ⟨z_16_878, rfl⟩ := hw
        have hO : cO D cy A s.heap s 3 ad (cup [(1, .inl (cy 0, 4, .inl c_9_817)), (2, .inl (cy 0, 20, .inl c_9_822))] g) _ _ := hO
        refine lv_if_eq (tgt := 48) hx hb ddX10_seatSet_19 (by decide) (fun h_19_879 => ?_) (fun h_19_879 => ?_)
        · have q_19_880 := zr_eq h_19_879
          have z_19_881 : zi 0 0 r_16_877 := ze_eq q_19_880 z_16_878 (zi_k (a := 0) (b := 0) (x := 0) rfl)
          obtain ⟨v_48_882, e_48_883, z_48_884, q_48_885⟩ := zi_inc (e := 1) (f := 5) 1 z_11_873 (by decide)
          refine lv_iinc (v := v_48_882) (lv' := [(3, .int v_48_882), (0, .ref (ad 0)), (1, .int post), (2, .int set)]) hx hb ddX10_seatSet_48 hl (k := 0) rfl e_48_883 (by decide) rfl (fun ls hl => ?_)
          refine lv_goto (tgt := 9) hx hb ddX10_seatSet_51 (by decide) ?_
          exact ih_9_868 v_48_882 c_9_817 v_9_819 c_9_822 (zi_w (c := 0) (d := 5) z_48_884 (by decide)) zc_9_818 (zi_w (c := 0) (d := 5) z_11_874 (by decide)) el_9_821 zc_9_823 (show (v_9_819 : Int32).toInt ≤ (v_48_882 : Int32).toInt by omega) (zm_up q_48_885 ((zi_w (c := 0) (d := 5) z_48_884 (by decide))).2 (by decide) mu_9_867) _ _ hO ls (lv_sub hl [0, 1, 2, 3] rfl)
        · have q_19_886 := zr_ne h_19_879
          have z_19_887 : zi 1 1 r_16_877 := zn_lo q_19_886 z_16_878 (zi_k (a := 0) (b := 0) (x := 0) rfl) (by decide)
          refine lv_aload_n hx hb ddX10_seatSet_22 rfl (lv_at hl 1 rfl) ?_
          refine cg_get hC hO 0 (by decide) o0 rfl i_X10 2 (by decide) (List.mem_of_getElem? (i := 5) rfl) rfl ddX10_seatSet_23 ?_
          refine lv_iload_n hx hb ddX10_seatSet_26 rfl (lv_at hl 2 rfl) ?_
          refine lv_iconst (v := 5) hx hb ddX10_seatSet_27 (by decide) ?_
          refine lv_imul hx hb ddX10_seatSet_28 ?_
          refine zg_top (P := fun v => zi 0 15 v) ((zi_mul p_post (zi_k (a := 5) (b := 5) (x := 5) rfl) (by decide)).1) (fun v_28_888 z_28_889 => ?_)
          refine lv_aload_n hx hb ddX10_seatSet_29 rfl (lv_at hl 1 rfl) ?_
          refine cg_get hC hO 0 (by decide) o0 rfl i_X10 3 (by decide) (List.mem_of_getElem? (i := 1) rfl) rfl ddX10_seatSet_30 ?_
          refine lv_iload_n hx hb ddX10_seatSet_33 rfl (lv_at hl 2 rfl) ?_
          refine cg_iald hC hO 1 (by decide) rfl (zi_in p_post (by decide)) ddX10_seatSet_34 ?_
          refine cg_ev (v := v_9_819) el_9_821 ?_
          refine lv_iadd hx hb ddX10_seatSet_35 ?_
          refine zg_top2 (P := fun v => zi 0 19 v) (E := fun v => v.toInt = (v_28_888 : Int32).toInt + (v_9_819 : Int32).toInt) (zi_add z_28_889 z_11_874 (by decide)) (fun v_35_892 z_35_893 q_35_894 => ?_)
          refine lv_iload_n hx hb ddX10_seatSet_36 rfl (lv_at hl 0 rfl) ?_
          refine zg_iast hC hO 2 (by decide) rfl zc_9_823 z_11_873 (zi_in z_35_893 (by decide)) ddX10_seatSet_37 (fun H locs c_37_895 zc_37_896 hO => ?_)
          have hO : cO D cy A s.heap s 3 ad (cup [(1, .inl (cy 0, 4, .inl c_9_817)), (2, .inl (cy 0, 20, .inl c_37_895))] g) _ _ := hO
          refine lv_aload_n hx hb ddX10_seatSet_38 rfl (lv_at hl 1 rfl) ?_
          refine cg_get hC hO 0 (by decide) o0 rfl i_X10 3 (by decide) (List.mem_of_getElem? (i := 1) rfl) rfl ddX10_seatSet_39 ?_
          refine lv_iload_n hx hb ddX10_seatSet_42 rfl (lv_at hl 2 rfl) ?_
          refine lv_dup2_11 hx hb ddX10_seatSet_43 rfl rfl ?_
          refine cg_iald hC hO 1 (by decide) rfl (zi_in p_post (by decide)) ddX10_seatSet_44 ?_
          refine cg_ev (v := v_9_819) el_9_821 ?_
          refine lv_iconst (v := 1) hx hb ddX10_seatSet_45 (by decide) ?_
          refine lv_iadd hx hb ddX10_seatSet_46 ?_
          refine zg_top2 (P := fun v => zi 1 5 v) (E := fun v => v.toInt = v_9_819.toInt + 1) (zi_addk z_11_874 (n := 1) (by decide) (by decide)) (fun v_46_899 z_46_900 q_46_901 => ?_)
          refine zg_iastE hC hO 1 (by decide) rfl zc_9_818 (zi_w (c := 0) (d := 5) z_46_900 (by decide)) (zi_in p_post (by decide)) ddX10_seatSet_47 (fun H locs c_47_902 zc_47_903 el_47_904 hO => ?_)
          have hO : cO D cy A s.heap s 3 ad (cup [(1, .inl (cy 0, 4, .inl c_47_902)), (2, .inl (cy 0, 20, .inl c_37_895))] g) _ _ := hO
          obtain ⟨v_48_905, e_48_906, z_48_907, q_48_908⟩ := zi_inc (e := 1) (f := 5) 1 z_11_873 (by decide)
          refine lv_iinc (v := v_48_905) (lv' := [(3, .int v_48_905), (0, .ref (ad 0)), (1, .int post), (2, .int set)]) hx hb ddX10_seatSet_48 hl (k := 0) rfl e_48_906 (by decide) rfl (fun ls hl => ?_)
          refine lv_goto (tgt := 9) hx hb ddX10_seatSet_51 (by decide) ?_
          exact ih_9_868 v_48_905 c_47_902 v_46_899 c_37_895 (zi_w (c := 0) (d := 5) z_48_907 (by decide)) zc_47_903 (zi_w (c := 0) (d := 5) z_46_900 (by decide)) el_47_904 zc_37_896 (show (v_46_899 : Int32).toInt ≤ (v_48_905 : Int32).toInt by omega) (zm_up q_48_908 ((zi_w (c := 0) (d := 5) z_48_907 (by decide))).2 (by decide) mu_9_867) _ _ hO ls (lv_sub hl [0, 1, 2, 3] rfl)
  exact loop_9_865 ((5 + 1 - (0 : Int32).toInt).toNat + 1) 0 c_6_554 0 c2 (zi_k (a := 0) (b := 5) (x := 0) rfl) zc_6_555 (zi_k (a := 0) (b := 5) (x := 0) rfl) el_6_556 ha2 (by decide) (Nat.lt_succ_self _) _ _ hO ls (lv_sub hl [0, 1, 2, 3] rfl)

theorem ddX10_look_0 : decode cX10_look 0 = .ok (.iconst 0, 1) := by decide +kernel
theorem ddX10_look_1 : decode cX10_look 1 = .ok (.istore_n 3, 1) := by decide +kernel
theorem ddX10_look_2 : decode cX10_look 2 = .ok (.iload_n 3, 1) := by decide +kernel
theorem ddX10_look_3 : decode cX10_look 3 = .ok (.aload_n 0, 1) := by decide +kernel
theorem ddX10_look_4 : decode cX10_look 4 = .ok (.getfield 18, 3) := by decide +kernel
theorem ddX10_look_7 : decode cX10_look 7 = .ok (.iload_n 1, 1) := by decide +kernel
theorem ddX10_look_8 : decode cX10_look 8 = .ok (.iaload, 1) := by decide +kernel
theorem ddX10_look_9 : decode cX10_look 9 = .ok (.if_icmp .ge 163, 3) := by decide +kernel
theorem ddX10_look_12 : decode cX10_look 12 = .ok (.aload_n 0, 1) := by decide +kernel
theorem ddX10_look_13 : decode cX10_look 13 = .ok (.getfield 15, 3) := by decide +kernel
theorem ddX10_look_16 : decode cX10_look 16 = .ok (.iload_n 1, 1) := by decide +kernel
theorem ddX10_look_17 : decode cX10_look 17 = .ok (.iconst 5, 1) := by decide +kernel
theorem ddX10_look_18 : decode cX10_look 18 = .ok (.imul, 1) := by decide +kernel
theorem ddX10_look_19 : decode cX10_look 19 = .ok (.iload_n 3, 1) := by decide +kernel
theorem ddX10_look_20 : decode cX10_look 20 = .ok (.iadd, 1) := by decide +kernel
theorem ddX10_look_21 : decode cX10_look 21 = .ok (.iaload, 1) := by decide +kernel
theorem ddX10_look_22 : decode cX10_look 22 = .ok (.istore 4, 2) := by decide +kernel
theorem ddX10_look_24 : decode cX10_look 24 = .ok (.aload_n 0, 1) := by decide +kernel
theorem ddX10_look_25 : decode cX10_look 25 = .ok (.getfield 30, 3) := by decide +kernel
theorem ddX10_look_28 : decode cX10_look 28 = .ok (.iload 4, 2) := by decide +kernel
theorem ddX10_look_30 : decode cX10_look 30 = .ok (.iaload, 1) := by decide +kernel
theorem ddX10_look_31 : decode cX10_look 31 = .ok (.iconst (-1), 1) := by decide +kernel
theorem ddX10_look_32 : decode cX10_look 32 = .ok (.if_icmp .eq 41, 3) := by decide +kernel
theorem ddX10_look_35 : decode cX10_look 35 = .ok (.iload_n 2, 1) := by decide +kernel
theorem ddX10_look_36 : decode cX10_look 36 = .ok (.aload_n 0, 1) := by decide +kernel
theorem ddX10_look_37 : decode cX10_look 37 = .ok (.getfield 27, 3) := by decide +kernel
theorem ddX10_look_40 : decode cX10_look 40 = .ok (.iload 4, 2) := by decide +kernel
theorem ddX10_look_42 : decode cX10_look 42 = .ok (.iaload, 1) := by decide +kernel
theorem ddX10_look_43 : decode cX10_look 43 = .ok (.isub, 1) := by decide +kernel
theorem ddX10_look_44 : decode cX10_look 44 = .ok (.aload_n 0, 1) := by decide +kernel
theorem ddX10_look_45 : decode cX10_look 45 = .ok (.getfield 33, 3) := by decide +kernel
theorem ddX10_look_48 : decode cX10_look 48 = .ok (.getfield 60, 3) := by decide +kernel
theorem ddX10_look_51 : decode cX10_look 51 = .ok (.iload 4, 2) := by decide +kernel
theorem ddX10_look_53 : decode cX10_look 53 = .ok (.iaload, 1) := by decide +kernel
theorem ddX10_look_54 : decode cX10_look 54 = .ok (.if_icmp .le 19, 3) := by decide +kernel
theorem ddX10_look_57 : decode cX10_look 57 = .ok (.aload_n 0, 1) := by decide +kernel
theorem ddX10_look_58 : decode cX10_look 58 = .ok (.getfield 21, 3) := by decide +kernel
theorem ddX10_look_61 : decode cX10_look 61 = .ok (.iload 4, 2) := by decide +kernel
theorem ddX10_look_63 : decode cX10_look 63 = .ok (.iconst 0, 1) := by decide +kernel
theorem ddX10_look_64 : decode cX10_look 64 = .ok (.iastore, 1) := by decide +kernel
theorem ddX10_look_65 : decode cX10_look 65 = .ok (.aload_n 0, 1) := by decide +kernel
theorem ddX10_look_66 : decode cX10_look 66 = .ok (.getfield 30, 3) := by decide +kernel
theorem ddX10_look_69 : decode cX10_look 69 = .ok (.iload 4, 2) := by decide +kernel
theorem ddX10_look_71 : decode cX10_look 71 = .ok (.iconst (-1), 1) := by decide +kernel
theorem ddX10_look_72 : decode cX10_look 72 = .ok (.iastore, 1) := by decide +kernel
theorem ddX10_look_73 : decode cX10_look 73 = .ok (.aload_n 0, 1) := by decide +kernel
theorem ddX10_look_74 : decode cX10_look 74 = .ok (.getfield 27, 3) := by decide +kernel
theorem ddX10_look_77 : decode cX10_look 77 = .ok (.iload 4, 2) := by decide +kernel
theorem ddX10_look_79 : decode cX10_look 79 = .ok (.iload_n 2, 1) := by decide +kernel
theorem ddX10_look_80 : decode cX10_look 80 = .ok (.iastore, 1) := by decide +kernel
theorem ddX10_look_81 : decode cX10_look 81 = .ok (.aload_n 0, 1) := by decide +kernel
theorem ddX10_look_82 : decode cX10_look 82 = .ok (.getfield 30, 3) := by decide +kernel
theorem ddX10_look_85 : decode cX10_look 85 = .ok (.iload 4, 2) := by decide +kernel
theorem ddX10_look_87 : decode cX10_look 87 = .ok (.iaload, 1) := by decide +kernel
theorem ddX10_look_88 : decode cX10_look 88 = .ok (.iconst (-1), 1) := by decide +kernel
theorem ddX10_look_89 : decode cX10_look 89 = .ok (.if_icmp .eq 27, 3) := by decide +kernel
theorem ddX10_look_92 : decode cX10_look 92 = .ok (.iload_n 2, 1) := by decide +kernel
theorem ddX10_look_93 : decode cX10_look 93 = .ok (.aload_n 0, 1) := by decide +kernel
theorem ddX10_look_94 : decode cX10_look 94 = .ok (.getfield 30, 3) := by decide +kernel
theorem ddX10_look_97 : decode cX10_look 97 = .ok (.iload 4, 2) := by decide +kernel
theorem ddX10_look_99 : decode cX10_look 99 = .ok (.iaload, 1) := by decide +kernel
theorem ddX10_look_100 : decode cX10_look 100 = .ok (.isub, 1) := by decide +kernel
theorem ddX10_look_101 : decode cX10_look 101 = .ok (.aload_n 0, 1) := by decide +kernel
theorem ddX10_look_102 : decode cX10_look 102 = .ok (.getfield 33, 3) := by decide +kernel
theorem ddX10_look_105 : decode cX10_look 105 = .ok (.getfield 63, 3) := by decide +kernel
theorem ddX10_look_108 : decode cX10_look 108 = .ok (.iload 4, 2) := by decide +kernel
theorem ddX10_look_110 : decode cX10_look 110 = .ok (.iaload, 1) := by decide +kernel
theorem ddX10_look_111 : decode cX10_look 111 = .ok (.if_icmp .gt 5, 3) := by decide +kernel
theorem ddX10_look_114 : decode cX10_look 114 = .ok (.iconst (-1), 1) := by decide +kernel
theorem ddX10_look_115 : decode cX10_look 115 = .ok (.ireturn, 1) := by decide +kernel
theorem ddX10_look_116 : decode cX10_look 116 = .ok (.aload_n 0, 1) := by decide +kernel
theorem ddX10_look_117 : decode cX10_look 117 = .ok (.getfield 21, 3) := by decide +kernel
theorem ddX10_look_120 : decode cX10_look 120 = .ok (.iload 4, 2) := by decide +kernel
theorem ddX10_look_122 : decode cX10_look 122 = .ok (.iaload, 1) := by decide +kernel
theorem ddX10_look_123 : decode cX10_look 123 = .ok (.aload_n 0, 1) := by decide +kernel
theorem ddX10_look_124 : decode cX10_look 124 = .ok (.getfield 9, 3) := by decide +kernel
theorem ddX10_look_127 : decode cX10_look 127 = .ok (.iload 4, 2) := by decide +kernel
theorem ddX10_look_129 : decode cX10_look 129 = .ok (.iaload, 1) := by decide +kernel
theorem ddX10_look_130 : decode cX10_look 130 = .ok (.if_icmp .ge 36, 3) := by decide +kernel
theorem ddX10_look_133 : decode cX10_look 133 = .ok (.aload_n 0, 1) := by decide +kernel
theorem ddX10_look_134 : decode cX10_look 134 = .ok (.getfield 21, 3) := by decide +kernel
theorem ddX10_look_137 : decode cX10_look 137 = .ok (.iload 4, 2) := by decide +kernel
theorem ddX10_look_139 : decode cX10_look 139 = .ok (.dup2, 1) := by decide +kernel
theorem ddX10_look_140 : decode cX10_look 140 = .ok (.iaload, 1) := by decide +kernel
theorem ddX10_look_141 : decode cX10_look 141 = .ok (.iconst 1, 1) := by decide +kernel
theorem ddX10_look_142 : decode cX10_look 142 = .ok (.iadd, 1) := by decide +kernel
theorem ddX10_look_143 : decode cX10_look 143 = .ok (.iastore, 1) := by decide +kernel
theorem ddX10_look_144 : decode cX10_look 144 = .ok (.aload_n 0, 1) := by decide +kernel
theorem ddX10_look_145 : decode cX10_look 145 = .ok (.getfield 24, 3) := by decide +kernel
theorem ddX10_look_148 : decode cX10_look 148 = .ok (.iload 4, 2) := by decide +kernel
theorem ddX10_look_150 : decode cX10_look 150 = .ok (.dup2, 1) := by decide +kernel
theorem ddX10_look_151 : decode cX10_look 151 = .ok (.iaload, 1) := by decide +kernel
theorem ddX10_look_152 : decode cX10_look 152 = .ok (.iconst 1, 1) := by decide +kernel
theorem ddX10_look_153 : decode cX10_look 153 = .ok (.iadd, 1) := by decide +kernel
theorem ddX10_look_154 : decode cX10_look 154 = .ok (.iastore, 1) := by decide +kernel
theorem ddX10_look_155 : decode cX10_look 155 = .ok (.aload_n 0, 1) := by decide +kernel
theorem ddX10_look_156 : decode cX10_look 156 = .ok (.getfield 30, 3) := by decide +kernel
theorem ddX10_look_159 : decode cX10_look 159 = .ok (.iload 4, 2) := by decide +kernel
theorem ddX10_look_161 : decode cX10_look 161 = .ok (.iload_n 2, 1) := by decide +kernel
theorem ddX10_look_162 : decode cX10_look 162 = .ok (.iastore, 1) := by decide +kernel
theorem ddX10_look_163 : decode cX10_look 163 = .ok (.iload 4, 2) := by decide +kernel
theorem ddX10_look_165 : decode cX10_look 165 = .ok (.ireturn, 1) := by decide +kernel
theorem ddX10_look_166 : decode cX10_look 166 = .ok (.iinc 3 1, 3) := by decide +kernel
theorem ddX10_look_169 : decode cX10_look 169 = .ok (.goto (-167), 3) := by decide +kernel
theorem ddX10_look_172 : decode cX10_look 172 = .ok (.iconst (-1), 1) := by decide +kernel
theorem ddX10_look_173 : decode cX10_look 173 = .ok (.ireturn, 1) := by decide +kernel
def wq_k_X10_look : List Cond := Cond.code yX10_look cX10_look 5 (some .int) :: (([Cond.fieldLink RX10 18 "CrowToll$Watch" "seated" "[I", Cond.fieldLink RX10 15 "CrowToll$Watch" "seat" "[I", Cond.fieldLink RX10 30 "CrowToll$Watch" "countedAt" "[I", Cond.fieldLink RX10 27 "CrowToll$Watch" "lookedAt" "[I", Cond.fieldLink RX10 33 "CrowToll$Watch" "road" "LCrowToll$Road;", Cond.fieldLink RX10 60 "CrowToll$Road" "gap" "[I", Cond.fieldLink RX10 21 "CrowToll$Watch" "count" "[I", Cond.fieldLink RX10 9 "CrowToll$Watch" "limit" "[I", Cond.fieldLink RX10 24 "CrowToll$Watch" "total" "[I", Cond.fieldLink RX10 63 "CrowToll$Road" "takes" "[I"] : List Cond) ++ wsX70 ++ wsX100)
set_option maxHeartbeats 8000000 in
set_option maxRecDepth 100000 in
theorem k_X10_look (l : Launch) (D : va_G) (cy : Nat → ClassId) (ad : Nat → Nat) (g : Nat → va_E) {c1 : Nat → Int32} {c2 : Nat → Int32} {c3 : Nat → Int32} {c4 : Nat → Int32} {u5_0 : Value} {u5_1 : Value} {u5_4 : Value} {u5_5 : Value} {u5_6 : Value} {u5_7 : Value} {u5_8 : Value} {u5_9 : Value} {u5_10 : Value} {u5_11 : Value} {u5_12 : Value} {u5_13 : Value} {u5_14 : Value} {u5_15 : Value} {u5_16 : Value} {u5_17 : Value} {c6 : Nat → Int32} {c7 : Nat → Int32} {c8 : Nat → Int32} {c9 : Nat → Int32} {c10 : Nat → Int32} {post : Int32} {now : Int32} (o0 : g 0 = .inr (10, [.ref (ad 5), .ref (ad 8), .ref (ad 2), .ref (ad 1), .ref (ad 7), .ref (ad 9), .ref (ad 4), .ref (ad 3)])) (a1 : g 1 = .inl (cy 0, 4, .inl c1)) (a2 : g 2 = .inl (cy 0, 20, .inl c2)) (a3 : g 3 = .inl (cy 0, 5, .inl c3)) (a4 : g 4 = .inl (cy 0, 5, .inl c4)) (o5 : g 5 = .inr (7, [u5_0, u5_1, .ref (ad 6), .ref (ad 10), u5_4, u5_5, u5_6, u5_7, u5_8, u5_9, u5_10, u5_11, u5_12, u5_13, u5_14, u5_15, u5_16, u5_17])) (a6 : g 6 = .inl (cy 0, 5, .inl c6)) (a7 : g 7 = .inl (cy 0, 5, .inl c7)) (a8 : g 8 = .inl (cy 0, 5, .inl c8)) (a9 : g 9 = .inl (cy 0, 5, .inl c9)) (a10 : g 10 = .inl (cy 0, 5, .inl c10)) (ha1 : za 0 5 c1) (ha2 : za 0 4 c2) (p_post : zi 0 3 post) : cMi l yX10_look wq_k_X10_look { frames := 0, cells := 0, slots := 0, locals := 0 } 11 0 0 0 D cy ad g [.ref (ad 0), .int post, .int now] (fun r nw lu => ∃ (d3 : Nat → Int32) (d4 : Nat → Int32) (d7 : Nat → Int32) (d9 : Nat → Int32), (zi (-1) 4 r) ∧ (lu = [(3, .inl (cy 0, 5, .inl d3)), (4, .inl (cy 0, 5, .inl d4)), (7, .inl (cy 0, 5, .inl d7)), (9, .inl (cy 0, 5, .inl d9))])) := by
  refine cM_of (Qc := fun A => cQi (fun r nw lu => ∃ (d3 : Nat → Int32) (d4 : Nat → Int32) (d7 : Nat → Int32) (d9 : Nat → Int32), (zi (-1) 4 r) ∧ (lu = [(3, .inl (cy 0, 5, .inl d3)), (4, .inl (cy 0, 5, .inl d4)), (7, .inl (cy 0, 5, .inl d7)), (9, .inl (cy 0, 5, .inl d9))])) D 11 0 ad g A) (cc := cX10_look) (maxL := 5) (ret := (some .int)) (by decide) rfl (Nat.le_of_ble_eq_true rfl) ?_
  intro p e s m below meth c A hC hr hlk hnm hO ls hl
  have hC : CallFix p m c cX10_look 5 s [.ref (ad 0), .int post, .int now].toArray wq_k_X10_look RX10 := hC
  obtain ⟨hx, hb, hml, hown, hts⟩ := id hC
  have hl : lv_has ls 5 [(0, .ref (ad 0)), (1, .int post), (2, .int now)] := hl
  have i_X10 : ∀ w ∈ wsX100, w ∈ wq_k_X10_look := fun w h => List.mem_cons_of_mem _ (List.mem_append_right _ h)
  have i_X7 : ∀ w ∈ wsX70, w ∈ wq_k_X10_look := fun w h => List.mem_cons_of_mem _ (List.mem_append_left _ (List.mem_append_right _ h))
  have hO := hO.notes [(3, .inl (cy 0, 5, .inl c3)), (4, .inl (cy 0, 5, .inl c4)), (7, .inl (cy 0, 5, .inl c7)), (9, .inl (cy 0, 5, .inl c9))] (List.forall_mem_cons.mpr ⟨a3, List.forall_mem_cons.mpr ⟨a4, List.forall_mem_cons.mpr ⟨a7, List.forall_mem_cons.mpr ⟨a9, (fun _ h => absurd h List.not_mem_nil)⟩⟩⟩⟩)
  refine lv_iconst (v := 0) hx hb ddX10_look_0 (by decide) ?_
  refine lv_istore_n (lv' := [(3, .int 0), (0, .ref (ad 0)), (1, .int post), (2, .int now)]) hx hb ddX10_look_1 rfl hl (by decide) rfl (fun ls hl => ?_)
  have loop_2_2577 : ∀ (d_2_2578 : Nat) (v_2_2449 : Int32) (c_2_2451 : Nat → Int32) (c_2_2453 : Nat → Int32) (c_2_2455 : Nat → Int32), zi 0 5 v_2_2449 → za (-2147483648) 2147483647 c_2_2451 → za (-2147483648) 2147483647 c_2_2453 → za (-2147483648) 2147483647 c_2_2455 → (5 + 1 - v_2_2449.toInt).toNat < d_2_2578 → ∀ (H : Heap) (locs : List Loc), cO D cy A s.heap s 11 ad (cup [(3, .inl (cy 0, 5, .inl c_2_2451)), (4, .inl (cy 0, 5, .inl c_2_2453)), (7, .inl (cy 0, 5, .inl c_2_2455)), (9, .inl (cy 0, 5, .inl c9))] g) H locs → ∀ ls : Array Slot, lv_has ls 5 [(3, .int v_2_2449), (0, .ref (ad 0)), (1, .int post), (2, .int now)] → W p l e { frames := 0, cells := 0, slots := 0, locals := 0 } s m [.ref (ad 0), .int post, .int now].toArray below meth c H locs 0 0 (MQ below (cQi (fun r nw lu => ∃ (d3 : Nat → Int32) (d4 : Nat → Int32) (d7 : Nat → Int32) (d9 : Nat → Int32), (zi (-1) 4 r) ∧ (lu = [(3, .inl (cy 0, 5, .inl d3)), (4, .inl (cy 0, 5, .inl d4)), (7, .inl (cy 0, 5, .inl d7)), (9, .inl (cy 0, 5, .inl d9))])) D 11 0 ad g A) [.ref (ad 0), .int post, .int now].toArray s 0 0 A) (F0 m 2 ls [])  := by
    intro d_2_2578
    induction d_2_2578 with
    | zero => intro v_2_2449 c_2_2451 c_2_2453 c_2_2455 z_2_2450 zc_2_2452 zc_2_2454 zc_2_2456 mu_2_2579; exact absurd mu_2_2579 (Nat.not_lt_zero _)
    | succ d_2_2578 ih_2_2580 =>
      intro v_2_2449 c_2_2451 c_2_2453 c_2_2455 z_2_2450 zc_2_2452 zc_2_2454 zc_2_2456 mu_2_2579 H locs hO ls hl
      refine lv_iload_n hx hb ddX10_look_2 rfl (lv_at hl 0 rfl) ?_
      refine lv_aload_n hx hb ddX10_look_3 rfl (lv_at hl 1 rfl) ?_
      refine cg_get hC hO 0 (by decide) o0 rfl i_X10 3 (by decide) (List.mem_of_getElem? (i := 1) rfl) rfl ddX10_look_4 ?_
      refine lv_iload_n hx hb ddX10_look_7 rfl (lv_at hl 2 rfl) ?_
      refine zg_iald hC hO 1 (by decide) a1 ha1 (zi_in p_post (by decide)) ddX10_look_8 (fun v_8_2581 z_8_2582 => ?_)
      refine lv_icmp_ge (tgt := 172) hx hb ddX10_look_9 (by decide) (fun h_9_2583 => ?_) (fun h_9_2583 => ?_)
      · have q_9_2584 := zr_le h_9_2583
        refine lv_iconst (v := (-1)) hx hb ddX10_look_172 (by decide) ?_
        exact cg_iret (nw := fun _ => 0) hC hr hlk hO.same rfl (Nat.le_of_ble_eq_true rfl) (Nat.le_of_ble_eq_true rfl) (⟨c_2_2451, c_2_2453, c_2_2455, c9, (zi_k (a := (-1)) (b := 4) (x := (-1)) rfl), rfl⟩) ddX10_look_173
      · have q_9_2585 := zr_nle h_9_2583
        have z_9_2586 : zi 0 4 v_2_2449 := zu_lt q_9_2585 z_2_2450 z_8_2582 (by decide)
        have z_9_2587 : zi 1 5 v_8_2581 := zd_lt q_9_2585 z_2_2450 z_8_2582 (by decide)
        refine lv_aload_n hx hb ddX10_look_12 rfl (lv_at hl 1 rfl) ?_
        refine cg_get hC hO 0 (by decide) o0 rfl i_X10 2 (by decide) (List.mem_of_getElem? (i := 2) rfl) rfl ddX10_look_13 ?_
        refine lv_iload_n hx hb ddX10_look_16 rfl (lv_at hl 2 rfl) ?_
        refine lv_iconst (v := 5) hx hb ddX10_look_17 (by decide) ?_
        refine lv_imul hx hb ddX10_look_18 ?_
        refine zg_top (P := fun v => zi 0 15 v) ((zi_mul p_post (zi_k (a := 5) (b := 5) (x := 5) rfl) (by decide)).1) (fun v_18_2588 z_18_2589 => ?_)
        refine lv_iload_n hx hb ddX10_look_19 rfl (lv_at hl 0 rfl) ?_
        refine lv_iadd hx hb ddX10_look_20 ?_
        refine zg_top2 (P := fun v => zi 0 19 v) (E := fun v => v.toInt = (v_18_2588 : Int32).toInt + (v_2_2449 : Int32).toInt) (zi_add z_18_2589 z_9_2586 (by decide)) (fun v_20_2590 z_20_2591 q_20_2592 => ?_)
        refine zg_iald hC hO 2 (by decide) a2 ha2 (zi_in z_20_2591 (by decide)) ddX10_look_21 (fun v_21_2593 z_21_2594 => ?_)
        refine lv_istore (lv' := [(4, .int v_21_2593), (3, .int v_2_2449), (0, .ref (ad 0)), (1, .int post), (2, .int now)]) hx hb ddX10_look_22 hl (by decide) rfl (fun ls hl => ?_)
        refine lv_aload_n hx hb ddX10_look_24 rfl (lv_at hl 2 rfl) ?_
        refine cg_get hC hO 0 (by decide) o0 rfl i_X10 7 (by decide) (List.mem_of_getElem? (i := 3) rfl) rfl ddX10_look_25 ?_
        refine lv_iload hx hb ddX10_look_28 (lv_at hl 0 rfl) ?_
        refine zg_iald hC hO 3 (by decide) rfl zc_2_2452 (zi_in z_21_2594 (by decide)) ddX10_look_30 (fun v_30_2595 z_30_2596 => ?_)
        refine lv_iconst (v := (-1)) hx hb ddX10_look_31 (by decide) ?_
        have J_73_2618 : ∀ (c_73_2614 : Nat → Int32) (c_73_2616 : Nat → Int32), za (-2147483648) 2147483647 c_73_2614 → za (-2147483648) 2147483647 c_73_2616 → ∀ (H : Heap) (locs : List Loc), cO D cy A s.heap s 11 ad (cup [(3, .inl (cy 0, 5, .inl c_73_2614)), (4, .inl (cy 0, 5, .inl c_2_2453)), (7, .inl (cy 0, 5, .inl c_73_2616)), (9, .inl (cy 0, 5, .inl c9))] g) H locs → ∀ ls : Array Slot, lv_has ls 5 [(4, .int v_21_2593), (3, .int v_2_2449), (0, .ref (ad 0)), (1, .int post), (2, .int now)] → W p l e { frames := 0, cells := 0, slots := 0, locals := 0 } s m [.ref (ad 0), .int post, .int now].toArray below meth c H locs 0 0 (MQ below (cQi (fun r nw lu => ∃ (d3 : Nat → Int32) (d4 : Nat → Int32) (d7 : Nat → Int32) (d9 : Nat → Int32), (zi (-1) 4 r) ∧ (lu = [(3, .inl (cy 0, 5, .inl d3)), (4, .inl (cy 0, 5, .inl d4)), (7, .inl (cy 0, 5, .inl d7)), (9, .inl (cy 0, 5, .inl d9))])) D 11 0 ad g A) [.ref (ad 0), .int post, .int now].toArray s 0 0 A) (F0 m 73 ls []) := by
          intro c_73_2614 c_73_2616 zc_73_2615 zc_73_2617 H locs hO ls hl
          refine lv_aload_n hx hb ddX10_look_73 rfl (lv_at hl 2 rfl) ?_
          refine cg_get hC hO 0 (by decide) o0 rfl i_X10 6 (by decide) (List.mem_of_getElem? (i := 4) rfl) rfl ddX10_look_74 ?_
          refine lv_iload hx hb ddX10_look_77 (lv_at hl 0 rfl) ?_
          refine lv_iload_n hx hb ddX10_look_79 rfl (lv_at hl 4 rfl) ?_
          refine zg_iast hC hO 4 (by decide) rfl zc_2_2454 (zi_all now) (zi_in z_21_2594 (by decide)) ddX10_look_80 (fun H locs c_80_2619 zc_80_2620 hO => ?_)
          have hO : cO D cy A s.heap s 11 ad (cup [(3, .inl (cy 0, 5, .inl c_73_2614)), (4, .inl (cy 0, 5, .inl c_80_2619)), (7, .inl (cy 0, 5, .inl c_73_2616)), (9, .inl (cy 0, 5, .inl c9))] g) _ _ := hO
          refine lv_aload_n hx hb ddX10_look_81 rfl (lv_at hl 2 rfl) ?_
          refine cg_get hC hO 0 (by decide) o0 rfl i_X10 7 (by decide) (List.mem_of_getElem? (i := 3) rfl) rfl ddX10_look_82 ?_
          refine lv_iload hx hb ddX10_look_85 (lv_at hl 0 rfl) ?_
          refine zg_iald hC hO 3 (by decide) rfl zc_73_2615 (zi_in z_21_2594 (by decide)) ddX10_look_87 (fun v_87_2621 z_87_2622 => ?_)
          refine lv_iconst (v := (-1)) hx hb ddX10_look_88 (by decide) ?_
          refine lv_icmp_eq (tgt := 116) hx hb ddX10_look_89 (by decide) (fun h_89_2623 => ?_) (fun h_89_2623 => ?_)
          · have q_89_2624 := zr_eq h_89_2623
            have z_89_2625 : zi (-1) (-1) v_87_2621 := ze_eq q_89_2624 z_87_2622 (zi_k (a := (-1)) (b := (-1)) (x := (-1)) rfl)
            refine lv_aload_n hx hb ddX10_look_116 rfl (lv_at hl 2 rfl) ?_
            refine cg_get hC hO 0 (by decide) o0 rfl i_X10 4 (by decide) (List.mem_of_getElem? (i := 7) rfl) rfl ddX10_look_117 ?_
            refine lv_iload hx hb ddX10_look_120 (lv_at hl 0 rfl) ?_
            refine zg_iald hC hO 7 (by decide) rfl zc_73_2617 (zi_in z_21_2594 (by decide)) ddX10_look_122 (fun v_122_2626 z_122_2627 => ?_)
            refine lv_aload_n hx hb ddX10_look_123 rfl (lv_at hl 2 rfl) ?_
            refine cg_get hC hO 0 (by decide) o0 rfl i_X10 1 (by decide) (List.mem_of_getElem? (i := 8) rfl) rfl ddX10_look_124 ?_
            refine lv_iload hx hb ddX10_look_127 (lv_at hl 0 rfl) ?_
            refine zg_iald hC hO 8 (by decide) a8 (za_all _) (zi_in z_21_2594 (by decide)) ddX10_look_129 (fun v_129_2628 z_129_2629 => ?_)
            refine lv_icmp_ge (tgt := 166) hx hb ddX10_look_130 (by decide) (fun h_130_2630 => ?_) (fun h_130_2630 => ?_)
            · have q_130_2631 := zr_le h_130_2630
              obtain ⟨v_166_2632, e_166_2633, z_166_2634, q_166_2635⟩ := zi_inc (e := 1) (f := 5) 1 z_9_2586 (by decide)
              refine lv_iinc (v := v_166_2632) (lv' := [(3, .int v_166_2632), (4, .int v_21_2593), (0, .ref (ad 0)), (1, .int post), (2, .int now)]) hx hb ddX10_look_166 hl (k := 1) rfl e_166_2633 (by decide) rfl (fun ls hl => ?_)
              refine lv_goto (tgt := 2) hx hb ddX10_look_169 (by decide) ?_
              exact ih_2_2580 v_166_2632 c_73_2614 c_80_2619 c_73_2616 (zi_w (c := 0) (d := 5) z_166_2634 (by decide)) zc_73_2615 zc_80_2620 zc_73_2617 (zm_up q_166_2635 ((zi_w (c := 0) (d := 5) z_166_2634 (by decide))).2 (by decide) mu_2_2579) _ _ hO ls (lv_sub hl [0, 2, 3, 4] rfl)
            · have q_130_2636 := zr_nle h_130_2630
              have z_130_2637 : zi (-2147483648) 2147483646 v_122_2626 := zu_lt q_130_2636 z_122_2627 z_129_2629 (by decide)
              have z_130_2638 : zi (-2147483647) 2147483647 v_129_2628 := zd_lt q_130_2636 z_122_2627 z_129_2629 (by decide)
              refine lv_aload_n hx hb ddX10_look_133 rfl (lv_at hl 2 rfl) ?_
              refine cg_get hC hO 0 (by decide) o0 rfl i_X10 4 (by decide) (List.mem_of_getElem? (i := 7) rfl) rfl ddX10_look_134 ?_
              refine lv_iload hx hb ddX10_look_137 (lv_at hl 0 rfl) ?_
              refine lv_dup2_11 hx hb ddX10_look_139 rfl rfl ?_
              refine zg_iald hC hO 7 (by decide) rfl zc_73_2617 (zi_in z_21_2594 (by decide)) ddX10_look_140 (fun v_140_2639 z_140_2640 => ?_)
              refine lv_iconst (v := 1) hx hb ddX10_look_141 (by decide) ?_
              refine lv_iadd hx hb ddX10_look_142 ?_
              refine lv_topi (fun v_142_2641 _ => ?_)
              refine zg_iast hC hO 7 (by decide) rfl zc_73_2617 (zi_all v_142_2641) (zi_in z_21_2594 (by decide)) ddX10_look_143 (fun H locs c_143_2642 zc_143_2643 hO => ?_)
              have hO : cO D cy A s.heap s 11 ad (cup [(3, .inl (cy 0, 5, .inl c_73_2614)), (4, .inl (cy 0, 5, .inl c_80_2619)), (7, .inl (cy 0, 5, .inl c_143_2642)), (9, .inl (cy 0, 5, .inl c9))] g) _ _ := hO
              refine lv_aload_n hx hb ddX10_look_144 rfl (lv_at hl 2 rfl) ?_
              refine cg_get hC hO 0 (by decide) o0 rfl i_X10 5 (by decide) (List.mem_of_getElem? (i := 9) rfl) rfl ddX10_look_145 ?_
              refine lv_iload hx hb ddX10_look_148 (lv_at hl 0 rfl) ?_
              refine lv_dup2_11 hx hb ddX10_look_150 rfl rfl ?_
              refine zg_iald hC hO 9 (by decide) rfl (za_all _) (zi_in z_21_2594 (by decide)) ddX10_look_151 (fun v_151_2644 z_151_2645 => ?_)
              refine lv_iconst (v := 1) hx hb ddX10_look_152 (by decide) ?_
              refine lv_iadd hx hb ddX10_look_153 ?_
              refine lv_topi (fun v_153_2646 _ => ?_)
              refine zg_iast hC hO 9 (by decide) rfl (za_all _) (zi_all v_153_2646) (zi_in z_21_2594 (by decide)) ddX10_look_154 (fun H locs c_154_2647 zc_154_2648 hO => ?_)
              have hO : cO D cy A s.heap s 11 ad (cup [(3, .inl (cy 0, 5, .inl c_73_2614)), (4, .inl (cy 0, 5, .inl c_80_2619)), (7, .inl (cy 0, 5, .inl c_143_2642)), (9, .inl (cy 0, 5, .inl c_154_2647))] g) _ _ := hO
              refine lv_aload_n hx hb ddX10_look_155 rfl (lv_at hl 2 rfl) ?_
              refine cg_get hC hO 0 (by decide) o0 rfl i_X10 7 (by decide) (List.mem_of_getElem? (i := 3) rfl) rfl ddX10_look_156 ?_
              refine lv_iload hx hb ddX10_look_159 (lv_at hl 0 rfl) ?_
              refine lv_iload_n hx hb ddX10_look_161 rfl (lv_at hl 4 rfl) ?_
              refine zg_iast hC hO 3 (by decide) rfl zc_73_2615 (zi_all now) (zi_in z_21_2594 (by decide)) ddX10_look_162 (fun H locs c_162_2649 zc_162_2650 hO => ?_)
              have hO : cO D cy A s.heap s 11 ad (cup [(3, .inl (cy 0, 5, .inl c_162_2649)), (4, .inl (cy 0, 5, .inl c_80_2619)), (7, .inl (cy 0, 5, .inl c_143_2642)), (9, .inl (cy 0, 5, .inl c_154_2647))] g) _ _ := hO
              refine lv_iload hx hb ddX10_look_163 (lv_at hl 0 rfl) ?_
              exact cg_iret (nw := fun _ => 0) hC hr hlk hO.same rfl (Nat.le_of_ble_eq_true rfl) (Nat.le_of_ble_eq_true rfl) (⟨c_162_2649, c_80_2619, c_143_2642, c_154_2647, (zi_w (c := (-1)) (d := 4) z_21_2594 (by decide)), rfl⟩) ddX10_look_165
          · refine lv_iload_n hx hb ddX10_look_92 rfl (lv_at hl 4 rfl) ?_
            refine lv_aload_n hx hb ddX10_look_93 rfl (lv_at hl 2 rfl) ?_
            refine cg_get hC hO 0 (by decide) o0 rfl i_X10 7 (by decide) (List.mem_of_getElem? (i := 3) rfl) rfl ddX10_look_94 ?_
            refine lv_iload hx hb ddX10_look_97 (lv_at hl 0 rfl) ?_
            refine zg_iald hC hO 3 (by decide) rfl zc_73_2615 (zi_in z_21_2594 (by decide)) ddX10_look_99 (fun v_99_2651 z_99_2652 => ?_)
            refine lv_isub hx hb ddX10_look_100 ?_
            refine lv_topi (fun v_100_2653 _ => ?_)
            refine lv_aload_n hx hb ddX10_look_101 rfl (lv_at hl 2 rfl) ?_
            refine cg_get hC hO 0 (by decide) o0 rfl i_X10 0 (by decide) (List.mem_of_getElem? (i := 5) rfl) rfl ddX10_look_102 ?_
            refine cg_get hC hO 5 (by decide) o5 rfl i_X7 3 (by decide) (List.mem_of_getElem? (i := 10) rfl) rfl ddX10_look_105 ?_
            refine lv_iload hx hb ddX10_look_108 (lv_at hl 0 rfl) ?_
            refine zg_iald hC hO 10 (by decide) a10 (za_all _) (zi_in z_21_2594 (by decide)) ddX10_look_110 (fun v_110_2654 z_110_2655 => ?_)
            refine lv_icmp_gt (tgt := 116) hx hb ddX10_look_111 (by decide) (fun h_111_2656 => ?_) (fun h_111_2656 => ?_)
            · have q_111_2657 := zr_lt h_111_2656
              have z_111_2658 : zi (-2147483648) 2147483646 v_110_2654 := zu_lt q_111_2657 z_110_2655 (zi_all v_100_2653) (by decide)
              have z_111_2659 : zi (-2147483647) 2147483647 v_100_2653 := zd_lt q_111_2657 z_110_2655 (zi_all v_100_2653) (by decide)
              refine lv_aload_n hx hb ddX10_look_116 rfl (lv_at hl 2 rfl) ?_
              refine cg_get hC hO 0 (by decide) o0 rfl i_X10 4 (by decide) (List.mem_of_getElem? (i := 7) rfl) rfl ddX10_look_117 ?_
              refine lv_iload hx hb ddX10_look_120 (lv_at hl 0 rfl) ?_
              refine zg_iald hC hO 7 (by decide) rfl zc_73_2617 (zi_in z_21_2594 (by decide)) ddX10_look_122 (fun v_122_2660 z_122_2661 => ?_)
              refine lv_aload_n hx hb ddX10_look_123 rfl (lv_at hl 2 rfl) ?_
              refine cg_get hC hO 0 (by decide) o0 rfl i_X10 1 (by decide) (List.mem_of_getElem? (i := 8) rfl) rfl ddX10_look_124 ?_
              refine lv_iload hx hb ddX10_look_127 (lv_at hl 0 rfl) ?_
              refine zg_iald hC hO 8 (by decide) a8 (za_all _) (zi_in z_21_2594 (by decide)) ddX10_look_129 (fun v_129_2662 z_129_2663 => ?_)
              refine lv_icmp_ge (tgt := 166) hx hb ddX10_look_130 (by decide) (fun h_130_2664 => ?_) (fun h_130_2664 => ?_)
              · have q_130_2665 := zr_le h_130_2664
                obtain ⟨v_166_2666, e_166_2667, z_166_2668, q_166_2669⟩ := zi_inc (e := 1) (f := 5) 1 z_9_2586 (by decide)
                refine lv_iinc (v := v_166_2666) (lv' := [(3, .int v_166_2666), (4, .int v_21_2593), (0, .ref (ad 0)), (1, .int post), (2, .int now)]) hx hb ddX10_look_166 hl (k := 1) rfl e_166_2667 (by decide) rfl (fun ls hl => ?_)
                refine lv_goto (tgt := 2) hx hb ddX10_look_169 (by decide) ?_
                exact ih_2_2580 v_166_2666 c_73_2614 c_80_2619 c_73_2616 (zi_w (c := 0) (d := 5) z_166_2668 (by decide)) zc_73_2615 zc_80_2620 zc_73_2617 (zm_up q_166_2669 ((zi_w (c := 0) (d := 5) z_166_2668 (by decide))).2 (by decide) mu_2_2579) _ _ hO ls (lv_sub hl [0, 2, 3, 4] rfl)
              · have q_130_2670 := zr_nle h_130_2664
                have z_130_2671 : zi (-2147483648) 2147483646 v_122_2660 := zu_lt q_130_2670 z_122_2661 z_129_2663 (by decide)
                have z_130_2672 : zi (-2147483647) 2147483647 v_129_2662 := zd_lt q_130_2670 z_122_2661 z_129_2663 (by decide)
                refine lv_aload_n hx hb ddX10_look_133 rfl (lv_at hl 2 rfl) ?_
                refine cg_get hC hO 0 (by decide) o0 rfl i_X10 4 (by decide) (List.mem_of_getElem? (i := 7) rfl) rfl ddX10_look_134 ?_
                refine lv_iload hx hb ddX10_look_137 (lv_at hl 0 rfl) ?_
                refine lv_dup2_11 hx hb ddX10_look_139 rfl rfl ?_
                refine zg_iald hC hO 7 (by decide) rfl zc_73_2617 (zi_in z_21_2594 (by decide)) ddX10_look_140 (fun v_140_2673 z_140_2674 => ?_)
                refine lv_iconst (v := 1) hx hb ddX10_look_141 (by decide) ?_
                refine lv_iadd hx hb ddX10_look_142 ?_
                refine lv_topi (fun v_142_2675 _ => ?_)
                refine zg_iast hC hO 7 (by decide) rfl zc_73_2617 (zi_all v_142_2675) (zi_in z_21_2594 (by decide)) ddX10_look_143 (fun H locs c_143_2676 zc_143_2677 hO => ?_)
                have hO : cO D cy A s.heap s 11 ad (cup [(3, .inl (cy 0, 5, .inl c_73_2614)), (4, .inl (cy 0, 5, .inl c_80_2619)), (7, .inl (cy 0, 5, .inl c_143_2676)), (9, .inl (cy 0, 5, .inl c9))] g) _ _ := hO
                refine lv_aload_n hx hb ddX10_look_144 rfl (lv_at hl 2 rfl) ?_
                refine cg_get hC hO 0 (by decide) o0 rfl i_X10 5 (by decide) (List.mem_of_getElem? (i := 9) rfl) rfl ddX10_look_145 ?_
                refine lv_iload hx hb ddX10_look_148 (lv_at hl 0 rfl) ?_
                refine lv_dup2_11 hx hb ddX10_look_150 rfl rfl ?_
                refine zg_iald hC hO 9 (by decide) rfl (za_all _) (zi_in z_21_2594 (by decide)) ddX10_look_151 (fun v_151_2678 z_151_2679 => ?_)
                refine lv_iconst (v := 1) hx hb ddX10_look_152 (by decide) ?_
                refine lv_iadd hx hb ddX10_look_153 ?_
                refine lv_topi (fun v_153_2680 _ => ?_)
                refine zg_iast hC hO 9 (by decide) rfl (za_all _) (zi_all v_153_2680) (zi_in z_21_2594 (by decide)) ddX10_look_154 (fun H locs c_154_2681 zc_154_2682 hO => ?_)
                have hO : cO D cy A s.heap s 11 ad (cup [(3, .inl (cy 0, 5, .inl c_73_2614)), (4, .inl (cy 0, 5, .inl c_80_2619)), (7, .inl (cy 0, 5, .inl c_143_2676)), (9, .inl (cy 0, 5, .inl c_154_2681))] g) _ _ := hO
                refine lv_aload_n hx hb ddX10_look_155 rfl (lv_at hl 2 rfl) ?_
                refine cg_get hC hO 0 (by decide) o0 rfl i_X10 7 (by decide) (List.mem_of_getElem? (i := 3) rfl) rfl ddX10_look_156 ?_
                refine lv_iload hx hb ddX10_look_159 (lv_at hl 0 rfl) ?_
                refine lv_iload_n hx hb ddX10_look_161 rfl (lv_at hl 4 rfl) ?_
                refine zg_iast hC hO 3 (by decide) rfl zc_73_2615 (zi_all now) (zi_in z_21_2594 (by decide)) ddX10_look_162 (fun H locs c_162_2683 zc_162_2684 hO => ?_)
                have hO : cO D cy A s.heap s 11 ad (cup [(3, .inl (cy 0, 5, .inl c_162_2683)), (4, .inl (cy 0, 5, .inl c_80_2619)), (7, .inl (cy 0, 5, .inl c_143_2676)), (9, .inl (cy 0, 5, .inl c_154_2681))] g) _ _ := hO
                refine lv_iload hx hb ddX10_look_163 (lv_at hl 0 rfl) ?_
                exact cg_iret (nw := fun _ => 0) hC hr hlk hO.same rfl (Nat.le_of_ble_eq_true rfl) (Nat.le_of_ble_eq_true rfl) (⟨c_162_2683, c_80_2619, c_143_2676, c_154_2681, (zi_w (c := (-1)) (d := 4) z_21_2594 (by decide)), rfl⟩) ddX10_look_165
            · have q_111_2685 := zr_nlt h_111_2656
              refine lv_iconst (v := (-1)) hx hb ddX10_look_114 (by decide) ?_
              exact cg_iret (nw := fun _ => 0) hC hr hlk hO.same rfl (Nat.le_of_ble_eq_true rfl) (Nat.le_of_ble_eq_true rfl) (⟨c_73_2614, c_80_2619, c_73_2616, c9, (zi_k (a := (-1)) (b := 4) (x := (-1)) rfl), rfl⟩) ddX10_look_115
        refine lv_icmp_eq (tgt := 73) hx hb ddX10_look_32 (by decide) (fun h_32_2597 => ?_) (fun h_32_2597 => ?_)
        · have q_32_2686 := zr_eq h_32_2597
          have z_32_2687 : zi (-1) (-1) v_30_2595 := ze_eq q_32_2686 z_30_2596 (zi_k (a := (-1)) (b := (-1)) (x := (-1)) rfl)
          exact J_73_2618 c_2_2451 c_2_2455 zc_2_2452 zc_2_2456 _ _ hO ls (lv_sub hl [0, 1, 2, 3, 4] rfl)
        · refine lv_iload_n hx hb ddX10_look_35 rfl (lv_at hl 4 rfl) ?_
          refine lv_aload_n hx hb ddX10_look_36 rfl (lv_at hl 2 rfl) ?_
          refine cg_get hC hO 0 (by decide) o0 rfl i_X10 6 (by decide) (List.mem_of_getElem? (i := 4) rfl) rfl ddX10_look_37 ?_
          refine lv_iload hx hb ddX10_look_40 (lv_at hl 0 rfl) ?_
          refine zg_iald hC hO 4 (by decide) rfl zc_2_2454 (zi_in z_21_2594 (by decide)) ddX10_look_42 (fun v_42_2688 z_42_2689 => ?_)
          refine lv_isub hx hb ddX10_look_43 ?_
          refine lv_topi (fun v_43_2690 _ => ?_)
          refine lv_aload_n hx hb ddX10_look_44 rfl (lv_at hl 2 rfl) ?_
          refine cg_get hC hO 0 (by decide) o0 rfl i_X10 0 (by decide) (List.mem_of_getElem? (i := 5) rfl) rfl ddX10_look_45 ?_
          refine cg_get hC hO 5 (by decide) o5 rfl i_X7 2 (by decide) (List.mem_of_getElem? (i := 6) rfl) rfl ddX10_look_48 ?_
          refine lv_iload hx hb ddX10_look_51 (lv_at hl 0 rfl) ?_
          refine zg_iald hC hO 6 (by decide) a6 (za_all _) (zi_in z_21_2594 (by decide)) ddX10_look_53 (fun v_53_2691 z_53_2692 => ?_)
          refine lv_icmp_le (tgt := 73) hx hb ddX10_look_54 (by decide) (fun h_54_2693 => ?_) (fun h_54_2693 => ?_)
          · have q_54_2694 := zr_le h_54_2693
            exact J_73_2618 c_2_2451 c_2_2455 zc_2_2452 zc_2_2456 _ _ hO ls (lv_sub hl [0, 1, 2, 3, 4] rfl)
          · have q_54_2695 := zr_nle h_54_2693
            have z_54_2696 : zi (-2147483648) 2147483646 v_53_2691 := zu_lt q_54_2695 z_53_2692 (zi_all v_43_2690) (by decide)
            have z_54_2697 : zi (-2147483647) 2147483647 v_43_2690 := zd_lt q_54_2695 z_53_2692 (zi_all v_43_2690) (by decide)
            refine lv_aload_n hx hb ddX10_look_57 rfl (lv_at hl 2 rfl) ?_
            refine cg_get hC hO 0 (by decide) o0 rfl i_X10 4 (by decide) (List.mem_of_getElem? (i := 7) rfl) rfl ddX10_look_58 ?_
            refine lv_iload hx hb ddX10_look_61 (lv_at hl 0 rfl) ?_
            refine lv_iconst (v := 0) hx hb ddX10_look_63 (by decide) ?_
            refine zg_iast hC hO 7 (by decide) rfl zc_2_2456 (zi_k (a := (-2147483648)) (b := 2147483647) (x := 0) rfl) (zi_in z_21_2594 (by decide)) ddX10_look_64 (fun H locs c_64_2698 zc_64_2699 hO => ?_)
            have hO : cO D cy A s.heap s 11 ad (cup [(3, .inl (cy 0, 5, .inl c_2_2451)), (4, .inl (cy 0, 5, .inl c_2_2453)), (7, .inl (cy 0, 5, .inl c_64_2698)), (9, .inl (cy 0, 5, .inl c9))] g) _ _ := hO
            refine lv_aload_n hx hb ddX10_look_65 rfl (lv_at hl 2 rfl) ?_
            refine cg_get hC hO 0 (by decide) o0 rfl i_X10 7 (by decide) (List.mem_of_getElem? (i := 3) rfl) rfl ddX10_look_66 ?_
            refine lv_iload hx hb ddX10_look_69 (lv_at hl 0 rfl) ?_
            refine lv_iconst (v := (-1)) hx hb ddX10_look_71 (by decide) ?_
            refine zg_iast hC hO 3 (by decide) rfl zc_2_2452 (zi_k (a := (-2147483648)) (b := 2147483647) (x := (-1)) rfl) (zi_in z_21_2594 (by decide)) ddX10_look_72 (fun H locs c_72_2700 zc_72_2701 hO => ?_)
            have hO : cO D cy A s.heap s 11 ad (cup [(3, .inl (cy 0, 5, .inl c_72_2700)), (4, .inl (cy 0, 5, .inl c_2_2453)), (7, .inl (cy 0, 5, .inl c_64_2698)), (9, .inl (cy 0, 5, .inl c9))] g) _ _ := hO
            exact J_73_2618 c_72_2700 c_64_2698 zc_72_2701 zc_64_2699 _ _ hO ls (lv_sub hl [0, 1, 2, 3, 4] rfl)
  exact loop_2_2577 ((5 + 1 - (0 : Int32).toInt).toNat + 1) 0 c3 c4 c7 (zi_k (a := 0) (b := 5) (x := 0) rfl) (za_all _) (za_all _) (za_all _) (Nat.lt_succ_self _) _ _ hO ls (lv_sub hl [0, 1, 2, 3] rfl)

theorem ddX10_save_0 : decode cX10_save 0 = .ok (.iload_n 2, 1) := by decide +kernel
theorem ddX10_save_1 : decode cX10_save 1 = .ok (.bipush 15, 2) := by decide +kernel
theorem ddX10_save_3 : decode cX10_save 3 = .ok (.imul, 1) := by decide +kernel
theorem ddX10_save_4 : decode cX10_save 4 = .ok (.istore_n 3, 1) := by decide +kernel
theorem ddX10_save_5 : decode cX10_save 5 = .ok (.iload_n 3, 1) := by decide +kernel
theorem ddX10_save_6 : decode cX10_save 6 = .ok (.ifCond .lt 50, 3) := by decide +kernel
theorem ddX10_save_9 : decode cX10_save 9 = .ok (.iload_n 3, 1) := by decide +kernel
theorem ddX10_save_10 : decode cX10_save 10 = .ok (.bipush 15, 2) := by decide +kernel
theorem ddX10_save_12 : decode cX10_save 12 = .ok (.iadd, 1) := by decide +kernel
theorem ddX10_save_13 : decode cX10_save 13 = .ok (.aload_n 1, 1) := by decide +kernel
theorem ddX10_save_14 : decode cX10_save 14 = .ok (.arraylength, 1) := by decide +kernel
theorem ddX10_save_15 : decode cX10_save 15 = .ok (.if_icmp .gt 41, 3) := by decide +kernel
theorem ddX10_save_18 : decode cX10_save 18 = .ok (.aload_n 0, 1) := by decide +kernel
theorem ddX10_save_19 : decode cX10_save 19 = .ok (.getfield 21, 3) := by decide +kernel
theorem ddX10_save_22 : decode cX10_save 22 = .ok (.iconst 0, 1) := by decide +kernel
theorem ddX10_save_23 : decode cX10_save 23 = .ok (.aload_n 1, 1) := by decide +kernel
theorem ddX10_save_24 : decode cX10_save 24 = .ok (.iload_n 3, 1) := by decide +kernel
theorem ddX10_save_25 : decode cX10_save 25 = .ok (.iconst 5, 1) := by decide +kernel
theorem ddX10_save_26 : decode cX10_save 26 = .ok (.invokestatic 37, 3) := by decide +kernel
theorem ddX10_save_29 : decode cX10_save 29 = .ok (.aload_n 0, 1) := by decide +kernel
theorem ddX10_save_30 : decode cX10_save 30 = .ok (.getfield 27, 3) := by decide +kernel
theorem ddX10_save_33 : decode cX10_save 33 = .ok (.iconst 0, 1) := by decide +kernel
theorem ddX10_save_34 : decode cX10_save 34 = .ok (.aload_n 1, 1) := by decide +kernel
theorem ddX10_save_35 : decode cX10_save 35 = .ok (.iload_n 3, 1) := by decide +kernel
theorem ddX10_save_36 : decode cX10_save 36 = .ok (.iconst 5, 1) := by decide +kernel
theorem ddX10_save_37 : decode cX10_save 37 = .ok (.iadd, 1) := by decide +kernel
theorem ddX10_save_38 : decode cX10_save 38 = .ok (.iconst 5, 1) := by decide +kernel
theorem ddX10_save_39 : decode cX10_save 39 = .ok (.invokestatic 37, 3) := by decide +kernel
theorem ddX10_save_42 : decode cX10_save 42 = .ok (.aload_n 0, 1) := by decide +kernel
theorem ddX10_save_43 : decode cX10_save 43 = .ok (.getfield 30, 3) := by decide +kernel
theorem ddX10_save_46 : decode cX10_save 46 = .ok (.iconst 0, 1) := by decide +kernel
theorem ddX10_save_47 : decode cX10_save 47 = .ok (.aload_n 1, 1) := by decide +kernel
theorem ddX10_save_48 : decode cX10_save 48 = .ok (.iload_n 3, 1) := by decide +kernel
theorem ddX10_save_49 : decode cX10_save 49 = .ok (.bipush 10, 2) := by decide +kernel
theorem ddX10_save_51 : decode cX10_save 51 = .ok (.iadd, 1) := by decide +kernel
theorem ddX10_save_52 : decode cX10_save 52 = .ok (.iconst 5, 1) := by decide +kernel
theorem ddX10_save_53 : decode cX10_save 53 = .ok (.invokestatic 37, 3) := by decide +kernel
theorem ddX10_save_56 : decode cX10_save 56 = .ok (.return_, 1) := by decide +kernel
def wq_k_X10_save : List Cond := Cond.code yX10_save cX10_save 4 none :: (([Cond.fieldLink RX10 21 "CrowToll$Watch" "count" "[I", Cond.methodLink RX10 37 arraycopyName, Cond.native arraycopyName, Cond.static arraycopyName, Cond.initialized "java/lang/System", Cond.fieldLink RX10 27 "CrowToll$Watch" "lookedAt" "[I", Cond.fieldLink RX10 30 "CrowToll$Watch" "countedAt" "[I"] : List Cond) ++ wsX100)
set_option maxHeartbeats 8000000 in
set_option maxRecDepth 100000 in
theorem k_X10_save (l : Launch) (D : va_G) (cy : Nat → ClassId) (ad : Nat → Nat) (g : Nat → va_E) {u0_0 : Value} {u0_1 : Value} {u0_2 : Value} {u0_3 : Value} {u0_5 : Value} {c1 : Nat → Int32} {c2 : Nat → Int32} {c3 : Nat → Int32} {c4 : Nat → Int32} {row : Int32} (o0 : g 0 = .inr (10, [u0_0, u0_1, u0_2, u0_3, .ref (ad 2), u0_5, .ref (ad 3), .ref (ad 4)])) (a1 : g 1 = .inl (cy 0, 180, .inl c1)) (a2 : g 2 = .inl (cy 0, 5, .inl c2)) (a3 : g 3 = .inl (cy 0, 5, .inl c3)) (a4 : g 4 = .inl (cy 0, 5, .inl c4)) (p_row : zi 0 12 row) : cMv l yX10_save wq_k_X10_save { frames := 1, cells := 0, slots := 0, locals := 60 } 5 0 0 0 D cy ad g [.ref (ad 0), .ref (ad 1), .int row] (fun nw lu => ∃ (d1 : Nat → Int32), lu = [(1, .inl (cy 0, 180, .inl d1))]) := by
  refine cM_of (Qc := fun A => cQv (fun nw lu => ∃ (d1 : Nat → Int32), lu = [(1, .inl (cy 0, 180, .inl d1))]) D 5 0 ad g A) (cc := cX10_save) (maxL := 4) (ret := none) (by decide) rfl (Nat.le_of_ble_eq_true rfl) ?_
  intro p e s m below meth c A hC hr hlk hnm hO ls hl
  have hC : CallFix p m c cX10_save 4 s [.ref (ad 0), .ref (ad 1), .int row].toArray wq_k_X10_save RX10 := hC
  obtain ⟨hx, hb, hml, hown, hts⟩ := id hC
  have hl : lv_has ls 4 [(0, .ref (ad 0)), (1, .ref (ad 1)), (2, .int row)] := hl
  have i_X10 : ∀ w ∈ wsX100, w ∈ wq_k_X10_save := fun w h => List.mem_cons_of_mem _ (List.mem_append_right _ h)
  have hO := hO.notes [(1, .inl (cy 0, 180, .inl c1))] (List.forall_mem_cons.mpr ⟨a1, (fun _ h => absurd h List.not_mem_nil)⟩)
  refine lv_iload_n hx hb ddX10_save_0 rfl (lv_at hl 2 rfl) ?_
  refine lv_bipush (v := 15) hx hb ddX10_save_1 (by decide) ?_
  refine lv_imul hx hb ddX10_save_3 ?_
  refine zg_top (P := fun v => zi 0 180 v) ((zi_mul p_row (zi_k (a := 15) (b := 15) (x := 15) rfl) (by decide)).1) (fun v_3_53 z_3_54 => ?_)
  refine lv_istore_n (lv' := [(3, .int v_3_53), (0, .ref (ad 0)), (1, .ref (ad 1)), (2, .int row)]) hx hb ddX10_save_4 rfl hl (by decide) rfl (fun ls hl => ?_)
  refine lv_iload_n hx hb ddX10_save_5 rfl (lv_at hl 0 rfl) ?_
  refine lv_if_lt (tgt := 56) hx hb ddX10_save_6 (by decide) (fun h_6_55 => (zx_lt (zr_lt h_6_55) z_3_54 (zi_k (a := 0) (b := 0) (x := 0) rfl) (by decide)).elim) (fun h_6_55 => ?_)
  have q_6_56 := zr_nlt h_6_55
  refine lv_iload_n hx hb ddX10_save_9 rfl (lv_at hl 0 rfl) ?_
  refine lv_bipush (v := 15) hx hb ddX10_save_10 (by decide) ?_
  refine lv_iadd hx hb ddX10_save_12 ?_
  refine zg_top2 (P := fun v => zi 15 195 v) (E := fun v => v.toInt = v_3_53.toInt + 15) (zi_addk z_3_54 (n := 15) (by decide) (by decide)) (fun v_12_57 z_12_58 q_12_59 => ?_)
  refine lv_aload_n hx hb ddX10_save_13 rfl (lv_at hl 2 rfl) ?_
  refine cg_alen hC hO 1 0 (by decide) rfl rfl (v := 180) rfl ddX10_save_14 ?_
  refine lv_icmp_gt (tgt := 56) hx hb ddX10_save_15 (by decide) (fun h_15_60 => ?_) (fun h_15_60 => ?_)
  · have q_15_61 := zr_lt h_15_60
    have z_15_62 : zi 181 195 v_12_57 := zd_lt q_15_61 (zi_k (a := 180) (b := 180) (x := 180) rfl) z_12_58 (by decide)
    have z_15_63 : zi 166 180 v_3_53 := zp_add q_12_59 z_15_62 z_3_54 (by decide)
    exact cg_vret (nw := fun _ => 0) hC hr hlk hO.same (Nat.le_of_ble_eq_true rfl) (Nat.le_of_ble_eq_true rfl) (⟨c1, rfl⟩) ddX10_save_56
  · have q_15_64 := zr_nlt h_15_60
    have z_15_65 : zi 15 180 v_12_57 := zu_le q_15_64 z_12_58 (zi_k (a := 180) (b := 180) (x := 180) rfl) (by decide)
    have z_15_66 : zi 0 165 v_3_53 := zp_add q_12_59 z_15_65 z_3_54 (by decide)
    refine lv_aload_n hx hb ddX10_save_18 rfl (lv_at hl 1 rfl) ?_
    refine cg_get hC hO 0 (by decide) o0 rfl i_X10 4 (by decide) (List.mem_of_getElem? (i := 1) rfl) rfl ddX10_save_19 ?_
    refine lv_iconst (v := 0) hx hb ddX10_save_22 (by decide) ?_
    refine lv_aload_n hx hb ddX10_save_23 rfl (lv_at hl 2 rfl) ?_
    refine lv_iload_n hx hb ddX10_save_24 rfl (lv_at hl 0 rfl) ?_
    refine lv_iconst (v := 5) hx hb ddX10_save_25 (by decide) ?_
    refine zg_copy (a := (-2147483648)) (b := 2147483647) hC hl.1 hO (List.mem_of_getElem? (i := 2) rfl) (List.mem_of_getElem? (i := 3) rfl) (List.mem_of_getElem? (i := 4) rfl) (List.mem_of_getElem? (i := 5) rfl) 2 1 (by decide) (by decide) a2 rfl (za_all _) (za_all _) (zi_k (a := 0) (b := 0) (x := 0) rfl) z_15_66 (zi_k (a := 5) (b := 5) (x := 5) rfl) (by decide) (Nat.le_of_ble_eq_true rfl) (Nat.le_of_ble_eq_true rfl) ddX10_save_26 (fun H locs c_26_67 zc_26_68 hO => ?_)
    have hO : cO D cy A s.heap s 5 ad (cup [(1, .inl (cy 0, 180, .inl c_26_67))] g) _ _ := hO
    refine lv_aload_n hx hb ddX10_save_29 rfl (lv_at hl 1 rfl) ?_
    refine cg_get hC hO 0 (by decide) o0 rfl i_X10 6 (by decide) (List.mem_of_getElem? (i := 6) rfl) rfl ddX10_save_30 ?_
    refine lv_iconst (v := 0) hx hb ddX10_save_33 (by decide) ?_
    refine lv_aload_n hx hb ddX10_save_34 rfl (lv_at hl 2 rfl) ?_
    refine lv_iload_n hx hb ddX10_save_35 rfl (lv_at hl 0 rfl) ?_
    refine lv_iconst (v := 5) hx hb ddX10_save_36 (by decide) ?_
    refine lv_iadd hx hb ddX10_save_37 ?_
    refine zg_top2 (P := fun v => zi 5 170 v) (E := fun v => v.toInt = v_3_53.toInt + 5) (zi_addk z_15_66 (n := 5) (by decide) (by decide)) (fun v_37_69 z_37_70 q_37_71 => ?_)
    refine lv_iconst (v := 5) hx hb ddX10_save_38 (by decide) ?_
    refine zg_copy (a := (-2147483648)) (b := 2147483647) hC hl.1 hO (List.mem_of_getElem? (i := 2) rfl) (List.mem_of_getElem? (i := 3) rfl) (List.mem_of_getElem? (i := 4) rfl) (List.mem_of_getElem? (i := 5) rfl) 3 1 (by decide) (by decide) a3 rfl (za_all _) zc_26_68 (zi_k (a := 0) (b := 0) (x := 0) rfl) z_37_70 (zi_k (a := 5) (b := 5) (x := 5) rfl) (by decide) (Nat.le_of_ble_eq_true rfl) (Nat.le_of_ble_eq_true rfl) ddX10_save_39 (fun H locs c_39_72 zc_39_73 hO => ?_)
    have hO : cO D cy A s.heap s 5 ad (cup [(1, .inl (cy 0, 180, .inl c_39_72))] g) _ _ := hO
    refine lv_aload_n hx hb ddX10_save_42 rfl (lv_at hl 1 rfl) ?_
    refine cg_get hC hO 0 (by decide) o0 rfl i_X10 7 (by decide) (List.mem_of_getElem? (i := 7) rfl) rfl ddX10_save_43 ?_
    refine lv_iconst (v := 0) hx hb ddX10_save_46 (by decide) ?_
    refine lv_aload_n hx hb ddX10_save_47 rfl (lv_at hl 2 rfl) ?_
    refine lv_iload_n hx hb ddX10_save_48 rfl (lv_at hl 0 rfl) ?_
    refine lv_bipush (v := 10) hx hb ddX10_save_49 (by decide) ?_
    refine lv_iadd hx hb ddX10_save_51 ?_
    refine zg_top2 (P := fun v => zi 10 175 v) (E := fun v => v.toInt = v_3_53.toInt + 10) (zi_addk z_15_66 (n := 10) (by decide) (by decide)) (fun v_51_74 z_51_75 q_51_76 => ?_)
    refine lv_iconst (v := 5) hx hb ddX10_save_52 (by decide) ?_
    refine zg_copy (a := (-2147483648)) (b := 2147483647) hC hl.1 hO (List.mem_of_getElem? (i := 2) rfl) (List.mem_of_getElem? (i := 3) rfl) (List.mem_of_getElem? (i := 4) rfl) (List.mem_of_getElem? (i := 5) rfl) 4 1 (by decide) (by decide) a4 rfl (za_all _) zc_39_73 (zi_k (a := 0) (b := 0) (x := 0) rfl) z_51_75 (zi_k (a := 5) (b := 5) (x := 5) rfl) (by decide) (Nat.le_of_ble_eq_true rfl) (Nat.le_of_ble_eq_true rfl) ddX10_save_53 (fun H locs c_53_77 zc_53_78 hO => ?_)
    have hO : cO D cy A s.heap s 5 ad (cup [(1, .inl (cy 0, 180, .inl c_53_77))] g) _ _ := hO
    exact cg_vret (nw := fun _ => 0) hC hr hlk hO.same (Nat.le_of_ble_eq_true rfl) (Nat.le_of_ble_eq_true rfl) (⟨c_53_77, rfl⟩) ddX10_save_56

