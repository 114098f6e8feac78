theorem ddX3_begin_0 : decode cX3_begin 0 = .ok (.aload_n 0, 1) := by decide +kernel
theorem ddX3_begin_1 : decode cX3_begin 1 = .ok (.aload_n 0, 1) := by decide +kernel
theorem ddX3_begin_2 : decode cX3_begin 2 = .ok (.getfield 28, 3) := by decide +kernel
theorem ddX3_begin_5 : decode cX3_begin 5 = .ok (.aload_n 0, 1) := by decide +kernel
theorem ddX3_begin_6 : decode cX3_begin 6 = .ok (.getfield 9, 3) := by decide +kernel
theorem ddX3_begin_9 : decode cX3_begin 9 = .ok (.invokevirtual 96, 3) := by decide +kernel
theorem ddX3_begin_12 : decode cX3_begin 12 = .ok (.putfield 100, 3) := by decide +kernel
theorem ddX3_begin_15 : decode cX3_begin 15 = .ok (.aload_n 0, 1) := by decide +kernel
theorem ddX3_begin_16 : decode cX3_begin 16 = .ok (.getfield 9, 3) := by decide +kernel
theorem ddX3_begin_19 : decode cX3_begin 19 = .ok (.aload_n 0, 1) := by decide +kernel
theorem ddX3_begin_20 : decode cX3_begin 20 = .ok (.getfield 100, 3) := by decide +kernel
theorem ddX3_begin_23 : decode cX3_begin 23 = .ok (.aload_n 0, 1) := by decide +kernel
theorem ddX3_begin_24 : decode cX3_begin 24 = .ok (.getfield 28, 3) := by decide +kernel
theorem ddX3_begin_27 : decode cX3_begin 27 = .ok (.getfield 103, 3) := by decide +kernel
theorem ddX3_begin_30 : decode cX3_begin 30 = .ok (.invokestatic 106, 3) := by decide +kernel
theorem ddX3_begin_33 : decode cX3_begin 33 = .ok (.aload_n 0, 1) := by decide +kernel
theorem ddX3_begin_34 : decode cX3_begin 34 = .ok (.getfield 41, 3) := by decide +kernel
theorem ddX3_begin_37 : decode cX3_begin 37 = .ok (.aload_n 0, 1) := by decide +kernel
theorem ddX3_begin_38 : decode cX3_begin 38 = .ok (.getfield 28, 3) := by decide +kernel
theorem ddX3_begin_41 : decode cX3_begin 41 = .ok (.getfield 73, 3) := by decide +kernel
theorem ddX3_begin_44 : decode cX3_begin 44 = .ok (.invokevirtual 110, 3) := by decide +kernel
theorem ddX3_begin_47 : decode cX3_begin 47 = .ok (.return_, 1) := by decide +kernel
def wq_k_X3_begin : List Cond := Cond.code yX3_begin cX3_begin 1 none :: (([Cond.fieldLink RX3 28 "CrowToll$Keepers" "stand" "LCrowToll$Stand;", Cond.fieldLink RX3 9 "CrowToll$Keepers" "order" "[I", Cond.methodLink RX3 96 yX9_coming, Cond.instanceMethod yX9_coming, Cond.selects RX9 yX9_coming yX9_coming, Cond.initialized RX9, Cond.code yX9_coming cX9_coming 4 (some .int), Cond.fieldLink RX9 21 "CrowToll$Stand" "carts" "I", Cond.fieldLink RX9 37 "CrowToll$Stand" "comes" "I", Cond.code yX11_has cX11_has 2 (some .boolean), Cond.static yX11_has, Cond.initialized RX11, Cond.fieldLink RX3 100 "CrowToll$Keepers" "going" "I", Cond.fieldLink RX3 103 "CrowToll$Stand" "minute" "[I", Cond.code yX11_putByMinutes cX11_putByMinutes 6 none, Cond.static yX11_putByMinutes, Cond.fieldLink RX3 41 "CrowToll$Keepers" "watch" "LCrowToll$Watch;", Cond.fieldLink RX3 73 "CrowToll$Stand" "counts" "[I", Cond.methodLink RX3 110 yX10_sit, Cond.instanceMethod yX10_sit, Cond.selects RX10 yX10_sit yX10_sit, Cond.initialized RX10, Cond.code yX10_sit cX10_sit 2 none, Cond.fieldLink RX10 9 "CrowToll$Watch" "limit" "[I", Cond.methodLink RX10 37 arraycopyName, Cond.native arraycopyName, Cond.static arraycopyName, Cond.initialized "java/lang/System", Cond.fieldLink RX10 33 "CrowToll$Watch" "road" "LCrowToll$Road;", Cond.fieldLink RX10 43 "CrowToll$Road" "seat" "[I", Cond.fieldLink RX10 15 "CrowToll$Watch" "seat" "[I", Cond.fieldLink RX10 46 "CrowToll$Road" "seated" "[I", Cond.fieldLink RX10 18 "CrowToll$Watch" "seated" "[I", Cond.methodLink RX10 47 yX10_begin, Cond.instanceMethod yX10_begin, Cond.selects RX10 yX10_begin yX10_begin, Cond.code yX10_begin cX10_begin 1 none, Cond.fieldLink RX10 21 "CrowToll$Watch" "count" "[I", Cond.methodLink RX10 54 yJ7_fill_53178, Cond.static yJ7_fill_53178, Cond.initialized RJ7, Cond.code yJ7_fill_53178 cJ7_fill_53178 4 none, Cond.fieldLink RX10 24 "CrowToll$Watch" "total" "[I", Cond.fieldLink RX10 27 "CrowToll$Watch" "lookedAt" "[I", Cond.fieldLink RX10 30 "CrowToll$Watch" "countedAt" "[I"] : List Cond) ++ wsX30 ++ wsX70 ++ wsX90 ++ wsX100)
set_option maxRecDepth 20000 in
theorem gr_k_X3_begin_k_X9_coming : GoodIn wq_k_X3_begin wq_k_X9_coming := List.forall_mem_cons.mpr ⟨⟨(List.mem_of_getElem? (i := 7) rfl), good_of_word rfl⟩, List.forall_mem_append.mpr ⟨List.forall_mem_cons.mpr ⟨⟨(List.mem_of_getElem? (i := 8) rfl), good_of_word rfl⟩, List.forall_mem_cons.mpr ⟨⟨(List.mem_of_getElem? (i := 9) rfl), good_of_word rfl⟩, List.forall_mem_cons.mpr ⟨⟨(List.mem_of_getElem? (i := 10) rfl), good_of_word rfl⟩, List.forall_mem_cons.mpr ⟨⟨(List.mem_of_getElem? (i := 11) rfl), good_of_word rfl⟩, List.forall_mem_cons.mpr ⟨⟨(List.mem_of_getElem? (i := 12) rfl), good_of_word rfl⟩, (fun _ h => absurd h List.not_mem_nil)⟩⟩⟩⟩⟩, fun w h => ⟨(fun w h => List.mem_cons_of_mem _ (List.mem_append_left _ (List.mem_append_right _ h))) w h, good_of_word (List.all_eq_true.mp gw_X9 w h)⟩⟩⟩
set_option maxRecDepth 20000 in
theorem gq_k_X3_begin_k_X9_coming_96 : GoodIn wq_k_X3_begin (wsV RX3 96 RX9 yX9_coming wq_k_X9_coming) := goodIn_app (List.forall_mem_cons.mpr ⟨⟨(List.mem_of_getElem? (i := 3) rfl), good_of_word rfl⟩, List.forall_mem_cons.mpr ⟨⟨(List.mem_of_getElem? (i := 4) rfl), good_of_word rfl⟩, List.forall_mem_cons.mpr ⟨⟨(List.mem_of_getElem? (i := 5) rfl), good_of_word rfl⟩, List.forall_mem_cons.mpr ⟨⟨(List.mem_of_getElem? (i := 6) rfl), good_of_word rfl⟩, (fun _ h => absurd h List.not_mem_nil)⟩⟩⟩⟩) gr_k_X3_begin_k_X9_coming
set_option maxRecDepth 20000 in
theorem gr_k_X3_begin_k_X11_putByMinutes_24 : GoodIn wq_k_X3_begin wq_k_X11_putByMinutes_24 := List.forall_mem_cons.mpr ⟨⟨(List.mem_of_getElem? (i := 15) rfl), good_of_word rfl⟩, (fun _ h => absurd h List.not_mem_nil)⟩
theorem gq_k_X3_begin_k_X11_putByMinutes_24 : GoodIn wq_k_X3_begin wq_k_X11_putByMinutes_24 := gr_k_X3_begin_k_X11_putByMinutes_24
set_option maxRecDepth 20000 in
theorem gr_k_X3_begin_k_X10_sit : GoodIn wq_k_X3_begin wq_k_X10_sit := List.forall_mem_cons.mpr ⟨⟨(List.mem_of_getElem? (i := 23) rfl), good_of_word rfl⟩, List.forall_mem_append.mpr ⟨List.forall_mem_append.mpr ⟨List.forall_mem_cons.mpr ⟨⟨(List.mem_of_getElem? (i := 24) rfl), good_of_word rfl⟩, List.forall_mem_cons.mpr ⟨⟨(List.mem_of_getElem? (i := 25) rfl), good_of_word rfl⟩, List.forall_mem_cons.mpr ⟨⟨(List.mem_of_getElem? (i := 26) rfl), good_of_word rfl⟩, List.forall_mem_cons.mpr ⟨⟨(List.mem_of_getElem? (i := 27) rfl), good_of_word rfl⟩, List.forall_mem_cons.mpr ⟨⟨(List.mem_of_getElem? (i := 28) rfl), good_of_word rfl⟩, List.forall_mem_cons.mpr ⟨⟨(List.mem_of_getElem? (i := 29) rfl), good_of_word rfl⟩, List.forall_mem_cons.mpr ⟨⟨(List.mem_of_getElem? (i := 30) rfl), good_of_word rfl⟩, List.forall_mem_cons.mpr ⟨⟨(List.mem_of_getElem? (i := 31) rfl), good_of_word rfl⟩, List.forall_mem_cons.mpr ⟨⟨(List.mem_of_getElem? (i := 32) rfl), good_of_word rfl⟩, List.forall_mem_cons.mpr ⟨⟨(List.mem_of_getElem? (i := 33) rfl), good_of_word rfl⟩, List.forall_mem_cons.mpr ⟨⟨(List.mem_of_getElem? (i := 34) rfl), good_of_word rfl⟩, List.forall_mem_cons.mpr ⟨⟨(List.mem_of_getElem? (i := 35) rfl), good_of_word rfl⟩, List.forall_mem_cons.mpr ⟨⟨(List.mem_of_getElem? (i := 36) rfl), good_of_word rfl⟩, List.forall_mem_cons.mpr ⟨⟨(List.mem_of_getElem? (i := 22) rfl), good_of_word rfl⟩, List.forall_mem_cons.mpr ⟨⟨(List.mem_of_getElem? (i := 37) rfl), good_of_word rfl⟩, List.forall_mem_cons.mpr ⟨⟨(List.mem_of_getElem? (i := 38) rfl), good_of_word rfl⟩, List.forall_mem_cons.mpr ⟨⟨(List.mem_of_getElem? (i := 39) rfl), good_of_word rfl⟩, List.forall_mem_cons.mpr ⟨⟨(List.mem_of_getElem? (i := 40) rfl), good_of_word rfl⟩, List.forall_mem_cons.mpr ⟨⟨(List.mem_of_getElem? (i := 41) rfl), good_of_word rfl⟩, List.forall_mem_cons.mpr ⟨⟨(List.mem_of_getElem? (i := 42) rfl), good_of_word rfl⟩, List.forall_mem_cons.mpr ⟨⟨(List.mem_of_getElem? (i := 43) rfl), good_of_word rfl⟩, List.forall_mem_cons.mpr ⟨⟨(List.mem_of_getElem? (i := 44) rfl), good_of_word rfl⟩, List.forall_mem_cons.mpr ⟨⟨(List.mem_of_getElem? (i := 45) rfl), good_of_word rfl⟩, (fun _ h => absurd h List.not_mem_nil)⟩⟩⟩⟩⟩⟩⟩⟩⟩⟩⟩⟩⟩⟩⟩⟩⟩⟩⟩⟩⟩⟩⟩, fun w h => ⟨(fun w h => List.mem_cons_of_mem _ (List.mem_append_left _ (List.mem_append_left _ (List.mem_append_right _ h)))) w h, good_of_word (List.all_eq_true.mp gw_X7 w h)⟩⟩, fun w h => ⟨(fun w h => List.mem_cons_of_mem _ (List.mem_append_right _ h)) w h, good_of_word (List.all_eq_true.mp gw_X10 w h)⟩⟩⟩
set_option maxRecDepth 20000 in
theorem gq_k_X3_begin_k_X10_sit_110 : GoodIn wq_k_X3_begin (wsV RX3 110 RX10 yX10_sit wq_k_X10_sit) := goodIn_app (List.forall_mem_cons.mpr ⟨⟨(List.mem_of_getElem? (i := 19) rfl), good_of_word rfl⟩, List.forall_mem_cons.mpr ⟨⟨(List.mem_of_getElem? (i := 20) rfl), good_of_word rfl⟩, List.forall_mem_cons.mpr ⟨⟨(List.mem_of_getElem? (i := 21) rfl), good_of_word rfl⟩, List.forall_mem_cons.mpr ⟨⟨(List.mem_of_getElem? (i := 22) rfl), good_of_word rfl⟩, (fun _ h => absurd h List.not_mem_nil)⟩⟩⟩⟩) gr_k_X3_begin_k_X10_sit
set_option maxHeartbeats 8000000 in
set_option maxRecDepth 100000 in
theorem k_X3_begin (l : Launch) (D : va_G) (cy : Nat → ClassId) (ad : Nat → Nat) (g : Nat → va_E) {u0_0 : Value} {u0_2 : Value} {x0_5 : Int32} {u0_6 : Value} {u0_7 : Value} {u0_8 : Value} {u1_1 : Value} {x1_2 : Int32} {x1_4 : Int32} {c2 : Nat → Int32} {c3 : Nat → Int32} {u5_0 : Value} {u5_1 : Value} {u5_2 : Value} {u5_3 : Value} {u5_4 : Value} {u5_5 : Value} {u5_6 : Value} {u5_7 : Value} {u5_8 : Value} {u5_11 : Value} {u5_12 : Value} {u5_13 : Value} {u5_14 : Value} {u5_15 : Value} {u5_16 : Value} {u5_17 : Value} {c6 : Nat → Int32} {c7 : Nat → Int32} {c8 : Nat → Int32} {c9 : Nat → Int32} {c10 : Nat → Int32} {c11 : Nat → Int32} {c12 : Nat → Int32} {c13 : Nat → Int32} {c14 : Nat → Int32} {c15 : Nat → Int32} (o0 : g 0 = .inr (3, [u0_0, .ref (ad 1), u0_2, .ref (ad 4), .ref (ad 2), .int x0_5, u0_6, u0_7, u0_8])) (o1 : g 1 = .inr (9, [.ref (ad 3), u1_1, .int x1_2, .ref (ad 15), .int x1_4])) (a2 : g 2 = .inl (cy 0, 24, .inl c2)) (a3 : g 3 = .inl (cy 0, 24, .inl c3)) (o4 : g 4 = .inr (10, [.ref (ad 5), .ref (ad 8), .ref (ad 9), .ref (ad 10), .ref (ad 11), .ref (ad 12), .ref (ad 13), .ref (ad 14)])) (o5 : g 5 = .inr (7, [u5_0, u5_1, u5_2, u5_3, u5_4, u5_5, u5_6, u5_7, u5_8, .ref (ad 6), .ref (ad 7), u5_11, u5_12, u5_13, u5_14, u5_15, u5_16, u5_17])) (a6 : g 6 = .inl (cy 0, 20, .inl c6)) (a7 : g 7 = .inl (cy 0, 4, .inl c7)) (a8 : g 8 = .inl (cy 0, 5, .inl c8)) (a9 : g 9 = .inl (cy 0, 20, .inl c9)) (a10 : g 10 = .inl (cy 0, 4, .inl c10)) (a11 : g 11 = .inl (cy 0, 5, .inl c11)) (a12 : g 12 = .inl (cy 0, 5, .inl c12)) (a13 : g 13 = .inl (cy 0, 5, .inl c13)) (a14 : g 14 = .inl (cy 0, 5, .inl c14)) (a15 : g 15 = .inl (cy 0, 5, .inl c15)) (b0_5 : zi 0 24 x0_5) (b1_4 : zi 0 24 x1_4) (ha2 : za 0 23 c2) (ha6 : za 0 4 c6) (ha7 : za 0 5 c7) (ha9 : za 0 4 c9) (ha10 : za 0 5 c10) : cMv l yX3_begin wq_k_X3_begin { frames := 3, cells := 0, slots := 0, locals := 81 } 16 0 0 0 D cy ad g [.ref (ad 0)] (fun nw lu => ∃ (y0_5 : Int32) (d2 : Nat → Int32) (d8 : Nat → Int32) (d9 : Nat → Int32) (d10 : Nat → Int32) (d11 : Nat → Int32) (d12 : Nat → Int32) (d13 : Nat → Int32) (d14 : Nat → Int32), (zi 0 24 y0_5) ∧ (za 0 23 d2) ∧ (za 0 4 d9) ∧ (za 0 5 d10) ∧ (lu = [(0, .inr (3, [u0_0, .ref (ad 1), u0_2, .ref (ad 4), .ref (ad 2), .int y0_5, u0_6, u0_7, u0_8])), (2, .inl (cy 0, 24, .inl d2)), (8, .inl (cy 0, 5, .inl d8)), (9, .inl (cy 0, 20, .inl d9)), (10, .inl (cy 0, 4, .inl d10)), (11, .inl (cy 0, 5, .inl d11)), (12, .inl (cy 0, 5, .inl d12)), (13, .inl (cy 0, 5, .inl d13)), (14, .inl (cy 0, 5, .inl d14))])) := by
  refine cM_of (Qc := fun A => cQv (fun nw lu => ∃ (y0_5 : Int32) (d2 : Nat → Int32) (d8 : Nat → Int32) (d9 : Nat → Int32) (d10 : Nat → Int32) (d11 : Nat → Int32) (d12 : Nat → Int32) (d13 : Nat → Int32) (d14 : Nat → Int32), (zi 0 24 y0_5) ∧ (za 0 23 d2) ∧ (za 0 4 d9) ∧ (za 0 5 d10) ∧ (lu = [(0, .inr (3, [u0_0, .ref (ad 1), u0_2, .ref (ad 4), .ref (ad 2), .int y0_5, u0_6, u0_7, u0_8])), (2, .inl (cy 0, 24, .inl d2)), (8, .inl (cy 0, 5, .inl d8)), (9, .inl (cy 0, 20, .inl d9)), (10, .inl (cy 0, 4, .inl d10)), (11, .inl (cy 0, 5, .inl d11)), (12, .inl (cy 0, 5, .inl d12)), (13, .inl (cy 0, 5, .inl d13)), (14, .inl (cy 0, 5, .inl d14))])) D 16 0 ad g A) (cc := cX3_begin) (maxL := 1) (ret := none) (by decide) rfl (Nat.le_of_ble_eq_true rfl) ?_
  intro p e s m below meth c A hC hr hlk hnm hO ls hl
  have hC : CallFix p m c cX3_begin 1 s [.ref (ad 0)].toArray wq_k_X3_begin RX3 := hC
  obtain ⟨hx, hb, hml, hown, hts⟩ := id hC
  have hl : lv_has ls 1 [(0, .ref (ad 0))] := hl
  have i_X10 : ∀ w ∈ wsX100, w ∈ wq_k_X3_begin := fun w h => List.mem_cons_of_mem _ (List.mem_append_right _ h)
  have i_X3 : ∀ w ∈ wsX30, w ∈ wq_k_X3_begin := fun w h => List.mem_cons_of_mem _ (List.mem_append_left _ (List.mem_append_left _ (List.mem_append_left _ (List.mem_append_right _ h))))
  have i_X7 : ∀ w ∈ wsX70, w ∈ wq_k_X3_begin := fun w h => List.mem_cons_of_mem _ (List.mem_append_left _ (List.mem_append_left _ (List.mem_append_right _ h)))
  have i_X9 : ∀ w ∈ wsX90, w ∈ wq_k_X3_begin := fun w h => List.mem_cons_of_mem _ (List.mem_append_left _ (List.mem_append_right _ h))
  have hO := hO.notes [(0, .inr (3, [u0_0, .ref (ad 1), u0_2, .ref (ad 4), .ref (ad 2), .int x0_5, u0_6, u0_7, u0_8])), (2, .inl (cy 0, 24, .inl c2)), (8, .inl (cy 0, 5, .inl c8)), (9, .inl (cy 0, 20, .inl c9)), (10, .inl (cy 0, 4, .inl c10)), (11, .inl (cy 0, 5, .inl c11)), (12, .inl (cy 0, 5, .inl c12)), (13, .inl (cy 0, 5, .inl c13)), (14, .inl (cy 0, 5, .inl c14))] (List.forall_mem_cons.mpr ⟨o0, List.forall_mem_cons.mpr ⟨a2, List.forall_mem_cons.mpr ⟨a8, List.forall_mem_cons.mpr ⟨a9, List.forall_mem_cons.mpr ⟨a10, List.forall_mem_cons.mpr ⟨a11, List.forall_mem_cons.mpr ⟨a12, List.forall_mem_cons.mpr ⟨a13, List.forall_mem_cons.mpr ⟨a14, (fun _ h => absurd h List.not_mem_nil)⟩⟩⟩⟩⟩⟩⟩⟩⟩)
  refine lv_aload_n hx hb ddX3_begin_0 rfl (lv_at hl 0 rfl) ?_
  refine lv_aload_n hx hb ddX3_begin_1 rfl (lv_at hl 0 rfl) ?_
  refine cg_get hC hO 0 (by decide) rfl rfl i_X3 1 (by decide) (List.mem_of_getElem? (i := 1) rfl) rfl ddX3_begin_2 ?_
  refine lv_aload_n hx hb ddX3_begin_5 rfl (lv_at hl 0 rfl) ?_
  refine cg_get hC hO 0 (by decide) rfl rfl i_X3 4 (by decide) (List.mem_of_getElem? (i := 2) rfl) rfl ddX3_begin_6 ?_
  refine cg_Vi (As := [.ref (ad 2)]) (rest := [.ref (ad 0)]) (mc := 0) (ms := 0) (rm := { frames := 1, cells := 0, slots := 0, locals := 21 }) hC hl.1 hO [1, 2] (by decide +kernel) (k_X9_coming l D cy _ _ (u0_0 := .ref (ad 3)) (u0_1 := u1_1) (x0_2 := x1_2) (u0_3 := .ref (ad 15)) (x0_4 := x1_4) (c1 := c2) o1 rfl b1_4 ha2) gq_k_X3_begin_k_X9_coming_96 rfl rfl rfl 1 (by decide +kernel) ⟨Nat.le_of_ble_eq_true rfl, Nat.le_of_ble_eq_true rfl⟩ rfl (by decide) o1 rfl rfl (Nat.le_of_ble_eq_true rfl) ddX3_begin_9 ⟨Nat.le_of_ble_eq_true rfl, Nat.le_of_ble_eq_true rfl⟩ (fun r_9_49 nw_9_47 l_9_48 H locs hw hO => ?_)
  obtain ⟨d1_9_50, z_9_51, z_9_52, rfl⟩ := hw
  have hO := hO.mrg (lk := [(2, .inl (cy 0, 24, .inl d1_9_50))]) (lm := [(0, .inr (3, [u0_0, .ref (ad 1), u0_2, .ref (ad 4), .ref (ad 2), .int x0_5, u0_6, u0_7, u0_8])), (2, .inl (cy 0, 24, .inl d1_9_50)), (8, .inl (cy 0, 5, .inl c8)), (9, .inl (cy 0, 20, .inl c9)), (10, .inl (cy 0, 4, .inl c10)), (11, .inl (cy 0, 5, .inl c11)), (12, .inl (cy 0, 5, .inl c12)), (13, .inl (cy 0, 5, .inl c13)), (14, .inl (cy 0, 5, .inl c14))]) rfl rfl rfl
  refine cg_put hC hO 0 (by decide) rfl rfl i_X3 tyX3_ok nmX3 5 (by decide) (List.mem_of_getElem? (i := 13) rfl) rfl rfl rfl (Nat.le_of_ble_eq_true rfl) ddX3_begin_12 (fun H locs hO => ?_)
  have hO : cO D cy A s.heap s 16 ad (cup [(0, .inr (3, [u0_0, .ref (ad 1), u0_2, .ref (ad 4), .ref (ad 2), .int r_9_49, u0_6, u0_7, u0_8])), (2, .inl (cy 0, 24, .inl d1_9_50)), (8, .inl (cy 0, 5, .inl c8)), (9, .inl (cy 0, 20, .inl c9)), (10, .inl (cy 0, 4, .inl c10)), (11, .inl (cy 0, 5, .inl c11)), (12, .inl (cy 0, 5, .inl c12)), (13, .inl (cy 0, 5, .inl c13)), (14, .inl (cy 0, 5, .inl c14))] g) _ _ := hO
  refine lv_aload_n hx hb ddX3_begin_15 rfl (lv_at hl 0 rfl) ?_
  refine cg_get hC hO 0 (by decide) rfl rfl i_X3 4 (by decide) (List.mem_of_getElem? (i := 2) rfl) rfl ddX3_begin_16 ?_
  refine lv_aload_n hx hb ddX3_begin_19 rfl (lv_at hl 0 rfl) ?_
  refine cg_get hC hO 0 (by decide) rfl rfl i_X3 5 (by decide) (List.mem_of_getElem? (i := 13) rfl) rfl ddX3_begin_20 ?_
  refine lv_aload_n hx hb ddX3_begin_23 rfl (lv_at hl 0 rfl) ?_
  refine cg_get hC hO 0 (by decide) rfl rfl i_X3 1 (by decide) (List.mem_of_getElem? (i := 1) rfl) rfl ddX3_begin_24 ?_
  refine cg_get hC hO 1 (by decide) o1 rfl i_X9 0 (by decide) (List.mem_of_getElem? (i := 14) rfl) rfl ddX3_begin_27 ?_
  refine cg_Nv (As := [.ref (ad 2), .int r_9_49, .ref (ad 3)]) (rest := []) (mc := 0) (ms := 0) (rm := { frames := 0, cells := 0, slots := 0, locals := 0 }) hC hl.1 hO [2, 3] (by decide +kernel) (k_X11_putByMinutes_24 l D cy _ _ (c0 := d1_9_50) (n := r_9_49) (c1 := c3) rfl a3 z_9_51 z_9_52) gq_k_X3_begin_k_X11_putByMinutes_24 rfl rfl rfl (host := "CrowToll") (nestL_mem_10) (List.mem_of_getElem? (i := 16) rfl) (List.mem_of_getElem? (i := 12) rfl) 3 (by decide +kernel) ⟨Nat.le_of_ble_eq_true rfl, Nat.le_of_ble_eq_true rfl⟩ rfl rfl (Nat.le_of_ble_eq_true rfl) ddX3_begin_30 ⟨Nat.le_of_ble_eq_true rfl, Nat.le_of_ble_eq_true rfl⟩ (fun nw_30_53 l_30_54 H locs hw hO => ?_)
  obtain ⟨d0_30_56, z_30_57, rfl⟩ := hw
  have hO := hO.mrg (lk := [(2, .inl (cy 0, 24, .inl d0_30_56))]) (lm := [(0, .inr (3, [u0_0, .ref (ad 1), u0_2, .ref (ad 4), .ref (ad 2), .int r_9_49, u0_6, u0_7, u0_8])), (2, .inl (cy 0, 24, .inl d0_30_56)), (8, .inl (cy 0, 5, .inl c8)), (9, .inl (cy 0, 20, .inl c9)), (10, .inl (cy 0, 4, .inl c10)), (11, .inl (cy 0, 5, .inl c11)), (12, .inl (cy 0, 5, .inl c12)), (13, .inl (cy 0, 5, .inl c13)), (14, .inl (cy 0, 5, .inl c14))]) rfl rfl rfl
  refine lv_aload_n hx hb ddX3_begin_33 rfl (lv_at hl 0 rfl) ?_
  refine cg_get hC hO 0 (by decide) rfl rfl i_X3 3 (by decide) (List.mem_of_getElem? (i := 17) rfl) rfl ddX3_begin_34 ?_
  refine lv_aload_n hx hb ddX3_begin_37 rfl (lv_at hl 0 rfl) ?_
  refine cg_get hC hO 0 (by decide) rfl rfl i_X3 1 (by decide) (List.mem_of_getElem? (i := 1) rfl) rfl ddX3_begin_38 ?_
  refine cg_get hC hO 1 (by decide) o1 rfl i_X9 3 (by decide) (List.mem_of_getElem? (i := 18) rfl) rfl ddX3_begin_41 ?_
  refine cg_Vv (As := [.ref (ad 15)]) (rest := []) (mc := 0) (ms := 0) (rm := { frames := 2, cells := 0, slots := 0, locals := 60 }) hC hl.1 hO [4, 15, 8, 5, 6, 9, 7, 10, 11, 12, 13, 14] (by decide +kernel) (k_X10_sit l D cy _ _ (u3_0 := u5_0) (u3_1 := u5_1) (u3_2 := u5_2) (u3_3 := u5_3) (u3_4 := u5_4) (u3_5 := u5_5) (u3_6 := u5_6) (u3_7 := u5_7) (u3_8 := u5_8) (c4 := c6) (c6 := c7) (u3_11 := u5_11) (u3_12 := u5_12) (u3_13 := u5_13) (u3_14 := u5_14) (u3_15 := u5_15) (u3_16 := u5_16) (u3_17 := u5_17) (c2 := c8) (c5 := c9) (c7 := c10) (c8 := c11) (c9 := c12) (c10 := c13) (c11 := c14) (c1 := c15) o4 a15 rfl o5 a6 rfl a7 rfl rfl rfl rfl rfl ha6 ha9 ha7 ha10) gq_k_X3_begin_k_X10_sit_110 rfl rfl rfl 1 (by decide +kernel) ⟨Nat.le_of_ble_eq_true rfl, Nat.le_of_ble_eq_true rfl⟩ rfl (by decide) o4 rfl rfl (Nat.le_of_ble_eq_true rfl) ddX3_begin_44 ⟨Nat.le_of_ble_eq_true rfl, Nat.le_of_ble_eq_true rfl⟩ (fun nw_44_58 l_44_59 H locs hw hO => ?_)
  obtain ⟨d2_44_61, d5_44_62, d7_44_63, d8_44_64, d9_44_65, d10_44_66, d11_44_67, z_44_68, z_44_69, rfl⟩ := hw
  have hO := hO.mrg (lk := [(8, .inl (cy 0, 5, .inl d2_44_61)), (9, .inl (cy 0, 20, .inl d5_44_62)), (10, .inl (cy 0, 4, .inl d7_44_63)), (11, .inl (cy 0, 5, .inl d8_44_64)), (12, .inl (cy 0, 5, .inl d9_44_65)), (13, .inl (cy 0, 5, .inl d10_44_66)), (14, .inl (cy 0, 5, .inl d11_44_67))]) (lm := [(0, .inr (3, [u0_0, .ref (ad 1), u0_2, .ref (ad 4), .ref (ad 2), .int r_9_49, u0_6, u0_7, u0_8])), (2, .inl (cy 0, 24, .inl d0_30_56)), (8, .inl (cy 0, 5, .inl d2_44_61)), (9, .inl (cy 0, 20, .inl d5_44_62)), (10, .inl (cy 0, 4, .inl d7_44_63)), (11, .inl (cy 0, 5, .inl d8_44_64)), (12, .inl (cy 0, 5, .inl d9_44_65)), (13, .inl (cy 0, 5, .inl d10_44_66)), (14, .inl (cy 0, 5, .inl d11_44_67))]) rfl rfl rfl
  exact cg_vret (nw := fun _ => 0) hC hr hlk hO.same (Nat.le_of_ble_eq_true rfl) (Nat.le_of_ble_eq_true rfl) (⟨r_9_49, d0_30_56, d2_44_61, d5_44_62, d7_44_63, d8_44_64, d9_44_65, d10_44_66, d11_44_67, z_9_52, z_30_57, z_44_68, z_44_69, rfl⟩) ddX3_begin_47

theorem ddX3_takenAt_0 : decode cX3_takenAt 0 = .ok (.iconst 0, 1) := by decide +kernel
theorem ddX3_takenAt_1 : decode cX3_takenAt 1 = .ok (.istore_n 2, 1) := by decide +kernel
theorem ddX3_takenAt_2 : decode cX3_takenAt 2 = .ok (.iconst 0, 1) := by decide +kernel
theorem ddX3_takenAt_3 : decode cX3_takenAt 3 = .ok (.istore_n 3, 1) := by decide +kernel
theorem ddX3_takenAt_4 : decode cX3_takenAt 4 = .ok (.iload_n 3, 1) := by decide +kernel
theorem ddX3_takenAt_5 : decode cX3_takenAt 5 = .ok (.aload_n 0, 1) := by decide +kernel
theorem ddX3_takenAt_6 : decode cX3_takenAt 6 = .ok (.getfield 100, 3) := by decide +kernel
theorem ddX3_takenAt_9 : decode cX3_takenAt 9 = .ok (.if_icmp .ge 84, 3) := by decide +kernel
theorem ddX3_takenAt_12 : decode cX3_takenAt 12 = .ok (.aload_n 0, 1) := by decide +kernel
theorem ddX3_takenAt_13 : decode cX3_takenAt 13 = .ok (.getfield 9, 3) := by decide +kernel
theorem ddX3_takenAt_16 : decode cX3_takenAt 16 = .ok (.iload_n 3, 1) := by decide +kernel
theorem ddX3_takenAt_17 : decode cX3_takenAt 17 = .ok (.iaload, 1) := by decide +kernel
theorem ddX3_takenAt_18 : decode cX3_takenAt 18 = .ok (.istore 4, 2) := by decide +kernel
theorem ddX3_takenAt_20 : decode cX3_takenAt 20 = .ok (.aload_n 0, 1) := by decide +kernel
theorem ddX3_takenAt_21 : decode cX3_takenAt 21 = .ok (.getfield 41, 3) := by decide +kernel
theorem ddX3_takenAt_24 : decode cX3_takenAt 24 = .ok (.iload_n 1, 1) := by decide +kernel
theorem ddX3_takenAt_25 : decode cX3_takenAt 25 = .ok (.aload_n 0, 1) := by decide +kernel
theorem ddX3_takenAt_26 : decode cX3_takenAt 26 = .ok (.getfield 28, 3) := by decide +kernel
theorem ddX3_takenAt_29 : decode cX3_takenAt 29 = .ok (.getfield 103, 3) := by decide +kernel
theorem ddX3_takenAt_32 : decode cX3_takenAt 32 = .ok (.iload 4, 2) := by decide +kernel
theorem ddX3_takenAt_34 : decode cX3_takenAt 34 = .ok (.iaload, 1) := by decide +kernel
theorem ddX3_takenAt_35 : decode cX3_takenAt 35 = .ok (.aload_n 0, 1) := by decide +kernel
theorem ddX3_takenAt_36 : decode cX3_takenAt 36 = .ok (.getfield 24, 3) := by decide +kernel
theorem ddX3_takenAt_39 : decode cX3_takenAt 39 = .ok (.getfield 120, 3) := by decide +kernel
theorem ddX3_takenAt_42 : decode cX3_takenAt 42 = .ok (.iload_n 1, 1) := by decide +kernel
theorem ddX3_takenAt_43 : decode cX3_takenAt 43 = .ok (.iaload, 1) := by decide +kernel
theorem ddX3_takenAt_44 : decode cX3_takenAt 44 = .ok (.iadd, 1) := by decide +kernel
theorem ddX3_takenAt_45 : decode cX3_takenAt 45 = .ok (.invokevirtual 123, 3) := by decide +kernel
theorem ddX3_takenAt_48 : decode cX3_takenAt 48 = .ok (.istore 5, 2) := by decide +kernel
theorem ddX3_takenAt_50 : decode cX3_takenAt 50 = .ok (.iload 5, 2) := by decide +kernel
theorem ddX3_takenAt_52 : decode cX3_takenAt 52 = .ok (.iconst (-1), 1) := by decide +kernel
theorem ddX3_takenAt_53 : decode cX3_takenAt 53 = .ok (.if_icmp .eq 34, 3) := by decide +kernel
theorem ddX3_takenAt_56 : decode cX3_takenAt 56 = .ok (.iload_n 2, 1) := by decide +kernel
theorem ddX3_takenAt_57 : decode cX3_takenAt 57 = .ok (.aload_n 0, 1) := by decide +kernel
theorem ddX3_takenAt_58 : decode cX3_takenAt 58 = .ok (.getfield 32, 3) := by decide +kernel
theorem ddX3_takenAt_61 : decode cX3_takenAt 61 = .ok (.iload_n 1, 1) := by decide +kernel
theorem ddX3_takenAt_62 : decode cX3_takenAt 62 = .ok (.aload_n 0, 1) := by decide +kernel
theorem ddX3_takenAt_63 : decode cX3_takenAt 63 = .ok (.getfield 28, 3) := by decide +kernel
theorem ddX3_takenAt_66 : decode cX3_takenAt 66 = .ok (.getfield 126, 3) := by decide +kernel
theorem ddX3_takenAt_69 : decode cX3_takenAt 69 = .ok (.iload 4, 2) := by decide +kernel
theorem ddX3_takenAt_71 : decode cX3_takenAt 71 = .ok (.iaload, 1) := by decide +kernel
theorem ddX3_takenAt_72 : decode cX3_takenAt 72 = .ok (.aload_n 0, 1) := by decide +kernel
theorem ddX3_takenAt_73 : decode cX3_takenAt 73 = .ok (.getfield 41, 3) := by decide +kernel
theorem ddX3_takenAt_76 : decode cX3_takenAt 76 = .ok (.getfield 129, 3) := by decide +kernel
theorem ddX3_takenAt_79 : decode cX3_takenAt 79 = .ok (.iload 5, 2) := by decide +kernel
theorem ddX3_takenAt_81 : decode cX3_takenAt 81 = .ok (.iaload, 1) := by decide +kernel
theorem ddX3_takenAt_82 : decode cX3_takenAt 82 = .ok (.invokevirtual 132, 3) := by decide +kernel
theorem ddX3_takenAt_85 : decode cX3_takenAt 85 = .ok (.iadd, 1) := by decide +kernel
theorem ddX3_takenAt_86 : decode cX3_takenAt 86 = .ok (.istore_n 2, 1) := by decide +kernel
theorem ddX3_takenAt_87 : decode cX3_takenAt 87 = .ok (.iinc 3 1, 3) := by decide +kernel
theorem ddX3_takenAt_90 : decode cX3_takenAt 90 = .ok (.goto (-86), 3) := by decide +kernel
theorem ddX3_takenAt_93 : decode cX3_takenAt 93 = .ok (.iload_n 2, 1) := by decide +kernel
theorem ddX3_takenAt_94 : decode cX3_takenAt 94 = .ok (.ireturn, 1) := by decide +kernel
def wq_k_X3_takenAt : List Cond := Cond.code yX3_takenAt cX3_takenAt 6 (some .int) :: (([Cond.fieldLink RX3 100 "CrowToll$Keepers" "going" "I", Cond.fieldLink RX3 9 "CrowToll$Keepers" "order" "[I", Cond.fieldLink RX3 41 "CrowToll$Keepers" "watch" "LCrowToll$Watch;", Cond.fieldLink RX3 28 "CrowToll$Keepers" "stand" "LCrowToll$Stand;", Cond.fieldLink RX3 103 "CrowToll$Stand" "minute" "[I", Cond.fieldLink RX3 24 "CrowToll$Keepers" "road" "LCrowToll$Road;", Cond.fieldLink RX3 120 "CrowToll$Road" "at" "[I", Cond.methodLink RX3 123 yX10_look, Cond.instanceMethod yX10_look, Cond.selects RX10 yX10_look yX10_look, Cond.initialized RX10, Cond.code yX10_look cX10_look 5 (some .int), Cond.fieldLink RX10 18 "CrowToll$Watch" "seated" "[I", Cond.fieldLink RX10 15 "CrowToll$Watch" "seat" "[I", Cond.fieldLink RX10 30 "CrowToll$Watch" "countedAt" "[I", Cond.fieldLink RX10 27 "CrowToll$Watch" "lookedAt" "[I", Cond.fieldLink RX10 33 "CrowToll$Watch" "road" "LCrowToll$Road;", Cond.fieldLink RX10 60 "CrowToll$Road" "gap" "[I", Cond.fieldLink RX10 21 "CrowToll$Watch" "count" "[I", Cond.fieldLink RX10 9 "CrowToll$Watch" "limit" "[I", Cond.fieldLink RX10 24 "CrowToll$Watch" "total" "[I", Cond.fieldLink RX10 63 "CrowToll$Road" "takes" "[I", Cond.fieldLink RX3 32 "CrowToll$Keepers" "prices" "LCrowToll$Prices;", Cond.fieldLink RX3 126 "CrowToll$Stand" "sacks" "[I", Cond.fieldLink RX3 129 "CrowToll$Watch" "count" "[I", Cond.methodLink RX3 132 yX5_of, Cond.instanceMethod yX5_of, Cond.selects RX5 yX5_of yX5_of, Cond.initialized RX5, Cond.code yX5_of cX5_of 5 (some .int), Cond.fieldLink RX5 15 "CrowToll$Prices" "known" "[I", Cond.fieldLink RX5 9 "CrowToll$Prices" "sacksKnown" "[I", Cond.fieldLink RX5 18 "CrowToll$Prices" "road" "LCrowToll$Road;", Cond.fieldLink RX5 28 "CrowToll$Road" "law" "LCrowToll$Law;", Cond.fieldLink RX5 34 "CrowToll$Road" "toll" "[I", Cond.methodLink RX5 37 yX4_pay, Cond.instanceMethod yX4_pay, Cond.selects RX4 yX4_pay yX4_pay, Cond.initialized RX4, Cond.code yX4_pay cX4_pay 7 (some .int), Cond.fieldLink RX4 25 "CrowToll$Law" "isTold" "Z", Cond.fieldLink RX4 18 "CrowToll$Law" "steps" "I", Cond.fieldLink RX4 11 "CrowToll$Law" "step" "[I", Cond.fieldLink RX4 15 "CrowToll$Law" "stack" "[I", Cond.methodLink RX4 39 Lib.Math.min.name, Cond.static Lib.Math.min.name, Cond.initialized "java/lang/Math", Cond.code Lib.Math.min.name Lib.Math.min.code 2 (some .int), Cond.methodLink RX4 45 Lib.Math.max.name, Cond.static Lib.Math.max.name, Cond.code Lib.Math.max.name Lib.Math.max.code 2 (some .int), Cond.methodLink RX4 35 yX4_joined, Cond.static yX4_joined, Cond.code yX4_joined cX4_joined 3 (some .int)] : List Cond) ++ wsX30 ++ wsX40 ++ wsX50 ++ wsX70 ++ wsX90 ++ wsX100)
set_option maxRecDepth 20000 in
theorem gr_k_X3_takenAt_k_X10_look : GoodIn wq_k_X3_takenAt wq_k_X10_look := List.forall_mem_cons.mpr ⟨⟨(List.mem_of_getElem? (i := 12) rfl), good_of_word rfl⟩, List.forall_mem_append.mpr ⟨List.forall_mem_append.mpr ⟨List.forall_mem_cons.mpr ⟨⟨(List.mem_of_getElem? (i := 13) rfl), good_of_word rfl⟩, List.forall_mem_cons.mpr ⟨⟨(List.mem_of_getElem? (i := 14) rfl), good_of_word rfl⟩, List.forall_mem_cons.mpr ⟨⟨(List.mem_of_getElem? (i := 15) rfl), good_of_word rfl⟩, List.forall_mem_cons.mpr ⟨⟨(List.mem_of_getElem? (i := 16) rfl), good_of_word rfl⟩, List.forall_mem_cons.mpr ⟨⟨(List.mem_of_getElem? (i := 17) rfl), good_of_word rfl⟩, List.forall_mem_cons.mpr ⟨⟨(List.mem_of_getElem? (i := 18) rfl), good_of_word rfl⟩, List.forall_mem_cons.mpr ⟨⟨(List.mem_of_getElem? (i := 19) rfl), good_of_word rfl⟩, List.forall_mem_cons.mpr ⟨⟨(List.mem_of_getElem? (i := 20) rfl), good_of_word rfl⟩, List.forall_mem_cons.mpr ⟨⟨(List.mem_of_getElem? (i := 21) rfl), good_of_word rfl⟩, List.forall_mem_cons.mpr ⟨⟨(List.mem_of_getElem? (i := 22) rfl), good_of_word rfl⟩, (fun _ h => absurd h List.not_mem_nil)⟩⟩⟩⟩⟩⟩⟩⟩⟩⟩, fun w h => ⟨(fun w h => List.mem_cons_of_mem _ (List.mem_append_left _ (List.mem_append_left _ (List.mem_append_right _ h)))) w h, good_of_word (List.all_eq_true.mp gw_X7 w h)⟩⟩, fun w h => ⟨(fun w h => List.mem_cons_of_mem _ (List.mem_append_right _ h)) w h, good_of_word (List.all_eq_true.mp gw_X10 w h)⟩⟩⟩
set_option maxRecDepth 20000 in
theorem gq_k_X3_takenAt_k_X10_look_123 : GoodIn wq_k_X3_takenAt (wsV RX3 123 RX10 yX10_look wq_k_X10_look) := goodIn_app (List.forall_mem_cons.mpr ⟨⟨(List.mem_of_getElem? (i := 8) rfl), good_of_word rfl⟩, List.forall_mem_cons.mpr ⟨⟨(List.mem_of_getElem? (i := 9) rfl), good_of_word rfl⟩, List.forall_mem_cons.mpr ⟨⟨(List.mem_of_getElem? (i := 10) rfl), good_of_word rfl⟩, List.forall_mem_cons.mpr ⟨⟨(List.mem_of_getElem? (i := 11) rfl), good_of_word rfl⟩, (fun _ h => absurd h List.not_mem_nil)⟩⟩⟩⟩) gr_k_X3_takenAt_k_X10_look
set_option maxRecDepth 20000 in
theorem gr_k_X3_takenAt_k_X5_of : GoodIn wq_k_X3_takenAt wq_k_X5_of := List.forall_mem_cons.mpr ⟨⟨(List.mem_of_getElem? (i := 30) rfl), good_of_word rfl⟩, List.forall_mem_append.mpr ⟨List.forall_mem_append.mpr ⟨List.forall_mem_append.mpr ⟨List.forall_mem_cons.mpr ⟨⟨(List.mem_of_getElem? (i := 31) rfl), good_of_word rfl⟩, List.forall_mem_cons.mpr ⟨⟨(List.mem_of_getElem? (i := 32) rfl), good_of_word rfl⟩, List.forall_mem_cons.mpr ⟨⟨(List.mem_of_getElem? (i := 33) rfl), good_of_word rfl⟩, List.forall_mem_cons.mpr ⟨⟨(List.mem_of_getElem? (i := 34) rfl), good_of_word rfl⟩, List.forall_mem_cons.mpr ⟨⟨(List.mem_of_getElem? (i := 35) rfl), good_of_word rfl⟩, List.forall_mem_cons.mpr ⟨⟨(List.mem_of_getElem? (i := 36) rfl), good_of_word rfl⟩, List.forall_mem_cons.mpr ⟨⟨(List.mem_of_getElem? (i := 37) rfl), good_of_word rfl⟩, List.forall_mem_cons.mpr ⟨⟨(List.mem_of_getElem? (i := 38) rfl), good_of_word rfl⟩, List.forall_mem_cons.mpr ⟨⟨(List.mem_of_getElem? (i := 39) rfl), good_of_word rfl⟩, List.forall_mem_cons.mpr ⟨⟨(List.mem_of_getElem? (i := 40) rfl), good_of_word rfl⟩, List.forall_mem_cons.mpr ⟨⟨(List.mem_of_getElem? (i := 41) rfl), good_of_word rfl⟩, List.forall_mem_cons.mpr ⟨⟨(List.mem_of_getElem? (i := 42) rfl), good_of_word rfl⟩, List.forall_mem_cons.mpr ⟨⟨(List.mem_of_getElem? (i := 43) rfl), good_of_word rfl⟩, List.forall_mem_cons.mpr ⟨⟨(List.mem_of_getElem? (i := 44) rfl), good_of_word rfl⟩, List.forall_mem_cons.mpr ⟨⟨(List.mem_of_getElem? (i := 45) rfl), good_of_word rfl⟩, List.forall_mem_cons.mpr ⟨⟨(List.mem_of_getElem? (i := 46) rfl), good_of_word rfl⟩, List.forall_mem_cons.mpr ⟨⟨(List.mem_of_getElem? (i := 47) rfl), good_of_word rfl⟩, List.forall_mem_cons.mpr ⟨⟨(List.mem_of_getElem? (i := 48) rfl), good_of_word rfl⟩, List.forall_mem_cons.mpr ⟨⟨(List.mem_of_getElem? (i := 49) rfl), good_of_word rfl⟩, List.forall_mem_cons.mpr ⟨⟨(List.mem_of_getElem? (i := 50) rfl), good_of_word rfl⟩, List.forall_mem_cons.mpr ⟨⟨(List.mem_of_getElem? (i := 51) rfl), good_of_word rfl⟩, List.forall_mem_cons.mpr ⟨⟨(List.mem_of_getElem? (i := 52) rfl), good_of_word rfl⟩, List.forall_mem_cons.mpr ⟨⟨(List.mem_of_getElem? (i := 53) rfl), good_of_word rfl⟩, List.forall_mem_cons.mpr ⟨⟨(List.mem_of_getElem? (i := 54) rfl), good_of_word rfl⟩, (fun _ h => absurd h List.not_mem_nil)⟩⟩⟩⟩⟩⟩⟩⟩⟩⟩⟩⟩⟩⟩⟩⟩⟩⟩⟩⟩⟩⟩⟩⟩, fun w h => ⟨(fun w h => List.mem_cons_of_mem _ (List.mem_append_left _ (List.mem_append_left _ (List.mem_append_left _ (List.mem_append_left _ (List.mem_append_right _ h)))))) w h, good_of_word (List.all_eq_true.mp gw_X4 w h)⟩⟩, fun w h => ⟨(fun w h => List.mem_cons_of_mem _ (List.mem_append_left _ (List.mem_append_left _ (List.mem_append_left _ (List.mem_append_right _ h))))) w h, good_of_word (List.all_eq_true.mp gw_X5 w h)⟩⟩, fun w h => ⟨(fun w h => List.mem_cons_of_mem _ (List.mem_append_left _ (List.mem_append_left _ (List.mem_append_right _ h)))) w h, good_of_word (List.all_eq_true.mp gw_X7 w h)⟩⟩⟩
set_option maxRecDepth 20000 in
theorem gq_k_X3_takenAt_k_X5_of_132 : GoodIn wq_k_X3_takenAt (wsV RX3 132 RX5 yX5_of wq_k_X5_of) := goodIn_app (List.forall_mem_cons.mpr ⟨⟨(List.mem_of_getElem? (i := 26) rfl), good_of_word rfl⟩, List.forall_mem_cons.mpr ⟨⟨(List.mem_of_getElem? (i := 27) rfl), good_of_word rfl⟩, List.forall_mem_cons.mpr ⟨⟨(List.mem_of_getElem? (i := 28) rfl), good_of_word rfl⟩, List.forall_mem_cons.mpr ⟨⟨(List.mem_of_getElem? (i := 29) rfl), good_of_word rfl⟩, (fun _ h => absurd h List.not_mem_nil)⟩⟩⟩⟩) gr_k_X3_takenAt_k_X5_of
set_option maxHeartbeats 8000000 in
set_option maxRecDepth 100000 in
theorem k_X3_takenAt (l : Launch) (D : va_G) (cy : Nat → ClassId) (ad : Nat → Nat) (g : Nat → va_E) {x0_5 : Int32} {u0_6 : Value} {u0_7 : Value} {u0_8 : Value} {c1 : Nat → Int32} {u2_2 : Value} {u2_3 : Value} {u2_4 : Value} {c3 : Nat → Int32} {u4_0 : Value} {u4_1 : Value} {u4_4 : Value} {u4_5 : Value} {u4_6 : Value} {u4_9 : Value} {u4_10 : Value} {u4_11 : Value} {u4_12 : Value} {u4_13 : Value} {u4_14 : Value} {u4_15 : Value} {u4_16 : Value} {c5 : Nat → Int32} {c7 : Nat → Int32} {c8 : Nat → Int32} {c9 : Nat → Int32} {c10 : Nat → Int32} {c11 : Nat → Int32} {c12 : Nat → Int32} {c13 : Nat → Int32} {c14 : Nat → Int32} {c15 : Nat → Int32} {c16 : Nat → Int32} {x18_1 : Int32} {u18_2 : Value} {x18_3 : Int32} {c19 : Nat → Int32} {c20 : Nat → Int32} {c21 : Nat → Int32} {c22 : Nat → Int32} {c23 : Nat → Int32} {post : Int32} (o0 : g 0 = .inr (3, [.ref (ad 4), .ref (ad 2), .ref (ad 17), .ref (ad 6), .ref (ad 1), .int x0_5, u0_6, u0_7, u0_8])) (a1 : g 1 = .inl (cy 0, 24, .inl c1)) (o2 : g 2 = .inr (9, [.ref (ad 3), .ref (ad 16), u2_2, u2_3, u2_4])) (a3 : g 3 = .inl (cy 0, 24, .inl c3)) (o4 : g 4 = .inr (7, [u4_0, u4_1, .ref (ad 7), .ref (ad 8), u4_4, u4_5, u4_6, .ref (ad 5), .ref (ad 19), u4_9, u4_10, u4_11, u4_12, u4_13, u4_14, u4_15, u4_16, .ref (ad 18)])) (a5 : g 5 = .inl (cy 0, 4, .inl c5)) (o6 : g 6 = .inr (10, [.ref (ad 4), .ref (ad 9), .ref (ad 10), .ref (ad 11), .ref (ad 12), .ref (ad 13), .ref (ad 14), .ref (ad 15)])) (a7 : g 7 = .inl (cy 0, 5, .inl c7)) (a8 : g 8 = .inl (cy 0, 5, .inl c8)) (a9 : g 9 = .inl (cy 0, 5, .inl c9)) (a10 : g 10 = .inl (cy 0, 20, .inl c10)) (a11 : g 11 = .inl (cy 0, 4, .inl c11)) (a12 : g 12 = .inl (cy 0, 5, .inl c12)) (a13 : g 13 = .inl (cy 0, 5, .inl c13)) (a14 : g 14 = .inl (cy 0, 5, .inl c14)) (a15 : g 15 = .inl (cy 0, 5, .inl c15)) (a16 : g 16 = .inl (cy 0, 24, .inl c16)) (o17 : g 17 = .inr (5, [.ref (ad 4), .ref (ad 22), .ref (ad 23)])) (o18 : g 18 = .inr (4, [.ref (ad 20), .int x18_1, u18_2, .int x18_3, .ref (ad 21)])) (a19 : g 19 = .inl (cy 0, 4, .inl c19)) (a20 : g 20 = .inl (cy 0, 300, .inl c20)) (a21 : g 21 = .inl (cy 0, 30, .inl c21)) (a22 : g 22 = .inl (cy 0, 80, .inl c22)) (a23 : g 23 = .inl (cy 0, 80, .inl c23)) (b0_5 : zi 0 24 x0_5) (ha1 : za 0 23 c1) (ha10 : za 0 4 c10) (ha11 : za 0 5 c11) (b18_1 : zi 0 300 x18_1) (b18_3 : zi 0 1 x18_3) (p_post : zi 0 3 post) : cMi l yX3_takenAt wq_k_X3_takenAt { frames := 3, cells := 0, slots := 0, locals := 72 } 24 0 0 0 D cy ad g [.ref (ad 0), .int post] (fun r nw lu => ∃ (d12 : Nat → Int32) (d13 : Nat → Int32) (d14 : Nat → Int32) (d15 : Nat → Int32) (d21 : Nat → Int32) (d22 : Nat → Int32) (d23 : Nat → Int32), lu = [(12, .inl (cy 0, 5, .inl d12)), (13, .inl (cy 0, 5, .inl d13)), (14, .inl (cy 0, 5, .inl d14)), (15, .inl (cy 0, 5, .inl d15)), (21, .inl (cy 0, 30, .inl d21)), (22, .inl (cy 0, 80, .inl d22)), (23, .inl (cy 0, 80, .inl d23))]) := by
  refine cM_of (Qc := fun A => cQi (fun r nw lu => ∃ (d12 : Nat → Int32) (d13 : Nat → Int32) (d14 : Nat → Int32) (d15 : Nat → Int32) (d21 : Nat → Int32) (d22 : Nat → Int32) (d23 : Nat → Int32), lu = [(12, .inl (cy 0, 5, .inl d12)), (13, .inl (cy 0, 5, .inl d13)), (14, .inl (cy 0, 5, .inl d14)), (15, .inl (cy 0, 5, .inl d15)), (21, .inl (cy 0, 30, .inl d21)), (22, .inl (cy 0, 80, .inl d22)), (23, .inl (cy 0, 80, .inl d23))]) D 24 0 ad g A) (cc := cX3_takenAt) (maxL := 6) (ret := (some .int)) (by decide) rfl (Nat.le_of_ble_eq_true rfl) ?_
  intro p e s m below meth c A hC hr hlk hnm hO ls hl
  have hC : CallFix p m c cX3_takenAt 6 s [.ref (ad 0), .int post].toArray wq_k_X3_takenAt RX3 := hC
  obtain ⟨hx, hb, hml, hown, hts⟩ := id hC
  have hl : lv_has ls 6 [(0, .ref (ad 0)), (1, .int post)] := hl
  have i_X10 : ∀ w ∈ wsX100, w ∈ wq_k_X3_takenAt := fun w h => List.mem_cons_of_mem _ (List.mem_append_right _ h)
  have i_X3 : ∀ w ∈ wsX30, w ∈ wq_k_X3_takenAt := fun w h => List.mem_cons_of_mem _ (List.mem_append_left _ (List.mem_append_left _ (List.mem_append_left _ (List.mem_append_left _ (List.mem_append_left _ (List.mem_append_right _ h))))))
  have i_X4 : ∀ w ∈ wsX40, w ∈ wq_k_X3_takenAt := fun w h => List.mem_cons_of_mem _ (List.mem_append_left _ (List.mem_append_left _ (List.mem_append_left _ (List.mem_append_left _ (List.mem_append_right _ h)))))
  have i_X5 : ∀ w ∈ wsX50, w ∈ wq_k_X3_takenAt := fun w h => List.mem_cons_of_mem _ (List.mem_append_left _ (List.mem_append_left _ (List.mem_append_left _ (List.mem_append_right _ h))))
  have i_X7 : ∀ w ∈ wsX70, w ∈ wq_k_X3_takenAt := fun w h => List.mem_cons_of_mem _ (List.mem_append_left _ (List.mem_append_left _ (List.mem_append_right _ h)))
  have i_X9 : ∀ w ∈ wsX90, w ∈ wq_k_X3_takenAt := fun w h => List.mem_cons_of_mem _ (List.mem_append_left _ (List.mem_append_right _ h))
  have hO := hO.notes [(12, .inl (cy 0, 5, .inl c12)), (13, .inl (cy 0, 5, .inl c13)), (14, .inl (cy 0, 5, .inl c14)), (15, .inl (cy 0, 5, .inl c15)), (21, .inl (cy 0, 30, .inl c21)), (22, .inl (cy 0, 80, .inl c22)), (23, .inl (cy 0, 80, .inl c23))] (List.forall_mem_cons.mpr ⟨a12, List.forall_mem_cons.mpr ⟨a13, List.forall_mem_cons.mpr ⟨a14, List.forall_mem_cons.mpr ⟨a15, List.forall_mem_cons.mpr ⟨a21, List.forall_mem_cons.mpr ⟨a22, List.forall_mem_cons.mpr ⟨a23, (fun _ h => absurd h List.not_mem_nil)⟩⟩⟩⟩⟩⟩⟩)
  refine lv_iconst (v := 0) hx hb ddX3_takenAt_0 (by decide) ?_
  refine lv_istore_n (lv' := [(2, .int 0), (0, .ref (ad 0)), (1, .int post)]) hx hb ddX3_takenAt_1 rfl hl (by decide) rfl (fun ls hl => ?_)
  refine lv_iconst (v := 0) hx hb ddX3_takenAt_2 (by decide) ?_
  refine lv_istore_n (lv' := [(3, .int 0), (2, .int 0), (0, .ref (ad 0)), (1, .int post)]) hx hb ddX3_takenAt_3 rfl hl (by decide) rfl (fun ls hl => ?_)
  have loop_4_2351 : ∀ (d_4_2352 : Nat) (v_4_2272 : Int32) (v_4_2274 : Int32) (c_4_2275 : Nat → Int32) (c_4_2277 : Nat → Int32) (c_4_2279 : Nat → Int32) (c_4_2281 : Nat → Int32) (c_4_2283 : Nat → Int32) (c_4_2285 : Nat → Int32) (c_4_2287 : Nat → Int32), zi 0 24 v_4_2272 → za (-2147483648) 2147483647 c_4_2275 → za (-2147483648) 2147483647 c_4_2277 → za (-2147483648) 2147483647 c_4_2279 → za (-2147483648) 2147483647 c_4_2281 → za (-2147483648) 2147483647 c_4_2283 → za (-2147483648) 2147483647 c_4_2285 → za (-2147483648) 2147483647 c_4_2287 → (24 + 1 - v_4_2272.toInt).toNat < d_4_2352 → ∀ (H : Heap) (locs : List Loc), cO D cy A s.heap s 24 ad (cup [(12, .inl (cy 0, 5, .inl c_4_2275)), (13, .inl (cy 0, 5, .inl c_4_2277)), (14, .inl (cy 0, 5, .inl c_4_2279)), (15, .inl (cy 0, 5, .inl c_4_2281)), (21, .inl (cy 0, 30, .inl c_4_2283)), (22, .inl (cy 0, 80, .inl c_4_2285)), (23, .inl (cy 0, 80, .inl c_4_2287))] g) H locs → ∀ ls : Array Slot, lv_has ls 6 [(3, .int v_4_2272), (2, .int v_4_2274), (0, .ref (ad 0)), (1, .int post)] → W p l e { frames := 3, cells := 0, slots := 0, locals := 72 } s m [.ref (ad 0), .int post].toArray below meth c H locs 0 0 (MQ below (cQi (fun r nw lu => ∃ (d12 : Nat → Int32) (d13 : Nat → Int32) (d14 : Nat → Int32) (d15 : Nat → Int32) (d21 : Nat → Int32) (d22 : Nat → Int32) (d23 : Nat → Int32), lu = [(12, .inl (cy 0, 5, .inl d12)), (13, .inl (cy 0, 5, .inl d13)), (14, .inl (cy 0, 5, .inl d14)), (15, .inl (cy 0, 5, .inl d15)), (21, .inl (cy 0, 30, .inl d21)), (22, .inl (cy 0, 80, .inl d22)), (23, .inl (cy 0, 80, .inl d23))]) D 24 0 ad g A) [.ref (ad 0), .int post].toArray s 0 0 A) (F0 m 4 ls [])  := by
    intro d_4_2352
    induction d_4_2352 with
    | zero => intro v_4_2272 v_4_2274 c_4_2275 c_4_2277 c_4_2279 c_4_2281 c_4_2283 c_4_2285 c_4_2287 z_4_2273 zc_4_2276 zc_4_2278 zc_4_2280 zc_4_2282 zc_4_2284 zc_4_2286 zc_4_2288 mu_4_2353; exact absurd mu_4_2353 (Nat.not_lt_zero _)
    | succ d_4_2352 ih_4_2354 =>
      intro v_4_2272 v_4_2274 c_4_2275 c_4_2277 c_4_2279 c_4_2281 c_4_2283 c_4_2285 c_4_2287 z_4_2273 zc_4_2276 zc_4_2278 zc_4_2280 zc_4_2282 zc_4_2284 zc_4_2286 zc_4_2288 mu_4_2353 H locs hO ls hl
      refine lv_iload_n hx hb ddX3_takenAt_4 rfl (lv_at hl 0 rfl) ?_
      refine lv_aload_n hx hb ddX3_takenAt_5 rfl (lv_at hl 2 rfl) ?_
      refine cg_get hC hO 0 (by decide) o0 rfl i_X3 5 (by decide) (List.mem_of_getElem? (i := 1) rfl) rfl ddX3_takenAt_6 ?_
      refine lv_icmp_ge (tgt := 93) hx hb ddX3_takenAt_9 (by decide) (fun h_9_2355 => ?_) (fun h_9_2355 => ?_)
      · have q_9_2356 := zr_le h_9_2355
        refine lv_iload_n hx hb ddX3_takenAt_93 rfl (lv_at hl 1 rfl) ?_
        exact cg_iret (nw := fun _ => 0) hC hr hlk hO.same rfl (Nat.le_of_ble_eq_true rfl) (Nat.le_of_ble_eq_true rfl) (⟨c_4_2275, c_4_2277, c_4_2279, c_4_2281, c_4_2283, c_4_2285, c_4_2287, rfl⟩) ddX3_takenAt_94
      · have q_9_2357 := zr_nle h_9_2355
        have z_9_2358 : zi 0 23 v_4_2272 := zu_lt q_9_2357 z_4_2273 b0_5 (by decide)
        have z_9_2359 : zi 1 24 x0_5 := zd_lt q_9_2357 z_4_2273 b0_5 (by decide)
        refine lv_aload_n hx hb ddX3_takenAt_12 rfl (lv_at hl 2 rfl) ?_
        refine cg_get hC hO 0 (by decide) o0 rfl i_X3 4 (by decide) (List.mem_of_getElem? (i := 2) rfl) rfl ddX3_takenAt_13 ?_
        refine lv_iload_n hx hb ddX3_takenAt_16 rfl (lv_at hl 0 rfl) ?_
        refine zg_iald hC hO 1 (by decide) a1 ha1 (zi_in z_9_2358 (by decide)) ddX3_takenAt_17 (fun v_17_2360 z_17_2361 => ?_)
        refine lv_istore (lv' := [(4, .int v_17_2360), (3, .int v_4_2272), (2, .int v_4_2274), (0, .ref (ad 0)), (1, .int post)]) hx hb ddX3_takenAt_18 hl (by decide) rfl (fun ls hl => ?_)
        refine lv_aload_n hx hb ddX3_takenAt_20 rfl (lv_at hl 3 rfl) ?_
        refine cg_get hC hO 0 (by decide) o0 rfl i_X3 3 (by decide) (List.mem_of_getElem? (i := 3) rfl) rfl ddX3_takenAt_21 ?_
        refine lv_iload_n hx hb ddX3_takenAt_24 rfl (lv_at hl 4 rfl) ?_
        refine lv_aload_n hx hb ddX3_takenAt_25 rfl (lv_at hl 3 rfl) ?_
        refine cg_get hC hO 0 (by decide) o0 rfl i_X3 1 (by decide) (List.mem_of_getElem? (i := 4) rfl) rfl ddX3_takenAt_26 ?_
        refine cg_get hC hO 2 (by decide) o2 rfl i_X9 0 (by decide) (List.mem_of_getElem? (i := 5) rfl) rfl ddX3_takenAt_29 ?_
        refine lv_iload hx hb ddX3_takenAt_32 (lv_at hl 0 rfl) ?_
        refine zg_iald hC hO 3 (by decide) a3 (za_all _) (zi_in z_17_2361 (by decide)) ddX3_takenAt_34 (fun v_34_2362 z_34_2363 => ?_)
        refine lv_aload_n hx hb ddX3_takenAt_35 rfl (lv_at hl 3 rfl) ?_
        refine cg_get hC hO 0 (by decide) o0 rfl i_X3 0 (by decide) (List.mem_of_getElem? (i := 6) rfl) rfl ddX3_takenAt_36 ?_
        refine cg_get hC hO 4 (by decide) o4 rfl i_X7 7 (by decide) (List.mem_of_getElem? (i := 7) rfl) rfl ddX3_takenAt_39 ?_
        refine lv_iload_n hx hb ddX3_takenAt_42 rfl (lv_at hl 4 rfl) ?_
        refine zg_iald hC hO 5 (by decide) a5 (za_all _) (zi_in p_post (by decide)) ddX3_takenAt_43 (fun v_43_2364 z_43_2365 => ?_)
        refine lv_iadd hx hb ddX3_takenAt_44 ?_
        refine lv_topi (fun v_44_2366 _ => ?_)
        refine cg_Vi (As := [.int post, .int v_44_2366]) (rest := []) (mc := 0) (ms := 0) (rm := { frames := 0, cells := 0, slots := 0, locals := 0 }) hC hl.1 hO [6, 11, 10, 15, 14, 4, 7, 12, 9, 13, 8] (by decide +kernel) (k_X10_look l D cy _ _ (u5_0 := u4_0) (u5_1 := u4_1) (c6 := c7) (c10 := c8) (u5_4 := u4_4) (u5_5 := u4_5) (u5_6 := u4_6) (u5_7 := .ref (ad 5)) (u5_8 := .ref (ad 19)) (u5_9 := u4_9) (u5_10 := u4_10) (u5_11 := u4_11) (u5_12 := u4_12) (u5_13 := u4_13) (u5_14 := u4_14) (u5_15 := u4_15) (u5_16 := u4_16) (u5_17 := .ref (ad 18)) (c8 := c9) (c2 := c10) (c1 := c11) (c7 := c_4_2275) (c9 := c_4_2277) (c4 := c_4_2279) (c3 := c_4_2281) (post := post) (now := v_44_2366) o6 a11 a10 rfl rfl o4 a7 rfl a9 rfl a8 ha11 ha10 p_post) gq_k_X3_takenAt_k_X10_look_123 rfl rfl rfl 2 (by decide +kernel) ⟨Nat.le_of_ble_eq_true rfl, Nat.le_of_ble_eq_true rfl⟩ rfl (by decide) o6 rfl rfl (Nat.le_of_ble_eq_true rfl) ddX3_takenAt_45 ⟨Nat.le_of_ble_eq_true rfl, Nat.le_of_ble_eq_true rfl⟩ (fun r_45_2369 nw_45_2367 l_45_2368 H locs hw hO => ?_)
        obtain ⟨d3_45_2370, d4_45_2371, d7_45_2372, d9_45_2373, z_45_2374, rfl⟩ := hw
        have hO := hO.mrg (lk := [(15, .inl (cy 0, 5, .inl d3_45_2370)), (14, .inl (cy 0, 5, .inl d4_45_2371)), (12, .inl (cy 0, 5, .inl d7_45_2372)), (13, .inl (cy 0, 5, .inl d9_45_2373))]) (lm := [(12, .inl (cy 0, 5, .inl d7_45_2372)), (13, .inl (cy 0, 5, .inl d9_45_2373)), (14, .inl (cy 0, 5, .inl d4_45_2371)), (15, .inl (cy 0, 5, .inl d3_45_2370)), (21, .inl (cy 0, 30, .inl c_4_2283)), (22, .inl (cy 0, 80, .inl c_4_2285)), (23, .inl (cy 0, 80, .inl c_4_2287))]) rfl rfl rfl
        refine lv_istore (lv' := [(5, .int r_45_2369), (4, .int v_17_2360), (3, .int v_4_2272), (2, .int v_4_2274), (0, .ref (ad 0)), (1, .int post)]) hx hb ddX3_takenAt_48 hl (by decide) rfl (fun ls hl => ?_)
        refine lv_iload hx hb ddX3_takenAt_50 (lv_at hl 0 rfl) ?_
        refine lv_iconst (v := (-1)) hx hb ddX3_takenAt_52 (by decide) ?_
        have J_87_2398 : ∀ (v_87_2391 : Int32) (c_87_2392 : Nat → Int32) (c_87_2394 : Nat → Int32) (c_87_2396 : Nat → Int32), za (-2147483648) 2147483647 c_87_2392 → za (-2147483648) 2147483647 c_87_2394 → za (-2147483648) 2147483647 c_87_2396 → ∀ (H : Heap) (locs : List Loc), cO D cy A s.heap s 24 ad (cup [(12, .inl (cy 0, 5, .inl d7_45_2372)), (13, .inl (cy 0, 5, .inl d9_45_2373)), (14, .inl (cy 0, 5, .inl d4_45_2371)), (15, .inl (cy 0, 5, .inl d3_45_2370)), (21, .inl (cy 0, 30, .inl c_87_2392)), (22, .inl (cy 0, 80, .inl c_87_2394)), (23, .inl (cy 0, 80, .inl c_87_2396))] g) H locs → ∀ ls : Array Slot, lv_has ls 6 [(5, .int r_45_2369), (4, .int v_17_2360), (3, .int v_4_2272), (2, .int v_87_2391), (0, .ref (ad 0)), (1, .int post)] → W p l e { frames := 3, cells := 0, slots := 0, locals := 72 } s m [.ref (ad 0), .int post].toArray below meth c H locs 0 0 (MQ below (cQi (fun r nw lu => ∃ (d12 : Nat → Int32) (d13 : Nat → Int32) (d14 : Nat → Int32) (d15 : Nat → Int32) (d21 : Nat → Int32) (d22 : Nat → Int32) (d23 : Nat → Int32), lu = [(12, .inl (cy 0, 5, .inl d12)), (13, .inl (cy 0, 5, .inl d13)), (14, .inl (cy 0, 5, .inl d14)), (15, .inl (cy 0, 5, .inl d15)), (21, .inl (cy 0, 30, .inl d21)), (22, .inl (cy 0, 80, .inl d22)), (23, .inl (cy 0, 80, .inl d23))]) D 24 0 ad g A) [.ref (ad 0), .int post].toArray s 0 0 A) (F0 m 87 ls []) := by
          intro v_87_2391 c_87_2392 c_87_2394 c_87_2396 zc_87_2393 zc_87_2395 zc_87_2397 H locs hO ls hl
          obtain ⟨v_87_2399, e_87_2400, z_87_2401, q_87_2402⟩ := zi_inc (e := 1) (f := 24) 1 z_9_2358 (by decide)
          refine lv_iinc (v := v_87_2399) (lv' := [(3, .int v_87_2399), (5, .int r_45_2369), (4, .int v_17_2360), (2, .int v_87_2391), (0, .ref (ad 0)), (1, .int post)]) hx hb ddX3_takenAt_87 hl (k := 2) rfl e_87_2400 (by decide) rfl (fun ls hl => ?_)
          refine lv_goto (tgt := 4) hx hb ddX3_takenAt_90 (by decide) ?_
          exact ih_4_2354 v_87_2399 v_87_2391 d7_45_2372 d9_45_2373 d4_45_2371 d3_45_2370 c_87_2392 c_87_2394 c_87_2396 (zi_w (c := 0) (d := 24) z_87_2401 (by decide)) (za_all _) (za_all _) (za_all _) (za_all _) zc_87_2393 zc_87_2395 zc_87_2397 (zm_up q_87_2402 ((zi_w (c := 0) (d := 24) z_87_2401 (by decide))).2 (by decide) mu_4_2353) _ _ hO ls (lv_sub hl [0, 3, 4, 5] rfl)
        refine lv_icmp_eq (tgt := 87) hx hb ddX3_takenAt_53 (by decide) (fun h_53_2375 => ?_) (fun h_53_2375 => ?_)
        · have q_53_2403 := zr_eq h_53_2375
          have z_53_2404 : zi (-1) (-1) r_45_2369 := ze_eq q_53_2403 z_45_2374 (zi_k (a := (-1)) (b := (-1)) (x := (-1)) rfl)
          exact J_87_2398 v_4_2274 c_4_2283 c_4_2285 c_4_2287 zc_4_2284 zc_4_2286 zc_4_2288 _ _ hO ls (lv_sub hl [0, 1, 2, 3, 4, 5] rfl)
        · have q_53_2405 := zr_ne h_53_2375
          have z_53_2406 : zi 0 4 r_45_2369 := zn_lo q_53_2405 z_45_2374 (zi_k (a := (-1)) (b := (-1)) (x := (-1)) rfl) (by decide)
          refine lv_iload_n hx hb ddX3_takenAt_56 rfl (lv_at hl 3 rfl) ?_
          refine lv_aload_n hx hb ddX3_takenAt_57 rfl (lv_at hl 4 rfl) ?_
          refine cg_get hC hO 0 (by decide) o0 rfl i_X3 2 (by decide) (List.mem_of_getElem? (i := 23) rfl) rfl ddX3_takenAt_58 ?_
          refine lv_iload_n hx hb ddX3_takenAt_61 rfl (lv_at hl 5 rfl) ?_
          refine lv_aload_n hx hb ddX3_takenAt_62 rfl (lv_at hl 4 rfl) ?_
          refine cg_get hC hO 0 (by decide) o0 rfl i_X3 1 (by decide) (List.mem_of_getElem? (i := 4) rfl) rfl ddX3_takenAt_63 ?_
          refine cg_get hC hO 2 (by decide) o2 rfl i_X9 1 (by decide) (List.mem_of_getElem? (i := 24) rfl) rfl ddX3_takenAt_66 ?_
          refine lv_iload hx hb ddX3_takenAt_69 (lv_at hl 1 rfl) ?_
          refine zg_iald hC hO 16 (by decide) a16 (za_all _) (zi_in z_17_2361 (by decide)) ddX3_takenAt_71 (fun v_71_2407 z_71_2408 => ?_)
          refine lv_aload_n hx hb ddX3_takenAt_72 rfl (lv_at hl 4 rfl) ?_
          refine cg_get hC hO 0 (by decide) o0 rfl i_X3 3 (by decide) (List.mem_of_getElem? (i := 3) rfl) rfl ddX3_takenAt_73 ?_
          refine cg_get hC hO 6 (by decide) o6 rfl i_X10 4 (by decide) (List.mem_of_getElem? (i := 25) rfl) rfl ddX3_takenAt_76 ?_
          refine lv_iload hx hb ddX3_takenAt_79 (lv_at hl 0 rfl) ?_
          refine zg_iald hC hO 12 (by decide) rfl (za_all _) (zi_in z_53_2406 (by decide)) ddX3_takenAt_81 (fun v_81_2409 z_81_2410 => ?_)
          refine cg_Vi (As := [.int post, .int v_71_2407, .int v_81_2409]) (rest := [.int v_4_2274]) (mc := 0) (ms := 0) (rm := { frames := 2, cells := 0, slots := 0, locals := 48 }) hC hl.1 hO [17, 23, 22, 4, 19, 18, 20, 21] (by decide +kernel) (k_X5_of l D cy _ _ (u3_0 := u4_0) (u3_1 := u4_1) (u3_2 := .ref (ad 7)) (u3_3 := .ref (ad 8)) (u3_4 := u4_4) (u3_5 := u4_5) (u3_6 := u4_6) (u3_7 := .ref (ad 5)) (c4 := c19) (u3_9 := u4_9) (u3_10 := u4_10) (u3_11 := u4_11) (u3_12 := u4_12) (u3_13 := u4_13) (u3_14 := u4_14) (u3_15 := u4_15) (u3_16 := u4_16) (c6 := c20) (x5_1 := x18_1) (u5_2 := u18_2) (x5_3 := x18_3) (c7 := c_4_2283) (c2 := c_4_2285) (c1 := c_4_2287) (post := post) (sacks := v_71_2407) (nth := v_81_2409) o17 rfl rfl o4 a19 o18 a20 rfl b18_1 b18_3 p_post) gq_k_X3_takenAt_k_X5_of_132 rfl rfl rfl 3 (by decide +kernel) ⟨Nat.le_of_ble_eq_true rfl, Nat.le_of_ble_eq_true rfl⟩ rfl (by decide) o17 rfl rfl (Nat.le_of_ble_eq_true rfl) ddX3_takenAt_82 ⟨Nat.le_of_ble_eq_true rfl, Nat.le_of_ble_eq_true rfl⟩ (fun r_82_2413 nw_82_2411 l_82_2412 H locs hw hO => ?_)
          obtain ⟨d1_82_2414, d2_82_2415, d7_82_2416, rfl⟩ := hw
          have hO := hO.mrg (lk := [(23, .inl (cy 0, 80, .inl d1_82_2414)), (22, .inl (cy 0, 80, .inl d2_82_2415)), (21, .inl (cy 0, 30, .inl d7_82_2416))]) (lm := [(12, .inl (cy 0, 5, .inl d7_45_2372)), (13, .inl (cy 0, 5, .inl d9_45_2373)), (14, .inl (cy 0, 5, .inl d4_45_2371)), (15, .inl (cy 0, 5, .inl d3_45_2370)), (21, .inl (cy 0, 30, .inl d7_82_2416)), (22, .inl (cy 0, 80, .inl d2_82_2415)), (23, .inl (cy 0, 80, .inl d1_82_2414))]) rfl rfl rfl
          refine lv_iadd hx hb ddX3_takenAt_85 ?_
          refine lv_topi (fun v_85_2417 _ => ?_)
          refine lv_istore_n (lv' := [(2, .int v_85_2417), (5, .int r_45_2369), (4, .int v_17_2360), (3, .int v_4_2272), (0, .ref (ad 0)), (1, .int post)]) hx hb ddX3_takenAt_86 rfl hl (by decide) rfl (fun ls hl => ?_)
          exact J_87_2398 v_85_2417 d7_82_2416 d2_82_2415 d1_82_2414 (za_all _) (za_all _) (za_all _) _ _ hO ls (lv_sub hl [1, 2, 3, 0, 4, 5] rfl)
  exact loop_4_2351 ((24 + 1 - (0 : Int32).toInt).toNat + 1) 0 0 c12 c13 c14 c15 c21 c22 c23 (zi_k (a := 0) (b := 24) (x := 0) rfl) (za_all _) (za_all _) (za_all _) (za_all _) (za_all _) (za_all _) (za_all _) (Nat.lt_succ_self _) _ _ hO ls (lv_sub hl [0, 1, 2, 3] rfl)

theorem ddX3_better_0 : decode cX3_better 0 = .ok (.iload_n 1, 1) := by decide +kernel
theorem ddX3_better_1 : decode cX3_better 1 = .ok (.iload_n 2, 1) := by decide +kernel
theorem ddX3_better_2 : decode cX3_better 2 = .ok (.if_icmp .gt 5, 3) := by decide +kernel
theorem ddX3_better_5 : decode cX3_better 5 = .ok (.iload_n 2, 1) := by decide +kernel
theorem ddX3_better_6 : decode cX3_better 6 = .ok (.ireturn, 1) := by decide +kernel
theorem ddX3_better_7 : decode cX3_better 7 = .ok (.aload_n 0, 1) := by decide +kernel
theorem ddX3_better_8 : decode cX3_better 8 = .ok (.getfield 15, 3) := by decide +kernel
theorem ddX3_better_11 : decode cX3_better 11 = .ok (.iconst 0, 1) := by decide +kernel
theorem ddX3_better_12 : decode cX3_better 12 = .ok (.aload_n 0, 1) := by decide +kernel
theorem ddX3_better_13 : decode cX3_better 13 = .ok (.getfield 21, 3) := by decide +kernel
theorem ddX3_better_16 : decode cX3_better 16 = .ok (.iconst 0, 1) := by decide +kernel
theorem ddX3_better_17 : decode cX3_better 17 = .ok (.iconst 5, 1) := by decide +kernel
theorem ddX3_better_18 : decode cX3_better 18 = .ok (.invokestatic 114, 3) := by decide +kernel
theorem ddX3_better_21 : decode cX3_better 21 = .ok (.iload_n 1, 1) := by decide +kernel
theorem ddX3_better_22 : decode cX3_better 22 = .ok (.ireturn, 1) := by decide +kernel
def wq_k_X3_better : List Cond := Cond.code yX3_better cX3_better 3 (some .int) :: (([Cond.fieldLink RX3 15 "CrowToll$Keepers" "way" "[I", Cond.fieldLink RX3 21 "CrowToll$Keepers" "best" "[I", Cond.methodLink RX3 114 arraycopyName, Cond.native arraycopyName, Cond.static arraycopyName, Cond.initialized "java/lang/System"] : List Cond) ++ wsX30)
set_option maxHeartbeats 8000000 in
set_option maxRecDepth 100000 in
theorem k_X3_better (l : Launch) (D : va_G) (cy : Nat → ClassId) (ad : Nat → Nat) (g : Nat → va_E) {u0_0 : Value} {u0_1 : Value} {u0_2 : Value} {u0_3 : Value} {u0_4 : Value} {u0_5 : Value} {u0_7 : Value} {c1 : Nat → Int32} {c2 : Nat → Int32} {sum : Int32} {most : Int32} (o0 : g 0 = .inr (3, [u0_0, u0_1, u0_2, u0_3, u0_4, u0_5, .ref (ad 1), u0_7, .ref (ad 2)])) (a1 : g 1 = .inl (cy 0, 5, .inl c1)) (a2 : g 2 = .inl (cy 0, 5, .inl c2)) : cMi l yX3_better wq_k_X3_better { frames := 1, cells := 0, slots := 0, locals := 60 } 3 0 0 0 D cy ad g [.ref (ad 0), .int sum, .int most] (fun r nw lu => ∃ (d2 : Nat → Int32), lu = [(2, .inl (cy 0, 5, .inl d2))]) := by
  refine cM_of (Qc := fun A => cQi (fun r nw lu => ∃ (d2 : Nat → Int32), lu = [(2, .inl (cy 0, 5, .inl d2))]) D 3 0 ad g A) (cc := cX3_better) (maxL := 3) (ret := (some .int)) (by decide) rfl (Nat.le_of_ble_eq_true rfl) ?_
  intro p e s m below meth c A hC hr hlk hnm hO ls hl
  have hC : CallFix p m c cX3_better 3 s [.ref (ad 0), .int sum, .int most].toArray wq_k_X3_better RX3 := hC
  obtain ⟨hx, hb, hml, hown, hts⟩ := id hC
  have hl : lv_has ls 3 [(0, .ref (ad 0)), (1, .int sum), (2, .int most)] := hl
  have i_X3 : ∀ w ∈ wsX30, w ∈ wq_k_X3_better := fun w h => List.mem_cons_of_mem _ (List.mem_append_right _ h)
  have hO := hO.notes [(2, .inl (cy 0, 5, .inl c2))] (List.forall_mem_cons.mpr ⟨a2, (fun _ h => absurd h List.not_mem_nil)⟩)
  refine lv_iload_n hx hb ddX3_better_0 rfl (lv_at hl 1 rfl) ?_
  refine lv_iload_n hx hb ddX3_better_1 rfl (lv_at hl 2 rfl) ?_
  refine lv_icmp_gt (tgt := 7) hx hb ddX3_better_2 (by decide) (fun h_2_15 => ?_) (fun h_2_15 => ?_)
  · have q_2_16 := zr_lt h_2_15
    have z_2_17 : zi (-2147483648) 2147483646 most := zu_lt q_2_16 (zi_all most) (zi_all sum) (by decide)
    have z_2_18 : zi (-2147483647) 2147483647 sum := zd_lt q_2_16 (zi_all most) (zi_all sum) (by decide)
    refine lv_aload_n hx hb ddX3_better_7 rfl (lv_at hl 0 rfl) ?_
    refine cg_get hC hO 0 (by decide) o0 rfl i_X3 6 (by decide) (List.mem_of_getElem? (i := 1) rfl) rfl ddX3_better_8 ?_
    refine lv_iconst (v := 0) hx hb ddX3_better_11 (by decide) ?_
    refine lv_aload_n hx hb ddX3_better_12 rfl (lv_at hl 0 rfl) ?_
    refine cg_get hC hO 0 (by decide) o0 rfl i_X3 8 (by decide) (List.mem_of_getElem? (i := 2) rfl) rfl ddX3_better_13 ?_
    refine lv_iconst (v := 0) hx hb ddX3_better_16 (by decide) ?_
    refine lv_iconst (v := 5) hx hb ddX3_better_17 (by decide) ?_
    refine zg_copy (a := (-2147483648)) (b := 2147483647) hC hl.1 hO (List.mem_of_getElem? (i := 3) rfl) (List.mem_of_getElem? (i := 4) rfl) (List.mem_of_getElem? (i := 5) rfl) (List.mem_of_getElem? (i := 6) rfl) 1 2 (by decide) (by decide) a1 rfl (za_all _) (za_all _) (zi_k (a := 0) (b := 0) (x := 0) rfl) (zi_k (a := 0) (b := 0) (x := 0) rfl) (zi_k (a := 5) (b := 5) (x := 5) rfl) (by decide) (Nat.le_of_ble_eq_true rfl) (Nat.le_of_ble_eq_true rfl) ddX3_better_18 (fun H locs c_18_19 zc_18_20 hO => ?_)
    have hO : cO D cy A s.heap s 3 ad (cup [(2, .inl (cy 0, 5, .inl c_18_19))] g) _ _ := hO
    refine lv_iload_n hx hb ddX3_better_21 rfl (lv_at hl 1 rfl) ?_
    exact cg_iret (nw := fun _ => 0) hC hr hlk hO.same rfl (Nat.le_of_ble_eq_true rfl) (Nat.le_of_ble_eq_true rfl) (⟨c_18_19, rfl⟩) ddX3_better_22
  · have q_2_21 := zr_nlt h_2_15
    refine lv_iload_n hx hb ddX3_better_5 rfl (lv_at hl 2 rfl) ?_
    exact cg_iret (nw := fun _ => 0) hC hr hlk hO.same rfl (Nat.le_of_ble_eq_true rfl) (Nat.le_of_ble_eq_true rfl) (⟨c2, rfl⟩) ddX3_better_6

theorem ddX3_canTeach_0 : decode cX3_canTeach 0 = .ok (.iconst 0, 1) := by decide +kernel
theorem ddX3_canTeach_1 : decode cX3_canTeach 1 = .ok (.istore_n 2, 1) := by decide +kernel
theorem ddX3_canTeach_2 : decode cX3_canTeach 2 = .ok (.iconst 0, 1) := by decide +kernel
theorem ddX3_canTeach_3 : decode cX3_canTeach 3 = .ok (.istore_n 3, 1) := by decide +kernel
theorem ddX3_canTeach_4 : decode cX3_canTeach 4 = .ok (.iload_n 3, 1) := by decide +kernel
theorem ddX3_canTeach_5 : decode cX3_canTeach 5 = .ok (.aload_n 0, 1) := by decide +kernel
theorem ddX3_canTeach_6 : decode cX3_canTeach 6 = .ok (.getfield 24, 3) := by decide +kernel
theorem ddX3_canTeach_9 : decode cX3_canTeach 9 = .ok (.getfield 48, 3) := by decide +kernel
theorem ddX3_canTeach_12 : decode cX3_canTeach 12 = .ok (.if_icmp .ge 41, 3) := by decide +kernel
theorem ddX3_canTeach_15 : decode cX3_canTeach 15 = .ok (.iload_n 2, 1) := by decide +kernel
theorem ddX3_canTeach_16 : decode cX3_canTeach 16 = .ok (.aload_n 0, 1) := by decide +kernel
theorem ddX3_canTeach_17 : decode cX3_canTeach 17 = .ok (.getfield 15, 3) := by decide +kernel
theorem ddX3_canTeach_20 : decode cX3_canTeach 20 = .ok (.iload_n 3, 1) := by decide +kernel
theorem ddX3_canTeach_21 : decode cX3_canTeach 21 = .ok (.iaload, 1) := by decide +kernel
theorem ddX3_canTeach_22 : decode cX3_canTeach 22 = .ok (.iadd, 1) := by decide +kernel
theorem ddX3_canTeach_23 : decode cX3_canTeach 23 = .ok (.istore_n 2, 1) := by decide +kernel
theorem ddX3_canTeach_24 : decode cX3_canTeach 24 = .ok (.aload_n 0, 1) := by decide +kernel
theorem ddX3_canTeach_25 : decode cX3_canTeach 25 = .ok (.getfield 28, 3) := by decide +kernel
theorem ddX3_canTeach_28 : decode cX3_canTeach 28 = .ok (.getfield 73, 3) := by decide +kernel
theorem ddX3_canTeach_31 : decode cX3_canTeach 31 = .ok (.iload_n 3, 1) := by decide +kernel
theorem ddX3_canTeach_32 : decode cX3_canTeach 32 = .ok (.iaload, 1) := by decide +kernel
theorem ddX3_canTeach_33 : decode cX3_canTeach 33 = .ok (.aload_n 0, 1) := by decide +kernel
theorem ddX3_canTeach_34 : decode cX3_canTeach 34 = .ok (.getfield 15, 3) := by decide +kernel
theorem ddX3_canTeach_37 : decode cX3_canTeach 37 = .ok (.iload_n 3, 1) := by decide +kernel
theorem ddX3_canTeach_38 : decode cX3_canTeach 38 = .ok (.iaload, 1) := by decide +kernel
theorem ddX3_canTeach_39 : decode cX3_canTeach 39 = .ok (.iadd, 1) := by decide +kernel
theorem ddX3_canTeach_40 : decode cX3_canTeach 40 = .ok (.bipush 20, 2) := by decide +kernel
theorem ddX3_canTeach_42 : decode cX3_canTeach 42 = .ok (.if_icmp .le 5, 3) := by decide +kernel
theorem ddX3_canTeach_45 : decode cX3_canTeach 45 = .ok (.iconst 0, 1) := by decide +kernel
theorem ddX3_canTeach_46 : decode cX3_canTeach 46 = .ok (.ireturn, 1) := by decide +kernel
theorem ddX3_canTeach_47 : decode cX3_canTeach 47 = .ok (.iinc 3 1, 3) := by decide +kernel
theorem ddX3_canTeach_50 : decode cX3_canTeach 50 = .ok (.goto (-46), 3) := by decide +kernel
theorem ddX3_canTeach_53 : decode cX3_canTeach 53 = .ok (.iload_n 2, 1) := by decide +kernel
theorem ddX3_canTeach_54 : decode cX3_canTeach 54 = .ok (.iload_n 1, 1) := by decide +kernel
theorem ddX3_canTeach_55 : decode cX3_canTeach 55 = .ok (.if_icmp .ne 7, 3) := by decide +kernel
theorem ddX3_canTeach_58 : decode cX3_canTeach 58 = .ok (.iconst 1, 1) := by decide +kernel
theorem ddX3_canTeach_59 : decode cX3_canTeach 59 = .ok (.goto 4, 3) := by decide +kernel
theorem ddX3_canTeach_62 : decode cX3_canTeach 62 = .ok (.iconst 0, 1) := by decide +kernel
theorem ddX3_canTeach_63 : decode cX3_canTeach 63 = .ok (.ireturn, 1) := by decide +kernel
def wq_k_X3_canTeach : List Cond := Cond.code yX3_canTeach cX3_canTeach 4 (some .boolean) :: (([Cond.fieldLink RX3 24 "CrowToll$Keepers" "road" "LCrowToll$Road;", Cond.fieldLink RX3 48 "CrowToll$Road" "birds" "I", Cond.fieldLink RX3 15 "CrowToll$Keepers" "way" "[I", Cond.fieldLink RX3 28 "CrowToll$Keepers" "stand" "LCrowToll$Stand;", Cond.fieldLink RX3 73 "CrowToll$Stand" "counts" "[I"] : List Cond) ++ wsX30 ++ wsX70 ++ wsX90)
set_option maxHeartbeats 8000000 in
set_option maxRecDepth 100000 in
theorem k_X3_canTeach (l : Launch) (D : va_G) (cy : Nat → ClassId) (ad : Nat → Nat) (g : Nat → va_E) {u0_2 : Value} {u0_3 : Value} {u0_4 : Value} {u0_5 : Value} {u0_7 : Value} {u0_8 : Value} {u1_0 : Value} {u1_1 : Value} {u1_2 : Value} {u1_3 : Value} {u1_4 : Value} {x1_5 : Int32} {u1_6 : Value} {u1_7 : Value} {u1_8 : Value} {u1_9 : Value} {u1_10 : Value} {u1_11 : Value} {u1_12 : Value} {u1_13 : Value} {u1_14 : Value} {u1_15 : Value} {u1_16 : Value} {u1_17 : Value} {c2 : Nat → Int32} {u3_0 : Value} {u3_1 : Value} {u3_2 : Value} {u3_4 : Value} {c4 : Nat → Int32} {so : Int32} (o0 : g 0 = .inr (3, [.ref (ad 1), .ref (ad 3), u0_2, u0_3, u0_4, u0_5, .ref (ad 2), u0_7, u0_8])) (o1 : g 1 = .inr (7, [u1_0, u1_1, u1_2, u1_3, u1_4, .int x1_5, u1_6, u1_7, u1_8, u1_9, u1_10, u1_11, u1_12, u1_13, u1_14, u1_15, u1_16, u1_17])) (a2 : g 2 = .inl (cy 0, 5, .inl c2)) (o3 : g 3 = .inr (9, [u3_0, u3_1, u3_2, .ref (ad 4), u3_4])) (a4 : g 4 = .inl (cy 0, 5, .inl c4)) (b1_5 : zi 0 5 x1_5) : cMi l yX3_canTeach wq_k_X3_canTeach { frames := 0, cells := 0, slots := 0, locals := 0 } 5 0 0 0 D cy ad g [.ref (ad 0), .int so] (fun r nw lu => (zi 0 1 r) ∧ (lu = [])) := by
  refine cM_of (Qc := fun A => cQi (fun r nw lu => (zi 0 1 r) ∧ (lu = [])) D 5 0 ad g A) (cc := cX3_canTeach) (maxL := 4) (ret := (some .boolean)) (by decide) rfl (Nat.le_of_ble_eq_true rfl) ?_
  intro p e s m below meth c A hC hr hlk hnm hO ls hl
  have hC : CallFix p m c cX3_canTeach 4 s [.ref (ad 0), .int so].toArray wq_k_X3_canTeach RX3 := hC
  obtain ⟨hx, hb, hml, hown, hts⟩ := id hC
  have hl : lv_has ls 4 [(0, .ref (ad 0)), (1, .int so)] := hl
  have i_X3 : ∀ w ∈ wsX30, w ∈ wq_k_X3_canTeach := fun w h => List.mem_cons_of_mem _ (List.mem_append_left _ (List.mem_append_left _ (List.mem_append_right _ h)))
  have i_X7 : ∀ w ∈ wsX70, w ∈ wq_k_X3_canTeach := fun w h => List.mem_cons_of_mem _ (List.mem_append_left _ (List.mem_append_right _ h))
  have i_X9 : ∀ w ∈ wsX90, w ∈ wq_k_X3_canTeach := fun w h => List.mem_cons_of_mem _ (List.mem_append_right _ h)
  refine lv_iconst (v := 0) hx hb ddX3_canTeach_0 (by decide) ?_
  refine lv_istore_n (lv' := [(2, .int 0), (0, .ref (ad 0)), (1, .int so)]) hx hb ddX3_canTeach_1 rfl hl (by decide) rfl (fun ls hl => ?_)
  refine lv_iconst (v := 0) hx hb ddX3_canTeach_2 (by decide) ?_
  refine lv_istore_n (lv' := [(3, .int 0), (2, .int 0), (0, .ref (ad 0)), (1, .int so)]) hx hb ddX3_canTeach_3 rfl hl (by decide) rfl (fun ls hl => ?_)
  have loop_4_317 : ∀ (d_4_318 : Nat) (v_4_290 : Int32) (v_4_292 : Int32), zi 0 5 v_4_290 → (5 + 1 - v_4_290.toInt).toNat < d_4_318 → ∀ (H : Heap) (locs : List Loc), cO D cy A s.heap s 5 ad (cup [] g) H locs → ∀ ls : Array Slot, lv_has ls 4 [(3, .int v_4_290), (2, .int v_4_292), (0, .ref (ad 0)), (1, .int so)] → W p l e { frames := 0, cells := 0, slots := 0, locals := 0 } s m [.ref (ad 0), .int so].toArray below meth c H locs 0 0 (MQ below (cQi (fun r nw lu => (zi 0 1 r) ∧ (lu = [])) D 5 0 ad g A) [.ref (ad 0), .int so].toArray s 0 0 A) (F0 m 4 ls [])  := by
    intro d_4_318
    induction d_4_318 with
    | zero => intro v_4_290 v_4_292 z_4_291 mu_4_319; exact absurd mu_4_319 (Nat.not_lt_zero _)
    | succ d_4_318 ih_4_320 =>
      intro v_4_290 v_4_292 z_4_291 mu_4_319 H locs hO ls hl
      refine lv_iload_n hx hb ddX3_canTeach_4 rfl (lv_at hl 0 rfl) ?_
      refine lv_aload_n hx hb ddX3_canTeach_5 rfl (lv_at hl 2 rfl) ?_
      refine cg_get hC hO 0 (by decide) o0 rfl i_X3 0 (by decide) (List.mem_of_getElem? (i := 1) rfl) rfl ddX3_canTeach_6 ?_
      refine cg_get hC hO 1 (by decide) o1 rfl i_X7 5 (by decide) (List.mem_of_getElem? (i := 2) rfl) rfl ddX3_canTeach_9 ?_
      refine lv_icmp_ge (tgt := 53) hx hb ddX3_canTeach_12 (by decide) (fun h_12_321 => ?_) (fun h_12_321 => ?_)
      · have q_12_322 := zr_le h_12_321
        refine lv_iload_n hx hb ddX3_canTeach_53 rfl (lv_at hl 1 rfl) ?_
        refine lv_iload_n hx hb ddX3_canTeach_54 rfl (lv_at hl 3 rfl) ?_
        refine lv_icmp_ne (tgt := 62) hx hb ddX3_canTeach_55 (by decide) (fun h_55_323 => ?_) (fun h_55_323 => ?_)
        · refine lv_iconst (v := 0) hx hb ddX3_canTeach_62 (by decide) ?_
          exact cg_iret (nw := fun _ => 0) hC hr hlk hO.same rfl (Nat.le_of_ble_eq_true rfl) (Nat.le_of_ble_eq_true rfl) (⟨(zi_k (a := 0) (b := 1) (x := 0) rfl), rfl⟩) ddX3_canTeach_63
        · have q_55_324 := zr_eq h_55_323
          refine lv_iconst (v := 1) hx hb ddX3_canTeach_58 (by decide) ?_
          refine lv_goto (tgt := 63) hx hb ddX3_canTeach_59 (by decide) ?_
          exact cg_iret (nw := fun _ => 0) hC hr hlk hO.same rfl (Nat.le_of_ble_eq_true rfl) (Nat.le_of_ble_eq_true rfl) (⟨(zi_k (a := 0) (b := 1) (x := 1) rfl), rfl⟩) ddX3_canTeach_63
      · have q_12_325 := zr_nle h_12_321
        have z_12_326 : zi 0 4 v_4_290 := zu_lt q_12_325 z_4_291 b1_5 (by decide)
        have z_12_327 : zi 1 5 x1_5 := zd_lt q_12_325 z_4_291 b1_5 (by decide)
        refine lv_iload_n hx hb ddX3_canTeach_15 rfl (lv_at hl 1 rfl) ?_
        refine lv_aload_n hx hb ddX3_canTeach_16 rfl (lv_at hl 2 rfl) ?_
        refine cg_get hC hO 0 (by decide) o0 rfl i_X3 6 (by decide) (List.mem_of_getElem? (i := 3) rfl) rfl ddX3_canTeach_17 ?_
        refine lv_iload_n hx hb ddX3_canTeach_20 rfl (lv_at hl 0 rfl) ?_
        refine zg_iald hC hO 2 (by decide) a2 (za_all _) (zi_in z_12_326 (by decide)) ddX3_canTeach_21 (fun v_21_328 z_21_329 => ?_)
        refine lv_iadd hx hb ddX3_canTeach_22 ?_
        refine lv_topi (fun v_22_330 _ => ?_)
        refine lv_istore_n (lv' := [(2, .int v_22_330), (3, .int v_4_290), (0, .ref (ad 0)), (1, .int so)]) hx hb ddX3_canTeach_23 rfl hl (by decide) rfl (fun ls hl => ?_)
        refine lv_aload_n hx hb ddX3_canTeach_24 rfl (lv_at hl 2 rfl) ?_
        refine cg_get hC hO 0 (by decide) o0 rfl i_X3 1 (by decide) (List.mem_of_getElem? (i := 4) rfl) rfl ddX3_canTeach_25 ?_
        refine cg_get hC hO 3 (by decide) o3 rfl i_X9 3 (by decide) (List.mem_of_getElem? (i := 5) rfl) rfl ddX3_canTeach_28 ?_
        refine lv_iload_n hx hb ddX3_canTeach_31 rfl (lv_at hl 1 rfl) ?_
        refine zg_iald hC hO 4 (by decide) a4 (za_all _) (zi_in z_12_326 (by decide)) ddX3_canTeach_32 (fun v_32_331 z_32_332 => ?_)
        refine lv_aload_n hx hb ddX3_canTeach_33 rfl (lv_at hl 2 rfl) ?_
        refine cg_get hC hO 0 (by decide) o0 rfl i_X3 6 (by decide) (List.mem_of_getElem? (i := 3) rfl) rfl ddX3_canTeach_34 ?_
        refine lv_iload_n hx hb ddX3_canTeach_37 rfl (lv_at hl 1 rfl) ?_
        refine zg_iald hC hO 2 (by decide) a2 (za_all _) (zi_in z_12_326 (by decide)) ddX3_canTeach_38 (fun v_38_333 z_38_334 => ?_)
        refine lv_iadd hx hb ddX3_canTeach_39 ?_
        refine lv_topi (fun v_39_335 _ => ?_)
        refine lv_bipush (v := 20) hx hb ddX3_canTeach_40 (by decide) ?_
        refine lv_icmp_le (tgt := 47) hx hb ddX3_canTeach_42 (by decide) (fun h_42_336 => ?_) (fun h_42_336 => ?_)
        · have q_42_337 := zr_le h_42_336
          have z_42_338 : zi (-2147483648) 20 v_39_335 := zu_le q_42_337 (zi_all v_39_335) (zi_k (a := 20) (b := 20) (x := 20) rfl) (by decide)
          obtain ⟨v_47_339, e_47_340, z_47_341, q_47_342⟩ := zi_inc (e := 1) (f := 5) 1 z_12_326 (by decide)
          refine lv_iinc (v := v_47_339) (lv' := [(3, .int v_47_339), (2, .int v_22_330), (0, .ref (ad 0)), (1, .int so)]) hx hb ddX3_canTeach_47 hl (k := 1) rfl e_47_340 (by decide) rfl (fun ls hl => ?_)
          refine lv_goto (tgt := 4) hx hb ddX3_canTeach_50 (by decide) ?_
          exact ih_4_320 v_47_339 v_22_330 (zi_w (c := 0) (d := 5) z_47_341 (by decide)) (zm_up q_47_342 ((zi_w (c := 0) (d := 5) z_47_341 (by decide))).2 (by decide) mu_4_319) _ _ hO ls (lv_sub hl [0, 1, 2, 3] rfl)
        · have q_42_343 := zr_nle h_42_336
          have z_42_344 : zi 21 2147483647 v_39_335 := zd_lt q_42_343 (zi_k (a := 20) (b := 20) (x := 20) rfl) (zi_all v_39_335) (by decide)
          refine lv_iconst (v := 0) hx hb ddX3_canTeach_45 (by decide) ?_
          exact cg_iret (nw := fun _ => 0) hC hr hlk hO.same rfl (Nat.le_of_ble_eq_true rfl) (Nat.le_of_ble_eq_true rfl) (⟨(zi_k (a := 0) (b := 1) (x := 0) rfl), rfl⟩) ddX3_canTeach_46
  exact loop_4_317 ((5 + 1 - (0 : Int32).toInt).toNat + 1) 0 0 (zi_k (a := 0) (b := 5) (x := 0) rfl) (Nat.lt_succ_self _) _ _ hO ls (lv_sub hl [0, 1, 2, 3] rfl)

theorem ddX3_takenWhenTaught_0 : decode cX3_takenWhenTaught 0 = .ok (.iconst 0, 1) := by decide +kernel
theorem ddX3_takenWhenTaught_1 : decode cX3_takenWhenTaught 1 = .ok (.istore_n 1, 1) := by decide +kernel
theorem ddX3_takenWhenTaught_2 : decode cX3_takenWhenTaught 2 = .ok (.iload_n 1, 1) := by decide +kernel
theorem ddX3_takenWhenTaught_3 : decode cX3_takenWhenTaught 3 = .ok (.aload_n 0, 1) := by decide +kernel
theorem ddX3_takenWhenTaught_4 : decode cX3_takenWhenTaught 4 = .ok (.getfield 24, 3) := by decide +kernel
theorem ddX3_takenWhenTaught_7 : decode cX3_takenWhenTaught 7 = .ok (.getfield 48, 3) := by decide +kernel
theorem ddX3_takenWhenTaught_10 : decode cX3_takenWhenTaught 10 = .ok (.if_icmp .ge 34, 3) := by decide +kernel
theorem ddX3_takenWhenTaught_13 : decode cX3_takenWhenTaught 13 = .ok (.aload_n 0, 1) := by decide +kernel
theorem ddX3_takenWhenTaught_14 : decode cX3_takenWhenTaught 14 = .ok (.getfield 41, 3) := by decide +kernel
theorem ddX3_takenWhenTaught_17 : decode cX3_takenWhenTaught 17 = .ok (.getfield 78, 3) := by decide +kernel
theorem ddX3_takenWhenTaught_20 : decode cX3_takenWhenTaught 20 = .ok (.iload_n 1, 1) := by decide +kernel
theorem ddX3_takenWhenTaught_21 : decode cX3_takenWhenTaught 21 = .ok (.aload_n 0, 1) := by decide +kernel
theorem ddX3_takenWhenTaught_22 : decode cX3_takenWhenTaught 22 = .ok (.getfield 28, 3) := by decide +kernel
theorem ddX3_takenWhenTaught_25 : decode cX3_takenWhenTaught 25 = .ok (.getfield 73, 3) := by decide +kernel
theorem ddX3_takenWhenTaught_28 : decode cX3_takenWhenTaught 28 = .ok (.iload_n 1, 1) := by decide +kernel
theorem ddX3_takenWhenTaught_29 : decode cX3_takenWhenTaught 29 = .ok (.iaload, 1) := by decide +kernel
theorem ddX3_takenWhenTaught_30 : decode cX3_takenWhenTaught 30 = .ok (.aload_n 0, 1) := by decide +kernel
theorem ddX3_takenWhenTaught_31 : decode cX3_takenWhenTaught 31 = .ok (.getfield 15, 3) := by decide +kernel
theorem ddX3_takenWhenTaught_34 : decode cX3_takenWhenTaught 34 = .ok (.iload_n 1, 1) := by decide +kernel
theorem ddX3_takenWhenTaught_35 : decode cX3_takenWhenTaught 35 = .ok (.iaload, 1) := by decide +kernel
theorem ddX3_takenWhenTaught_36 : decode cX3_takenWhenTaught 36 = .ok (.iadd, 1) := by decide +kernel
theorem ddX3_takenWhenTaught_37 : decode cX3_takenWhenTaught 37 = .ok (.iastore, 1) := by decide +kernel
theorem ddX3_takenWhenTaught_38 : decode cX3_takenWhenTaught 38 = .ok (.iinc 1 1, 3) := by decide +kernel
theorem ddX3_takenWhenTaught_41 : decode cX3_takenWhenTaught 41 = .ok (.goto (-39), 3) := by decide +kernel
theorem ddX3_takenWhenTaught_44 : decode cX3_takenWhenTaught 44 = .ok (.aload_n 0, 1) := by decide +kernel
theorem ddX3_takenWhenTaught_45 : decode cX3_takenWhenTaught 45 = .ok (.getfield 41, 3) := by decide +kernel
theorem ddX3_takenWhenTaught_48 : decode cX3_takenWhenTaught 48 = .ok (.invokevirtual 81, 3) := by decide +kernel
theorem ddX3_takenWhenTaught_51 : decode cX3_takenWhenTaught 51 = .ok (.iconst 0, 1) := by decide +kernel
theorem ddX3_takenWhenTaught_52 : decode cX3_takenWhenTaught 52 = .ok (.istore_n 1, 1) := by decide +kernel
theorem ddX3_takenWhenTaught_53 : decode cX3_takenWhenTaught 53 = .ok (.iconst 0, 1) := by decide +kernel
theorem ddX3_takenWhenTaught_54 : decode cX3_takenWhenTaught 54 = .ok (.istore_n 2, 1) := by decide +kernel
theorem ddX3_takenWhenTaught_55 : decode cX3_takenWhenTaught 55 = .ok (.iload_n 2, 1) := by decide +kernel
theorem ddX3_takenWhenTaught_56 : decode cX3_takenWhenTaught 56 = .ok (.aload_n 0, 1) := by decide +kernel
theorem ddX3_takenWhenTaught_57 : decode cX3_takenWhenTaught 57 = .ok (.getfield 24, 3) := by decide +kernel
theorem ddX3_takenWhenTaught_60 : decode cX3_takenWhenTaught 60 = .ok (.getfield 82, 3) := by decide +kernel
theorem ddX3_takenWhenTaught_63 : decode cX3_takenWhenTaught 63 = .ok (.if_icmp .ge 17, 3) := by decide +kernel
theorem ddX3_takenWhenTaught_66 : decode cX3_takenWhenTaught 66 = .ok (.iload_n 1, 1) := by decide +kernel
theorem ddX3_takenWhenTaught_67 : decode cX3_takenWhenTaught 67 = .ok (.aload_n 0, 1) := by decide +kernel
theorem ddX3_takenWhenTaught_68 : decode cX3_takenWhenTaught 68 = .ok (.iload_n 2, 1) := by decide +kernel
theorem ddX3_takenWhenTaught_69 : decode cX3_takenWhenTaught 69 = .ok (.invokevirtual 85, 3) := by decide +kernel
theorem ddX3_takenWhenTaught_72 : decode cX3_takenWhenTaught 72 = .ok (.iadd, 1) := by decide +kernel
theorem ddX3_takenWhenTaught_73 : decode cX3_takenWhenTaught 73 = .ok (.istore_n 1, 1) := by decide +kernel
theorem ddX3_takenWhenTaught_74 : decode cX3_takenWhenTaught 74 = .ok (.iinc 2 1, 3) := by decide +kernel
theorem ddX3_takenWhenTaught_77 : decode cX3_takenWhenTaught 77 = .ok (.goto (-22), 3) := by decide +kernel
theorem ddX3_takenWhenTaught_80 : decode cX3_takenWhenTaught 80 = .ok (.iload_n 1, 1) := by decide +kernel
theorem ddX3_takenWhenTaught_81 : decode cX3_takenWhenTaught 81 = .ok (.ireturn, 1) := by decide +kernel
def wq_k_X3_takenWhenTaught : List Cond := Cond.code yX3_takenWhenTaught cX3_takenWhenTaught 3 (some .int) :: (([Cond.fieldLink RX3 24 "CrowToll$Keepers" "road" "LCrowToll$Road;", Cond.fieldLink RX3 48 "CrowToll$Road" "birds" "I", Cond.fieldLink RX3 41 "CrowToll$Keepers" "watch" "LCrowToll$Watch;", Cond.fieldLink RX3 78 "CrowToll$Watch" "limit" "[I", Cond.fieldLink RX3 28 "CrowToll$Keepers" "stand" "LCrowToll$Stand;", Cond.fieldLink RX3 73 "CrowToll$Stand" "counts" "[I", Cond.fieldLink RX3 15 "CrowToll$Keepers" "way" "[I", Cond.methodLink RX3 81 yX10_begin, Cond.instanceMethod yX10_begin, Cond.selects RX10 yX10_begin yX10_begin, Cond.initialized RX10, Cond.code yX10_begin cX10_begin 1 none, Cond.fieldLink RX10 21 "CrowToll$Watch" "count" "[I", Cond.methodLink RX10 54 yJ7_fill_53178, Cond.static yJ7_fill_53178, Cond.initialized RJ7, Cond.code yJ7_fill_53178 cJ7_fill_53178 4 none, Cond.fieldLink RX10 24 "CrowToll$Watch" "total" "[I", Cond.fieldLink RX10 27 "CrowToll$Watch" "lookedAt" "[I", Cond.fieldLink RX10 30 "CrowToll$Watch" "countedAt" "[I", Cond.fieldLink RX3 82 "CrowToll$Road" "posts" "I", Cond.methodLink RX3 85 yX3_takenAt, Cond.instanceMethod yX3_takenAt, Cond.selects RX3 yX3_takenAt yX3_takenAt, Cond.initialized RX3, Cond.code yX3_takenAt cX3_takenAt 6 (some .int), Cond.fieldLink RX3 100 "CrowToll$Keepers" "going" "I", Cond.fieldLink RX3 9 "CrowToll$Keepers" "order" "[I", Cond.fieldLink RX3 103 "CrowToll$Stand" "minute" "[I", Cond.fieldLink RX3 120 "CrowToll$Road" "at" "[I", Cond.methodLink RX3 123 yX10_look, Cond.instanceMethod yX10_look, Cond.selects RX10 yX10_look yX10_look, Cond.code yX10_look cX10_look 5 (some .int), Cond.fieldLink RX10 18 "CrowToll$Watch" "seated" "[I", Cond.fieldLink RX10 15 "CrowToll$Watch" "seat" "[I", Cond.fieldLink RX10 33 "CrowToll$Watch" "road" "LCrowToll$Road;", Cond.fieldLink RX10 60 "CrowToll$Road" "gap" "[I", Cond.fieldLink RX10 9 "CrowToll$Watch" "limit" "[I", Cond.fieldLink RX10 63 "CrowToll$Road" "takes" "[I", Cond.fieldLink RX3 32 "CrowToll$Keepers" "prices" "LCrowToll$Prices;", Cond.fieldLink RX3 126 "CrowToll$Stand" "sacks" "[I", Cond.fieldLink RX3 129 "CrowToll$Watch" "count" "[I", Cond.methodLink RX3 132 yX5_of, Cond.instanceMethod yX5_of, Cond.selects RX5 yX5_of yX5_of, Cond.initialized RX5, Cond.code yX5_of cX5_of 5 (some .int), Cond.fieldLink RX5 15 "CrowToll$Prices" "known" "[I", Cond.fieldLink RX5 9 "CrowToll$Prices" "sacksKnown" "[I", Cond.fieldLink RX5 18 "CrowToll$Prices" "road" "LCrowToll$Road;", Cond.fieldLink RX5 28 "CrowToll$Road" "law" "LCrowToll$Law;", Cond.fieldLink RX5 34 "CrowToll$Road" "toll" "[I", Cond.methodLink RX5 37 yX4_pay, Cond.instanceMethod yX4_pay, Cond.selects RX4 yX4_pay yX4_pay, Cond.initialized RX4, Cond.code yX4_pay cX4_pay 7 (some .int), Cond.fieldLink RX4 25 "CrowToll$Law" "isTold" "Z", Cond.fieldLink RX4 18 "CrowToll$Law" "steps" "I", Cond.fieldLink RX4 11 "CrowToll$Law" "step" "[I", Cond.fieldLink RX4 15 "CrowToll$Law" "stack" "[I", Cond.methodLink RX4 39 Lib.Math.min.name, Cond.static Lib.Math.min.name, Cond.initialized "java/lang/Math", Cond.code Lib.Math.min.name Lib.Math.min.code 2 (some .int), Cond.methodLink RX4 45 Lib.Math.max.name, Cond.static Lib.Math.max.name, Cond.code Lib.Math.max.name Lib.Math.max.code 2 (some .int), Cond.methodLink RX4 35 yX4_joined, Cond.static yX4_joined, Cond.code yX4_joined cX4_joined 3 (some .int)] : List Cond) ++ wsX30 ++ wsX40 ++ wsX50 ++ wsX70 ++ wsX90 ++ wsX100)
set_option maxRecDepth 20000 in
theorem gr_k_X3_takenWhenTaught_k_X10_begin : GoodIn wq_k_X3_takenWhenTaught wq_k_X10_begin := List.forall_mem_cons.mpr ⟨⟨(List.mem_of_getElem? (i := 12) rfl), good_of_word rfl⟩, List.forall_mem_append.mpr ⟨List.forall_mem_cons.mpr ⟨⟨(List.mem_of_getElem? (i := 13) rfl), good_of_word rfl⟩, List.forall_mem_cons.mpr ⟨⟨(List.mem_of_getElem? (i := 14) rfl), good_of_word rfl⟩, List.forall_mem_cons.mpr ⟨⟨(List.mem_of_getElem? (i := 15) rfl), good_of_word rfl⟩, List.forall_mem_cons.mpr ⟨⟨(List.mem_of_getElem? (i := 16) rfl), good_of_word rfl⟩, List.forall_mem_cons.mpr ⟨⟨(List.mem_of_getElem? (i := 17) rfl), good_of_word rfl⟩, List.forall_mem_cons.mpr ⟨⟨(List.mem_of_getElem? (i := 18) rfl), good_of_word rfl⟩, List.forall_mem_cons.mpr ⟨⟨(List.mem_of_getElem? (i := 19) rfl), good_of_word rfl⟩, List.forall_mem_cons.mpr ⟨⟨(List.mem_of_getElem? (i := 20) rfl), good_of_word rfl⟩, (fun _ h => absurd h List.not_mem_nil)⟩⟩⟩⟩⟩⟩⟩⟩, fun w h => ⟨(fun w h => List.mem_cons_of_mem _ (List.mem_append_right _ h)) w h, good_of_word (List.all_eq_true.mp gw_X10 w h)⟩⟩⟩
set_option maxRecDepth 20000 in
theorem gq_k_X3_takenWhenTaught_k_X10_begin_81 : GoodIn wq_k_X3_takenWhenTaught (wsV RX3 81 RX10 yX10_begin wq_k_X10_begin) := goodIn_app (List.forall_mem_cons.mpr ⟨⟨(List.mem_of_getElem? (i := 8) rfl), good_of_word rfl⟩, List.forall_mem_cons.mpr ⟨⟨(List.mem_of_getElem? (i := 9) rfl), good_of_word rfl⟩, List.forall_mem_cons.mpr ⟨⟨(List.mem_of_getElem? (i := 10) rfl), good_of_word rfl⟩, List.forall_mem_cons.mpr ⟨⟨(List.mem_of_getElem? (i := 11) rfl), good_of_word rfl⟩, (fun _ h => absurd h List.not_mem_nil)⟩⟩⟩⟩) gr_k_X3_takenWhenTaught_k_X10_begin
set_option maxRecDepth 20000 in
theorem gr_k_X3_takenWhenTaught_k_X3_takenAt : GoodIn wq_k_X3_takenWhenTaught wq_k_X3_takenAt := List.forall_mem_cons.mpr ⟨⟨(List.mem_of_getElem? (i := 26) rfl), good_of_word rfl⟩, List.forall_mem_append.mpr ⟨List.forall_mem_append.mpr ⟨List.forall_mem_append.mpr ⟨List.forall_mem_append.mpr ⟨List.forall_mem_append.mpr ⟨List.forall_mem_append.mpr ⟨List.forall_mem_cons.mpr ⟨⟨(List.mem_of_getElem? (i := 27) rfl), good_of_word rfl⟩, List.forall_mem_cons.mpr ⟨⟨(List.mem_of_getElem? (i := 28) rfl), good_of_word rfl⟩, List.forall_mem_cons.mpr ⟨⟨(List.mem_of_getElem? (i := 3) rfl), good_of_word rfl⟩, List.forall_mem_cons.mpr ⟨⟨(List.mem_of_getElem? (i := 5) rfl), good_of_word rfl⟩, List.forall_mem_cons.mpr ⟨⟨(List.mem_of_getElem? (i := 29) rfl), good_of_word rfl⟩, List.forall_mem_cons.mpr ⟨⟨(List.mem_of_getElem? (i := 1) rfl), good_of_word rfl⟩, List.forall_mem_cons.mpr ⟨⟨(List.mem_of_getElem? (i := 30) rfl), good_of_word rfl⟩, List.forall_mem_cons.mpr ⟨⟨(List.mem_of_getElem? (i := 31) rfl), good_of_word rfl⟩, List.forall_mem_cons.mpr ⟨⟨(List.mem_of_getElem? (i := 32) rfl), good_of_word rfl⟩, List.forall_mem_cons.mpr ⟨⟨(List.mem_of_getElem? (i := 33) rfl), good_of_word rfl⟩, List.forall_mem_cons.mpr ⟨⟨(List.mem_of_getElem? (i := 11) rfl), good_of_word rfl⟩, List.forall_mem_cons.mpr ⟨⟨(List.mem_of_getElem? (i := 34) rfl), good_of_word rfl⟩, List.forall_mem_cons.mpr ⟨⟨(List.mem_of_getElem? (i := 35) rfl), good_of_word rfl⟩, List.forall_mem_cons.mpr ⟨⟨(List.mem_of_getElem? (i := 36) rfl), good_of_word rfl⟩, List.forall_mem_cons.mpr ⟨⟨(List.mem_of_getElem? (i := 20) rfl), good_of_word rfl⟩, List.forall_mem_cons.mpr ⟨⟨(List.mem_of_getElem? (i := 19) rfl), good_of_word rfl⟩, List.forall_mem_cons.mpr ⟨⟨(List.mem_of_getElem? (i := 37) rfl), good_of_word rfl⟩, List.forall_mem_cons.mpr ⟨⟨(List.mem_of_getElem? (i := 38) rfl), good_of_word rfl⟩, List.forall_mem_cons.mpr ⟨⟨(List.mem_of_getElem? (i := 13) rfl), good_of_word rfl⟩, List.forall_mem_cons.mpr ⟨⟨(List.mem_of_getElem? (i := 39) rfl), good_of_word rfl⟩, List.forall_mem_cons.mpr ⟨⟨(List.mem_of_getElem? (i := 18) rfl), good_of_word rfl⟩, List.forall_mem_cons.mpr ⟨⟨(List.mem_of_getElem? (i := 40) rfl), good_of_word rfl⟩, List.forall_mem_cons.mpr ⟨⟨(List.mem_of_getElem? (i := 41) rfl), good_of_word rfl⟩, List.forall_mem_cons.mpr ⟨⟨(List.mem_of_getElem? (i := 42) rfl), good_of_word rfl⟩, List.forall_mem_cons.mpr ⟨⟨(List.mem_of_getElem? (i := 43) rfl), good_of_word rfl⟩, List.forall_mem_cons.mpr ⟨⟨(List.mem_of_getElem? (i := 44) rfl), good_of_word rfl⟩, List.forall_mem_cons.mpr ⟨⟨(List.mem_of_getElem? (i := 45) rfl), good_of_word rfl⟩, List.forall_mem_cons.mpr ⟨⟨(List.mem_of_getElem? (i := 46) rfl), good_of_word rfl⟩, List.forall_mem_cons.mpr ⟨⟨(List.mem_of_getElem? (i := 47) rfl), good_of_word rfl⟩, List.forall_mem_cons.mpr ⟨⟨(List.mem_of_getElem? (i := 48) rfl), good_of_word rfl⟩, List.forall_mem_cons.mpr ⟨⟨(List.mem_of_getElem? (i := 49) rfl), good_of_word rfl⟩, List.forall_mem_cons.mpr ⟨⟨(List.mem_of_getElem? (i := 50) rfl), good_of_word rfl⟩, List.forall_mem_cons.mpr ⟨⟨(List.mem_of_getElem? (i := 51) rfl), good_of_word rfl⟩, List.forall_mem_cons.mpr ⟨⟨(List.mem_of_getElem? (i := 52) rfl), good_of_word rfl⟩, List.forall_mem_cons.mpr ⟨⟨(List.mem_of_getElem? (i := 53) rfl), good_of_word rfl⟩, List.forall_mem_cons.mpr ⟨⟨(List.mem_of_getElem? (i := 54) rfl), good_of_word rfl⟩, List.forall_mem_cons.mpr ⟨⟨(List.mem_of_getElem? (i := 55) rfl), good_of_word rfl⟩, List.forall_mem_cons.mpr ⟨⟨(List.mem_of_getElem? (i := 56) rfl), good_of_word rfl⟩, List.forall_mem_cons.mpr ⟨⟨(List.mem_of_getElem? (i := 57) rfl), good_of_word rfl⟩, List.forall_mem_cons.mpr ⟨⟨(List.mem_of_getElem? (i := 58) rfl), good_of_word rfl⟩, List.forall_mem_cons.mpr ⟨⟨(List.mem_of_getElem? (i := 59) rfl), good_of_word rfl⟩, List.forall_mem_cons.mpr ⟨⟨(List.mem_of_getElem? (i := 60) rfl), good_of_word rfl⟩, List.forall_mem_cons.mpr ⟨⟨(List.mem_of_getElem? (i := 61) rfl), good_of_word rfl⟩, List.forall_mem_cons.mpr ⟨⟨(List.mem_of_getElem? (i := 62) rfl), good_of_word rfl⟩, List.forall_mem_cons.mpr ⟨⟨(List.mem_of_getElem? (i := 63) rfl), good_of_word rfl⟩, List.forall_mem_cons.mpr ⟨⟨(List.mem_of_getElem? (i := 64) rfl), good_of_word rfl⟩, List.forall_mem_cons.mpr ⟨⟨(List.mem_of_getElem? (i := 65) rfl), good_of_word rfl⟩, List.forall_mem_cons.mpr ⟨⟨(List.mem_of_getElem? (i := 66) rfl), good_of_word rfl⟩, List.forall_mem_cons.mpr ⟨⟨(List.mem_of_getElem? (i := 67) rfl), good_of_word rfl⟩, List.forall_mem_cons.mpr ⟨⟨(List.mem_of_getElem? (i := 68) rfl), good_of_word rfl⟩, List.forall_mem_cons.mpr ⟨⟨(List.mem_of_getElem? (i := 69) rfl), good_of_word rfl⟩, List.forall_mem_cons.mpr ⟨⟨(List.mem_of_getElem? (i := 70) rfl), good_of_word rfl⟩, List.forall_mem_cons.mpr ⟨⟨(List.mem_of_getElem? (i := 71) rfl), good_of_word rfl⟩, List.forall_mem_cons.mpr ⟨⟨(List.mem_of_getElem? (i := 72) rfl), good_of_word rfl⟩, (fun _ h => absurd h List.not_mem_nil)⟩⟩⟩⟩⟩⟩⟩⟩⟩⟩⟩⟩⟩⟩⟩⟩⟩⟩⟩⟩⟩⟩⟩⟩⟩⟩⟩⟩⟩⟩⟩⟩⟩⟩⟩⟩⟩⟩⟩⟩⟩⟩⟩⟩⟩⟩⟩⟩⟩⟩⟩⟩⟩⟩, fun w h => ⟨(fun w h => List.mem_cons_of_mem _ (List.mem_append_left _ (List.mem_append_left _ (List.mem_append_left _ (List.mem_append_left _ (List.mem_append_left _ (List.mem_append_right _ h))))))) w h, good_of_word (List.all_eq_true.mp gw_X3 w h)⟩⟩, fun w h => ⟨(fun w h => List.mem_cons_of_mem _ (List.mem_append_left _ (List.mem_append_left _ (List.mem_append_left _ (List.mem_append_left _ (List.mem_append_right _ h)))))) w h, good_of_word (List.all_eq_true.mp gw_X4 w h)⟩⟩, fun w h => ⟨(fun w h => List.mem_cons_of_mem _ (List.mem_append_left _ (List.mem_append_left _ (List.mem_append_left _ (List.mem_append_right _ h))))) w h, good_of_word (List.all_eq_true.mp gw_X5 w h)⟩⟩, fun w h => ⟨(fun w h => List.mem_cons_of_mem _ (List.mem_append_left _ (List.mem_append_left _ (List.mem_append_right _ h)))) w h, good_of_word (List.all_eq_true.mp gw_X7 w h)⟩⟩, fun w h => ⟨(fun w h => List.mem_cons_of_mem _ (List.mem_append_left _ (List.mem_append_right _ h))) w h, good_of_word (List.all_eq_true.mp gw_X9 w h)⟩⟩, fun w h => ⟨(fun w h => List.mem_cons_of_mem _ (List.mem_append_right _ h)) w h, good_of_word (List.all_eq_true.mp gw_X10 w h)⟩⟩⟩
set_option maxRecDepth 20000 in
theorem gq_k_X3_takenWhenTaught_k_X3_takenAt_85 : GoodIn wq_k_X3_takenWhenTaught (wsV RX3 85 RX3 yX3_takenAt wq_k_X3_takenAt) := goodIn_app (List.forall_mem_cons.mpr ⟨⟨(List.mem_of_getElem? (i := 22) rfl), good_of_word rfl⟩, List.forall_mem_cons.mpr ⟨⟨(List.mem_of_getElem? (i := 23) rfl), good_of_word rfl⟩, List.forall_mem_cons.mpr ⟨⟨(List.mem_of_getElem? (i := 24) rfl), good_of_word rfl⟩, List.forall_mem_cons.mpr ⟨⟨(List.mem_of_getElem? (i := 25) rfl), good_of_word rfl⟩, (fun _ h => absurd h List.not_mem_nil)⟩⟩⟩⟩) gr_k_X3_takenWhenTaught_k_X3_takenAt
set_option maxHeartbeats 8000000 in
set_option maxRecDepth 100000 in
theorem k_X3_takenWhenTaught (l : Launch) (D : va_G) (cy : Nat → ClassId) (ad : Nat → Nat) (g : Nat → va_E) {x0_5 : Int32} {u0_7 : Value} {u0_8 : Value} {u1_0 : Value} {u1_1 : Value} {u1_4 : Value} {x1_5 : Int32} {u1_6 : Value} {u1_9 : Value} {u1_10 : Value} {x1_11 : Int32} {u1_12 : Value} {u1_13 : Value} {u1_14 : Value} {u1_15 : Value} {u1_16 : Value} {u3_2 : Value} {u3_4 : Value} {c4 : Nat → Int32} {c5 : Nat → Int32} {c6 : Nat → Int32} {c7 : Nat → Int32} {c8 : Nat → Int32} {c9 : Nat → Int32} {c10 : Nat → Int32} {x11_1 : Int32} {u11_2 : Value} {x11_3 : Int32} {c13 : Nat → Int32} {c14 : Nat → Int32} {c15 : Nat → Int32} {c16 : Nat → Int32} {c17 : Nat → Int32} {c18 : Nat → Int32} {c19 : Nat → Int32} {c20 : Nat → Int32} {c21 : Nat → Int32} {c22 : Nat → Int32} {c23 : Nat → Int32} {c24 : Nat → Int32} {c25 : Nat → Int32} (o0 : g 0 = .inr (3, [.ref (ad 1), .ref (ad 3), .ref (ad 12), .ref (ad 2), .ref (ad 25), .int x0_5, .ref (ad 5), u0_7, u0_8])) (o1 : g 1 = .inr (7, [u1_0, u1_1, .ref (ad 13), .ref (ad 14), u1_4, .int x1_5, u1_6, .ref (ad 15), .ref (ad 16), u1_9, u1_10, .int x1_11, u1_12, u1_13, u1_14, u1_15, u1_16, .ref (ad 11)])) (o2 : g 2 = .inr (10, [.ref (ad 1), .ref (ad 6), .ref (ad 23), .ref (ad 24), .ref (ad 7), .ref (ad 8), .ref (ad 9), .ref (ad 10)])) (o3 : g 3 = .inr (9, [.ref (ad 19), .ref (ad 20), u3_2, .ref (ad 4), u3_4])) (a4 : g 4 = .inl (cy 0, 5, .inl c4)) (a5 : g 5 = .inl (cy 0, 5, .inl c5)) (a6 : g 6 = .inl (cy 0, 5, .inl c6)) (a7 : g 7 = .inl (cy 0, 5, .inl c7)) (a8 : g 8 = .inl (cy 0, 5, .inl c8)) (a9 : g 9 = .inl (cy 0, 5, .inl c9)) (a10 : g 10 = .inl (cy 0, 5, .inl c10)) (o11 : g 11 = .inr (4, [.ref (ad 17), .int x11_1, u11_2, .int x11_3, .ref (ad 18)])) (o12 : g 12 = .inr (5, [.ref (ad 1), .ref (ad 21), .ref (ad 22)])) (a13 : g 13 = .inl (cy 0, 5, .inl c13)) (a14 : g 14 = .inl (cy 0, 5, .inl c14)) (a15 : g 15 = .inl (cy 0, 4, .inl c15)) (a16 : g 16 = .inl (cy 0, 4, .inl c16)) (a17 : g 17 = .inl (cy 0, 300, .inl c17)) (a18 : g 18 = .inl (cy 0, 30, .inl c18)) (a19 : g 19 = .inl (cy 0, 24, .inl c19)) (a20 : g 20 = .inl (cy 0, 24, .inl c20)) (a21 : g 21 = .inl (cy 0, 80, .inl c21)) (a22 : g 22 = .inl (cy 0, 80, .inl c22)) (a23 : g 23 = .inl (cy 0, 20, .inl c23)) (a24 : g 24 = .inl (cy 0, 4, .inl c24)) (a25 : g 25 = .inl (cy 0, 24, .inl c25)) (b0_5 : zi 0 24 x0_5) (b1_5 : zi 0 5 x1_5) (b1_11 : zi 0 4 x1_11) (b11_1 : zi 0 300 x11_1) (b11_3 : zi 0 1 x11_3) (ha23 : za 0 4 c23) (ha24 : za 0 5 c24) (ha25 : za 0 23 c25) : cMi l yX3_takenWhenTaught wq_k_X3_takenWhenTaught { frames := 4, cells := 0, slots := 0, locals := 97 } 26 0 0 0 D cy ad g [.ref (ad 0)] (fun r nw lu => ∃ (d6 : Nat → Int32) (d7 : Nat → Int32) (d8 : Nat → Int32) (d9 : Nat → Int32) (d10 : Nat → Int32) (d18 : Nat → Int32) (d21 : Nat → Int32) (d22 : Nat → Int32), lu = [(6, .inl (cy 0, 5, .inl d6)), (7, .inl (cy 0, 5, .inl d7)), (8, .inl (cy 0, 5, .inl d8)), (9, .inl (cy 0, 5, .inl d9)), (10, .inl (cy 0, 5, .inl d10)), (18, .inl (cy 0, 30, .inl d18)), (21, .inl (cy 0, 80, .inl d21)), (22, .inl (cy 0, 80, .inl d22))]) := by
  refine cM_of (Qc := fun A => cQi (fun r nw lu => ∃ (d6 : Nat → Int32) (d7 : Nat → Int32) (d8 : Nat → Int32) (d9 : Nat → Int32) (d10 : Nat → Int32) (d18 : Nat → Int32) (d21 : Nat → Int32) (d22 : Nat → Int32), lu = [(6, .inl (cy 0, 5, .inl d6)), (7, .inl (cy 0, 5, .inl d7)), (8, .inl (cy 0, 5, .inl d8)), (9, .inl (cy 0, 5, .inl d9)), (10, .inl (cy 0, 5, .inl d10)), (18, .inl (cy 0, 30, .inl d18)), (21, .inl (cy 0, 80, .inl d21)), (22, .inl (cy 0, 80, .inl d22))]) D 26 0 ad g A) (cc := cX3_takenWhenTaught) (maxL := 3) (ret := (some .int)) (by decide) rfl (Nat.le_of_ble_eq_true rfl) ?_
  intro p e s m below meth c A hC hr hlk hnm hO ls hl
  have hC : CallFix p m c cX3_takenWhenTaught 3 s [.ref (ad 0)].toArray wq_k_X3_takenWhenTaught RX3 := hC
  obtain ⟨hx, hb, hml, hown, hts⟩ := id hC
  have hl : lv_has ls 3 [(0, .ref (ad 0))] := hl
  have i_X10 : ∀ w ∈ wsX100, w ∈ wq_k_X3_takenWhenTaught := fun w h => List.mem_cons_of_mem _ (List.mem_append_right _ h)
  have i_X3 : ∀ w ∈ wsX30, w ∈ wq_k_X3_takenWhenTaught := fun w h => List.mem_cons_of_mem _ (List.mem_append_left _ (List.mem_append_left _ (List.mem_append_left _ (List.mem_append_left _ (List.mem_append_left _ (List.mem_append_right _ h))))))
  have i_X4 : ∀ w ∈ wsX40, w ∈ wq_k_X3_takenWhenTaught := fun w h => List.mem_cons_of_mem _ (List.mem_append_left _ (List.mem_append_left _ (List.mem_append_left _ (List.mem_append_left _ (List.mem_append_right _ h)))))
  have i_X5 : ∀ w ∈ wsX50, w ∈ wq_k_X3_takenWhenTaught := fun w h => List.mem_cons_of_mem _ (List.mem_append_left _ (List.mem_append_left _ (List.mem_append_left _ (List.mem_append_right _ h))))
  have i_X7 : ∀ w ∈ wsX70, w ∈ wq_k_X3_takenWhenTaught := fun w h => List.mem_cons_of_mem _ (List.mem_append_left _ (List.mem_append_left _ (List.mem_append_right _ h)))
  have i_X9 : ∀ w ∈ wsX90, w ∈ wq_k_X3_takenWhenTaught := fun w h => List.mem_cons_of_mem _ (List.mem_append_left _ (List.mem_append_right _ h))
  have hO := hO.notes [(6, .inl (cy 0, 5, .inl c6)), (7, .inl (cy 0, 5, .inl c7)), (8, .inl (cy 0, 5, .inl c8)), (9, .inl (cy 0, 5, .inl c9)), (10, .inl (cy 0, 5, .inl c10)), (18, .inl (cy 0, 30, .inl c18)), (21, .inl (cy 0, 80, .inl c21)), (22, .inl (cy 0, 80, .inl c22))] (List.forall_mem_cons.mpr ⟨a6, List.forall_mem_cons.mpr ⟨a7, List.forall_mem_cons.mpr ⟨a8, List.forall_mem_cons.mpr ⟨a9, List.forall_mem_cons.mpr ⟨a10, List.forall_mem_cons.mpr ⟨a18, List.forall_mem_cons.mpr ⟨a21, List.forall_mem_cons.mpr ⟨a22, (fun _ h => absurd h List.not_mem_nil)⟩⟩⟩⟩⟩⟩⟩⟩)
  refine lv_iconst (v := 0) hx hb ddX3_takenWhenTaught_0 (by decide) ?_
  refine lv_istore_n (lv' := [(1, .int 0), (0, .ref (ad 0))]) hx hb ddX3_takenWhenTaught_1 rfl hl (by decide) rfl (fun ls hl => ?_)
  have loop_2_4608 : ∀ (d_2_4609 : Nat) (v_2_4363 : Int32) (c_2_4365 : Nat → Int32), zi 0 5 v_2_4363 → za (-2147483648) 2147483647 c_2_4365 → (5 + 1 - v_2_4363.toInt).toNat < d_2_4609 → ∀ (H : Heap) (locs : List Loc), cO D cy A s.heap s 26 ad (cup [(6, .inl (cy 0, 5, .inl c_2_4365)), (7, .inl (cy 0, 5, .inl c7)), (8, .inl (cy 0, 5, .inl c8)), (9, .inl (cy 0, 5, .inl c9)), (10, .inl (cy 0, 5, .inl c10)), (18, .inl (cy 0, 30, .inl c18)), (21, .inl (cy 0, 80, .inl c21)), (22, .inl (cy 0, 80, .inl c22))] g) H locs → ∀ ls : Array Slot, lv_has ls 3 [(1, .int v_2_4363), (0, .ref (ad 0))] → W p l e { frames := 4, cells := 0, slots := 0, locals := 97 } s m [.ref (ad 0)].toArray below meth c H locs 0 0 (MQ below (cQi (fun r nw lu => ∃ (d6 : Nat → Int32) (d7 : Nat → Int32) (d8 : Nat → Int32) (d9 : Nat → Int32) (d10 : Nat → Int32) (d18 : Nat → Int32) (d21 : Nat → Int32) (d22 : Nat → Int32), lu = [(6, .inl (cy 0, 5, .inl d6)), (7, .inl (cy 0, 5, .inl d7)), (8, .inl (cy 0, 5, .inl d8)), (9, .inl (cy 0, 5, .inl d9)), (10, .inl (cy 0, 5, .inl d10)), (18, .inl (cy 0, 30, .inl d18)), (21, .inl (cy 0, 80, .inl d21)), (22, .inl (cy 0, 80, .inl d22))]) D 26 0 ad g A) [.ref (ad 0)].toArray s 0 0 A) (F0 m 2 ls [])  := by
    intro d_2_4609
    induction d_2_4609 with
    | zero => intro v_2_4363 c_2_4365 z_2_4364 zc_2_4366 mu_2_4610; exact absurd mu_2_4610 (Nat.not_lt_zero _)
    | succ d_2_4609 ih_2_4611 =>
      intro v_2_4363 c_2_4365 z_2_4364 zc_2_4366 mu_2_4610 H locs hO ls hl
      refine lv_iload_n hx hb ddX3_takenWhenTaught_2 rfl (lv_at hl 0 rfl) ?_
      refine lv_aload_n hx hb ddX3_takenWhenTaught_3 rfl (lv_at hl 1 rfl) ?_
      refine cg_get hC hO 0 (by decide) o0 rfl i_X3 0 (by decide) (List.mem_of_getElem? (i := 1) rfl) rfl ddX3_takenWhenTaught_4 ?_
      refine cg_get hC hO 1 (by decide) o1 rfl i_X7 5 (by decide) (List.mem_of_getElem? (i := 2) rfl) rfl ddX3_takenWhenTaught_7 ?_
      refine lv_icmp_ge (tgt := 44) hx hb ddX3_takenWhenTaught_10 (by decide) (fun h_10_4612 => ?_) (fun h_10_4612 => ?_)
      · have q_10_4628 := zr_le h_10_4612
        refine lv_aload_n hx hb ddX3_takenWhenTaught_44 rfl (lv_at hl 1 rfl) ?_
        refine cg_get hC hO 0 (by decide) o0 rfl i_X3 3 (by decide) (List.mem_of_getElem? (i := 3) rfl) rfl ddX3_takenWhenTaught_45 ?_
        refine cg_Vv (As := []) (rest := []) (mc := 0) (ms := 0) (rm := { frames := 1, cells := 0, slots := 0, locals := 23 }) hC hl.1 hO [2, 7, 8, 9, 10] (by decide +kernel) (k_X10_begin l D cy _ _ (u0_0 := .ref (ad 1)) (u0_1 := .ref (ad 6)) (u0_2 := .ref (ad 23)) (u0_3 := .ref (ad 24)) (c1 := c7) (c2 := c8) (c3 := c9) (c4 := c10) o2 rfl rfl rfl rfl) gq_k_X3_takenWhenTaught_k_X10_begin_81 rfl rfl rfl 0 (by decide +kernel) ⟨Nat.le_of_ble_eq_true rfl, Nat.le_of_ble_eq_true rfl⟩ rfl (by decide) o2 rfl rfl (Nat.le_of_ble_eq_true rfl) ddX3_takenWhenTaught_48 ⟨Nat.le_of_ble_eq_true rfl, Nat.le_of_ble_eq_true rfl⟩ (fun nw_48_4629 l_48_4630 H locs hw hO => ?_)
        obtain ⟨d1_48_4632, d2_48_4633, d3_48_4634, d4_48_4635, rfl⟩ := hw
        have hO := hO.mrg (lk := [(7, .inl (cy 0, 5, .inl d1_48_4632)), (8, .inl (cy 0, 5, .inl d2_48_4633)), (9, .inl (cy 0, 5, .inl d3_48_4634)), (10, .inl (cy 0, 5, .inl d4_48_4635))]) (lm := [(6, .inl (cy 0, 5, .inl c_2_4365)), (7, .inl (cy 0, 5, .inl d1_48_4632)), (8, .inl (cy 0, 5, .inl d2_48_4633)), (9, .inl (cy 0, 5, .inl d3_48_4634)), (10, .inl (cy 0, 5, .inl d4_48_4635)), (18, .inl (cy 0, 30, .inl c18)), (21, .inl (cy 0, 80, .inl c21)), (22, .inl (cy 0, 80, .inl c22))]) rfl rfl rfl
        refine lv_iconst (v := 0) hx hb ddX3_takenWhenTaught_51 (by decide) ?_
        refine lv_istore_n (lv' := [(1, .int 0), (0, .ref (ad 0))]) hx hb ddX3_takenWhenTaught_52 rfl hl (by decide) rfl (fun ls hl => ?_)
        refine lv_iconst (v := 0) hx hb ddX3_takenWhenTaught_53 (by decide) ?_
        refine lv_istore_n (lv' := [(2, .int 0), (1, .int 0), (0, .ref (ad 0))]) hx hb ddX3_takenWhenTaught_54 rfl hl (by decide) rfl (fun ls hl => ?_)
        have loop_55_4839 : ∀ (d_55_4840 : Nat) (v_55_4802 : Int32) (v_55_4804 : Int32) (c_55_4805 : Nat → Int32) (c_55_4807 : Nat → Int32) (c_55_4809 : Nat → Int32) (c_55_4811 : Nat → Int32) (c_55_4813 : Nat → Int32) (c_55_4815 : Nat → Int32) (c_55_4817 : Nat → Int32), zi 0 4 v_55_4802 → za (-2147483648) 2147483647 c_55_4805 → za (-2147483648) 2147483647 c_55_4807 → za (-2147483648) 2147483647 c_55_4809 → za (-2147483648) 2147483647 c_55_4811 → za (-2147483648) 2147483647 c_55_4813 → za (-2147483648) 2147483647 c_55_4815 → za (-2147483648) 2147483647 c_55_4817 → (4 + 1 - v_55_4802.toInt).toNat < d_55_4840 → ∀ (H : Heap) (locs : List Loc), cO D cy A s.heap s 26 ad (cup [(6, .inl (cy 0, 5, .inl c_2_4365)), (7, .inl (cy 0, 5, .inl c_55_4805)), (8, .inl (cy 0, 5, .inl c_55_4807)), (9, .inl (cy 0, 5, .inl c_55_4809)), (10, .inl (cy 0, 5, .inl c_55_4811)), (18, .inl (cy 0, 30, .inl c_55_4813)), (21, .inl (cy 0, 80, .inl c_55_4815)), (22, .inl (cy 0, 80, .inl c_55_4817))] g) H locs → ∀ ls : Array Slot, lv_has ls 3 [(2, .int v_55_4802), (1, .int v_55_4804), (0, .ref (ad 0))] → W p l e { frames := 4, cells := 0, slots := 0, locals := 97 } s m [.ref (ad 0)].toArray below meth c H locs 0 0 (MQ below (cQi (fun r nw lu => ∃ (d6 : Nat → Int32) (d7 : Nat → Int32) (d8 : Nat → Int32) (d9 : Nat → Int32) (d10 : Nat → Int32) (d18 : Nat → Int32) (d21 : Nat → Int32) (d22 : Nat → Int32), lu = [(6, .inl (cy 0, 5, .inl d6)), (7, .inl (cy 0, 5, .inl d7)), (8, .inl (cy 0, 5, .inl d8)), (9, .inl (cy 0, 5, .inl d9)), (10, .inl (cy 0, 5, .inl d10)), (18, .inl (cy 0, 30, .inl d18)), (21, .inl (cy 0, 80, .inl d21)), (22, .inl (cy 0, 80, .inl d22))]) D 26 0 ad g A) [.ref (ad 0)].toArray s 0 0 A) (F0 m 55 ls [])  := by
          intro d_55_4840
          induction d_55_4840 with
          | zero => intro v_55_4802 v_55_4804 c_55_4805 c_55_4807 c_55_4809 c_55_4811 c_55_4813 c_55_4815 c_55_4817 z_55_4803 zc_55_4806 zc_55_4808 zc_55_4810 zc_55_4812 zc_55_4814 zc_55_4816 zc_55_4818 mu_55_4841; exact absurd mu_55_4841 (Nat.not_lt_zero _)
          | succ d_55_4840 ih_55_4842 =>
            intro v_55_4802 v_55_4804 c_55_4805 c_55_4807 c_55_4809 c_55_4811 c_55_4813 c_55_4815 c_55_4817 z_55_4803 zc_55_4806 zc_55_4808 zc_55_4810 zc_55_4812 zc_55_4814 zc_55_4816 zc_55_4818 mu_55_4841 H locs hO ls hl
            refine lv_iload_n hx hb ddX3_takenWhenTaught_55 rfl (lv_at hl 0 rfl) ?_
            refine lv_aload_n hx hb ddX3_takenWhenTaught_56 rfl (lv_at hl 2 rfl) ?_
            refine cg_get hC hO 0 (by decide) o0 rfl i_X3 0 (by decide) (List.mem_of_getElem? (i := 1) rfl) rfl ddX3_takenWhenTaught_57 ?_
            refine cg_get hC hO 1 (by decide) o1 rfl i_X7 11 (by decide) (List.mem_of_getElem? (i := 21) rfl) rfl ddX3_takenWhenTaught_60 ?_
            refine lv_icmp_ge (tgt := 80) hx hb ddX3_takenWhenTaught_63 (by decide) (fun h_63_4843 => ?_) (fun h_63_4843 => ?_)
            · have q_63_4844 := zr_le h_63_4843
              refine lv_iload_n hx hb ddX3_takenWhenTaught_80 rfl (lv_at hl 1 rfl) ?_
              exact cg_iret (nw := fun _ => 0) hC hr hlk hO.same rfl (Nat.le_of_ble_eq_true rfl) (Nat.le_of_ble_eq_true rfl) (⟨c_2_4365, c_55_4805, c_55_4807, c_55_4809, c_55_4811, c_55_4813, c_55_4815, c_55_4817, rfl⟩) ddX3_takenWhenTaught_81
            · have q_63_4845 := zr_nle h_63_4843
              have z_63_4846 : zi 0 3 v_55_4802 := zu_lt q_63_4845 z_55_4803 b1_11 (by decide)
              have z_63_4847 : zi 1 4 x1_11 := zd_lt q_63_4845 z_55_4803 b1_11 (by decide)
              refine lv_iload_n hx hb ddX3_takenWhenTaught_66 rfl (lv_at hl 1 rfl) ?_
              refine lv_aload_n hx hb ddX3_takenWhenTaught_67 rfl (lv_at hl 2 rfl) ?_
              refine lv_iload_n hx hb ddX3_takenWhenTaught_68 rfl (lv_at hl 0 rfl) ?_
              refine cg_Vi (As := [.int v_55_4802]) (rest := [.int v_55_4804]) (mc := 0) (ms := 0) (rm := { frames := 3, cells := 0, slots := 0, locals := 72 }) hC hl.1 hO [0, 25, 3, 19, 1, 15, 2, 13, 14, 6, 23, 24, 7, 8, 9, 10, 20, 12, 11, 16, 17, 18, 21, 22] (by decide +kernel) (k_X3_takenAt l D cy _ _ (u4_0 := u1_0) (u4_1 := u1_1) (c7 := c13) (c8 := c14) (u4_4 := u1_4) (u4_5 := .int x1_5) (u4_6 := u1_6) (c5 := c15) (c19 := c16) (u4_9 := u1_9) (u4_10 := u1_10) (u4_11 := .int x1_11) (u4_12 := u1_12) (u4_13 := u1_13) (u4_14 := u1_14) (u4_15 := u1_15) (u4_16 := u1_16) (c20 := c17) (x18_1 := x11_1) (u18_2 := u11_2) (x18_3 := x11_3) (c21 := c_55_4813) (c3 := c19) (c16 := c20) (u2_2 := u3_2) (u2_3 := .ref (ad 4)) (u2_4 := u3_4) (c22 := c_55_4815) (c23 := c_55_4817) (c9 := c_2_4365) (c10 := c23) (c11 := c24) (c12 := c_55_4805) (c13 := c_55_4807) (c14 := c_55_4809) (c15 := c_55_4811) (c1 := c25) (x0_5 := x0_5) (u0_6 := .ref (ad 5)) (u0_7 := u0_7) (u0_8 := u0_8) (post := v_55_4802) o0 a25 o3 a19 o1 a15 o2 a13 a14 rfl a23 a24 rfl rfl rfl rfl a20 o12 o11 a16 a17 rfl rfl rfl b0_5 ha25 ha23 ha24 b11_1 b11_3 z_63_4846) gq_k_X3_takenWhenTaught_k_X3_takenAt_85 rfl rfl rfl 1 (by decide +kernel) ⟨Nat.le_of_ble_eq_true rfl, Nat.le_of_ble_eq_true rfl⟩ rfl (by decide) o0 rfl rfl (Nat.le_of_ble_eq_true rfl) ddX3_takenWhenTaught_69 ⟨Nat.le_of_ble_eq_true rfl, Nat.le_of_ble_eq_true rfl⟩ (fun r_69_4850 nw_69_4848 l_69_4849 H locs hw hO => ?_)
              obtain ⟨d12_69_4851, d13_69_4852, d14_69_4853, d15_69_4854, d21_69_4855, d22_69_4856, d23_69_4857, rfl⟩ := hw
              have hO := hO.mrg (lk := [(7, .inl (cy 0, 5, .inl d12_69_4851)), (8, .inl (cy 0, 5, .inl d13_69_4852)), (9, .inl (cy 0, 5, .inl d14_69_4853)), (10, .inl (cy 0, 5, .inl d15_69_4854)), (18, .inl (cy 0, 30, .inl d21_69_4855)), (21, .inl (cy 0, 80, .inl d22_69_4856)), (22, .inl (cy 0, 80, .inl d23_69_4857))]) (lm := [(6, .inl (cy 0, 5, .inl c_2_4365)), (7, .inl (cy 0, 5, .inl d12_69_4851)), (8, .inl (cy 0, 5, .inl d13_69_4852)), (9, .inl (cy 0, 5, .inl d14_69_4853)), (10, .inl (cy 0, 5, .inl d15_69_4854)), (18, .inl (cy 0, 30, .inl d21_69_4855)), (21, .inl (cy 0, 80, .inl d22_69_4856)), (22, .inl (cy 0, 80, .inl d23_69_4857))]) rfl rfl rfl
              refine lv_iadd hx hb ddX3_takenWhenTaught_72 ?_
              refine lv_topi (fun v_72_4858 _ => ?_)
              refine lv_istore_n (lv' := [(1, .int v_72_4858), (2, .int v_55_4802), (0, .ref (ad 0))]) hx hb ddX3_takenWhenTaught_73 rfl hl (by decide) rfl (fun ls hl => ?_)
              obtain ⟨v_74_4859, e_74_4860, z_74_4861, q_74_4862⟩ := zi_inc (e := 1) (f := 4) 1 z_63_4846 (by decide)
              refine lv_iinc (v := v_74_4859) (lv' := [(2, .int v_74_4859), (1, .int v_72_4858), (0, .ref (ad 0))]) hx hb ddX3_takenWhenTaught_74 hl (k := 1) rfl e_74_4860 (by decide) rfl (fun ls hl => ?_)
              refine lv_goto (tgt := 55) hx hb ddX3_takenWhenTaught_77 (by decide) ?_
              exact ih_55_4842 v_74_4859 v_72_4858 d12_69_4851 d13_69_4852 d14_69_4853 d15_69_4854 d21_69_4855 d22_69_4856 d23_69_4857 (zi_w (c := 0) (d := 4) z_74_4861 (by decide)) (za_all _) (za_all _) (za_all _) (za_all _) (za_all _) (za_all _) (za_all _) (zm_up q_74_4862 ((zi_w (c := 0) (d := 4) z_74_4861 (by decide))).2 (by decide) mu_55_4841) _ _ hO ls (lv_sub hl [0, 1, 2] rfl)
        exact loop_55_4839 ((4 + 1 - (0 : Int32).toInt).toNat + 1) 0 0 d1_48_4632 d2_48_4633 d3_48_4634 d4_48_4635 c18 c21 c22 (zi_k (a := 0) (b := 4) (x := 0) rfl) (za_all _) (za_all _) (za_all _) (za_all _) (za_all _) (za_all _) (za_all _) (Nat.lt_succ_self _) _ _ hO ls (lv_sub hl [0, 1, 2] rfl)
      · have q_10_4863 := zr_nle h_10_4612
        have z_10_4864 : zi 0 4 v_2_4363 := zu_lt q_10_4863 z_2_4364 b1_5 (by decide)
        have z_10_4865 : zi 1 5 x1_5 := zd_lt q_10_4863 z_2_4364 b1_5 (by decide)
        refine lv_aload_n hx hb ddX3_takenWhenTaught_13 rfl (lv_at hl 1 rfl) ?_
        refine cg_get hC hO 0 (by decide) o0 rfl i_X3 3 (by decide) (List.mem_of_getElem? (i := 3) rfl) rfl ddX3_takenWhenTaught_14 ?_
        refine cg_get hC hO 2 (by decide) o2 rfl i_X10 1 (by decide) (List.mem_of_getElem? (i := 4) rfl) rfl ddX3_takenWhenTaught_17 ?_
        refine lv_iload_n hx hb ddX3_takenWhenTaught_20 rfl (lv_at hl 0 rfl) ?_
        refine lv_aload_n hx hb ddX3_takenWhenTaught_21 rfl (lv_at hl 1 rfl) ?_
        refine cg_get hC hO 0 (by decide) o0 rfl i_X3 1 (by decide) (List.mem_of_getElem? (i := 5) rfl) rfl ddX3_takenWhenTaught_22 ?_
        refine cg_get hC hO 3 (by decide) o3 rfl i_X9 3 (by decide) (List.mem_of_getElem? (i := 6) rfl) rfl ddX3_takenWhenTaught_25 ?_
        refine lv_iload_n hx hb ddX3_takenWhenTaught_28 rfl (lv_at hl 0 rfl) ?_
        refine zg_iald hC hO 4 (by decide) a4 (za_all _) (zi_in z_10_4864 (by decide)) ddX3_takenWhenTaught_29 (fun v_29_4866 z_29_4867 => ?_)
        refine lv_aload_n hx hb ddX3_takenWhenTaught_30 rfl (lv_at hl 1 rfl) ?_
        refine cg_get hC hO 0 (by decide) o0 rfl i_X3 6 (by decide) (List.mem_of_getElem? (i := 7) rfl) rfl ddX3_takenWhenTaught_31 ?_
        refine lv_iload_n hx hb ddX3_takenWhenTaught_34 rfl (lv_at hl 0 rfl) ?_
        refine zg_iald hC hO 5 (by decide) a5 (za_all _) (zi_in z_10_4864 (by decide)) ddX3_takenWhenTaught_35 (fun v_35_4868 z_35_4869 => ?_)
        refine lv_iadd hx hb ddX3_takenWhenTaught_36 ?_
        refine lv_topi (fun v_36_4870 _ => ?_)
        refine zg_iast hC hO 6 (by decide) rfl zc_2_4366 (zi_all v_36_4870) (zi_in z_10_4864 (by decide)) ddX3_takenWhenTaught_37 (fun H locs c_37_4871 zc_37_4872 hO => ?_)
        have hO : cO D cy A s.heap s 26 ad (cup [(6, .inl (cy 0, 5, .inl c_37_4871)), (7, .inl (cy 0, 5, .inl c7)), (8, .inl (cy 0, 5, .inl c8)), (9, .inl (cy 0, 5, .inl c9)), (10, .inl (cy 0, 5, .inl c10)), (18, .inl (cy 0, 30, .inl c18)), (21, .inl (cy 0, 80, .inl c21)), (22, .inl (cy 0, 80, .inl c22))] g) _ _ := hO
        obtain ⟨v_38_4873, e_38_4874, z_38_4875, q_38_4876⟩ := zi_inc (e := 1) (f := 5) 1 z_10_4864 (by decide)
        refine lv_iinc (v := v_38_4873) (lv' := [(1, .int v_38_4873), (0, .ref (ad 0))]) hx hb ddX3_takenWhenTaught_38 hl (k := 0) rfl e_38_4874 (by decide) rfl (fun ls hl => ?_)
        refine lv_goto (tgt := 2) hx hb ddX3_takenWhenTaught_41 (by decide) ?_
        exact ih_2_4611 v_38_4873 c_37_4871 (zi_w (c := 0) (d := 5) z_38_4875 (by decide)) zc_37_4872 (zm_up q_38_4876 ((zi_w (c := 0) (d := 5) z_38_4875 (by decide))).2 (by decide) mu_2_4610) _ _ hO ls (lv_sub hl [0, 1] rfl)
  exact loop_2_4608 ((5 + 1 - (0 : Int32).toInt).toNat + 1) 0 c6 (zi_k (a := 0) (b := 5) (x := 0) rfl) (za_all _) (Nat.lt_succ_self _) _ _ hO ls (lv_sub hl [0, 1] rfl)

theorem ddX3_takenBySeats_0 : decode cX3_takenBySeats 0 = .ok (.iconst 0, 1) := by decide +kernel
theorem ddX3_takenBySeats_1 : decode cX3_takenBySeats 1 = .ok (.istore_n 1, 1) := by decide +kernel
theorem ddX3_takenBySeats_2 : decode cX3_takenBySeats 2 = .ok (.iconst 0, 1) := by decide +kernel
theorem ddX3_takenBySeats_3 : decode cX3_takenBySeats 3 = .ok (.istore_n 2, 1) := by decide +kernel
theorem ddX3_takenBySeats_4 : decode cX3_takenBySeats 4 = .ok (.iload_n 2, 1) := by decide +kernel
theorem ddX3_takenBySeats_5 : decode cX3_takenBySeats 5 = .ok (.aload_n 0, 1) := by decide +kernel
theorem ddX3_takenBySeats_6 : decode cX3_takenBySeats 6 = .ok (.getfield 24, 3) := by decide +kernel
theorem ddX3_takenBySeats_9 : decode cX3_takenBySeats 9 = .ok (.getfield 82, 3) := by decide +kernel
theorem ddX3_takenBySeats_12 : decode cX3_takenBySeats 12 = .ok (.if_icmp .ge 68, 3) := by decide +kernel
theorem ddX3_takenBySeats_15 : decode cX3_takenBySeats 15 = .ok (.iconst 0, 1) := by decide +kernel
theorem ddX3_takenBySeats_16 : decode cX3_takenBySeats 16 = .ok (.istore_n 3, 1) := by decide +kernel
theorem ddX3_takenBySeats_17 : decode cX3_takenBySeats 17 = .ok (.iconst 0, 1) := by decide +kernel
theorem ddX3_takenBySeats_18 : decode cX3_takenBySeats 18 = .ok (.istore 4, 2) := by decide +kernel
theorem ddX3_takenBySeats_20 : decode cX3_takenBySeats 20 = .ok (.iload 4, 2) := by decide +kernel
theorem ddX3_takenBySeats_22 : decode cX3_takenBySeats 22 = .ok (.aload_n 0, 1) := by decide +kernel
theorem ddX3_takenBySeats_23 : decode cX3_takenBySeats 23 = .ok (.getfield 24, 3) := by decide +kernel
theorem ddX3_takenBySeats_26 : decode cX3_takenBySeats 26 = .ok (.getfield 48, 3) := by decide +kernel
theorem ddX3_takenBySeats_29 : decode cX3_takenBySeats 29 = .ok (.if_icmp .ge 31, 3) := by decide +kernel
theorem ddX3_takenBySeats_32 : decode cX3_takenBySeats 32 = .ok (.iload_n 3, 1) := by decide +kernel
theorem ddX3_takenBySeats_33 : decode cX3_takenBySeats 33 = .ok (.aload_n 0, 1) := by decide +kernel
theorem ddX3_takenBySeats_34 : decode cX3_takenBySeats 34 = .ok (.getfield 15, 3) := by decide +kernel
theorem ddX3_takenBySeats_37 : decode cX3_takenBySeats 37 = .ok (.iload 4, 2) := by decide +kernel
theorem ddX3_takenBySeats_39 : decode cX3_takenBySeats 39 = .ok (.iaload, 1) := by decide +kernel
theorem ddX3_takenBySeats_40 : decode cX3_takenBySeats 40 = .ok (.iload_n 2, 1) := by decide +kernel
theorem ddX3_takenBySeats_41 : decode cX3_takenBySeats 41 = .ok (.if_icmp .ne 10, 3) := by decide +kernel
theorem ddX3_takenBySeats_44 : decode cX3_takenBySeats 44 = .ok (.iconst 1, 1) := by decide +kernel
theorem ddX3_takenBySeats_45 : decode cX3_takenBySeats 45 = .ok (.iload 4, 2) := by decide +kernel
theorem ddX3_takenBySeats_47 : decode cX3_takenBySeats 47 = .ok (.ishl, 1) := by decide +kernel
theorem ddX3_takenBySeats_48 : decode cX3_takenBySeats 48 = .ok (.goto 4, 3) := by decide +kernel
theorem ddX3_takenBySeats_51 : decode cX3_takenBySeats 51 = .ok (.iconst 0, 1) := by decide +kernel
theorem ddX3_takenBySeats_52 : decode cX3_takenBySeats 52 = .ok (.ior, 1) := by decide +kernel
theorem ddX3_takenBySeats_53 : decode cX3_takenBySeats 53 = .ok (.istore_n 3, 1) := by decide +kernel
theorem ddX3_takenBySeats_54 : decode cX3_takenBySeats 54 = .ok (.iinc 4 1, 3) := by decide +kernel
theorem ddX3_takenBySeats_57 : decode cX3_takenBySeats 57 = .ok (.goto (-37), 3) := by decide +kernel
theorem ddX3_takenBySeats_60 : decode cX3_takenBySeats 60 = .ok (.iload_n 1, 1) := by decide +kernel
theorem ddX3_takenBySeats_61 : decode cX3_takenBySeats 61 = .ok (.aload_n 0, 1) := by decide +kernel
theorem ddX3_takenBySeats_62 : decode cX3_takenBySeats 62 = .ok (.getfield 18, 3) := by decide +kernel
theorem ddX3_takenBySeats_65 : decode cX3_takenBySeats 65 = .ok (.iload_n 2, 1) := by decide +kernel
theorem ddX3_takenBySeats_66 : decode cX3_takenBySeats 66 = .ok (.bipush 32, 2) := by decide +kernel
theorem ddX3_takenBySeats_68 : decode cX3_takenBySeats 68 = .ok (.imul, 1) := by decide +kernel
theorem ddX3_takenBySeats_69 : decode cX3_takenBySeats 69 = .ok (.iload_n 3, 1) := by decide +kernel
theorem ddX3_takenBySeats_70 : decode cX3_takenBySeats 70 = .ok (.iadd, 1) := by decide +kernel
theorem ddX3_takenBySeats_71 : decode cX3_takenBySeats 71 = .ok (.iaload, 1) := by decide +kernel
theorem ddX3_takenBySeats_72 : decode cX3_takenBySeats 72 = .ok (.iadd, 1) := by decide +kernel
theorem ddX3_takenBySeats_73 : decode cX3_takenBySeats 73 = .ok (.istore_n 1, 1) := by decide +kernel
theorem ddX3_takenBySeats_74 : decode cX3_takenBySeats 74 = .ok (.iinc 2 1, 3) := by decide +kernel
theorem ddX3_takenBySeats_77 : decode cX3_takenBySeats 77 = .ok (.goto (-73), 3) := by decide +kernel
theorem ddX3_takenBySeats_80 : decode cX3_takenBySeats 80 = .ok (.iload_n 1, 1) := by decide +kernel
theorem ddX3_takenBySeats_81 : decode cX3_takenBySeats 81 = .ok (.ireturn, 1) := by decide +kernel
def wq_k_X3_takenBySeats : List Cond := Cond.code yX3_takenBySeats cX3_takenBySeats 5 (some .int) :: (([Cond.fieldLink RX3 24 "CrowToll$Keepers" "road" "LCrowToll$Road;", Cond.fieldLink RX3 82 "CrowToll$Road" "posts" "I", Cond.fieldLink RX3 48 "CrowToll$Road" "birds" "I", Cond.fieldLink RX3 15 "CrowToll$Keepers" "way" "[I", Cond.fieldLink RX3 18 "CrowToll$Keepers" "taken" "[I"] : List Cond) ++ wsX30 ++ wsX70)
set_option maxHeartbeats 8000000 in
set_option maxRecDepth 100000 in
theorem k_X3_takenBySeats (l : Launch) (D : va_G) (cy : Nat → ClassId) (ad : Nat → Nat) (g : Nat → va_E) {u0_1 : Value} {u0_2 : Value} {u0_3 : Value} {u0_4 : Value} {u0_5 : Value} {u0_8 : Value} {u1_0 : Value} {u1_1 : Value} {u1_2 : Value} {u1_3 : Value} {u1_4 : Value} {x1_5 : Int32} {u1_6 : Value} {u1_7 : Value} {u1_8 : Value} {u1_9 : Value} {u1_10 : Value} {x1_11 : Int32} {u1_12 : Value} {u1_13 : Value} {u1_14 : Value} {u1_15 : Value} {u1_16 : Value} {u1_17 : Value} {c2 : Nat → Int32} {c3 : Nat → Int32} (o0 : g 0 = .inr (3, [.ref (ad 1), u0_1, u0_2, u0_3, u0_4, u0_5, .ref (ad 2), .ref (ad 3), u0_8])) (o1 : g 1 = .inr (7, [u1_0, u1_1, u1_2, u1_3, u1_4, .int x1_5, u1_6, u1_7, u1_8, u1_9, u1_10, .int x1_11, u1_12, u1_13, u1_14, u1_15, u1_16, u1_17])) (a2 : g 2 = .inl (cy 0, 5, .inl c2)) (a3 : g 3 = .inl (cy 0, 128, .inl c3)) (b1_5 : zi 0 5 x1_5) (b1_11 : zi 0 4 x1_11) : cMi l yX3_takenBySeats wq_k_X3_takenBySeats { frames := 0, cells := 0, slots := 0, locals := 0 } 4 0 0 0 D cy ad g [.ref (ad 0)] (fun r nw lu => lu = []) := by
  refine cM_of (Qc := fun A => cQi (fun r nw lu => lu = []) D 4 0 ad g A) (cc := cX3_takenBySeats) (maxL := 5) (ret := (some .int)) (by decide) rfl (Nat.le_of_ble_eq_true rfl) ?_
  intro p e s m below meth c A hC hr hlk hnm hO ls hl
  have hC : CallFix p m c cX3_takenBySeats 5 s [.ref (ad 0)].toArray wq_k_X3_takenBySeats RX3 := hC
  obtain ⟨hx, hb, hml, hown, hts⟩ := id hC
  have hl : lv_has ls 5 [(0, .ref (ad 0))] := hl
  have i_X3 : ∀ w ∈ wsX30, w ∈ wq_k_X3_takenBySeats := fun w h => List.mem_cons_of_mem _ (List.mem_append_left _ (List.mem_append_right _ h))
  have i_X7 : ∀ w ∈ wsX70, w ∈ wq_k_X3_takenBySeats := fun w h => List.mem_cons_of_mem _ (List.mem_append_right _ h)
  refine lv_iconst (v := 0) hx hb ddX3_takenBySeats_0 (by decide) ?_
  refine lv_istore_n (lv' := [(1, .int 0), (0, .ref (ad 0))]) hx hb ddX3_takenBySeats_1 rfl hl (by decide) rfl (fun ls hl => ?_)
  refine lv_iconst (v := 0) hx hb ddX3_takenBySeats_2 (by decide) ?_
  refine lv_istore_n (lv' := [(2, .int 0), (1, .int 0), (0, .ref (ad 0))]) hx hb ddX3_takenBySeats_3 rfl hl (by decide) rfl (fun ls hl => ?_)
  have loop_4_3601 : ∀ (d_4_3602 : Nat) (v_4_3235 : Int32) (v_4_3237 : Int32), zi 0 4 v_4_3235 → (4 + 1 - v_4_3235.toInt).toNat < d_4_3602 → ∀ (H : Heap) (locs : List Loc), cO D cy A s.heap s 4 ad (cup [] g) H locs → ∀ ls : Array Slot, lv_has ls 5 [(2, .int v_4_3235), (1, .int v_4_3237), (0, .ref (ad 0))] → W p l e { frames := 0, cells := 0, slots := 0, locals := 0 } s m [.ref (ad 0)].toArray below meth c H locs 0 0 (MQ below (cQi (fun r nw lu => lu = []) D 4 0 ad g A) [.ref (ad 0)].toArray s 0 0 A) (F0 m 4 ls [])  := by
    intro d_4_3602
    induction d_4_3602 with
    | zero => intro v_4_3235 v_4_3237 z_4_3236 mu_4_3603; exact absurd mu_4_3603 (Nat.not_lt_zero _)
    | succ d_4_3602 ih_4_3604 =>
      intro v_4_3235 v_4_3237 z_4_3236 mu_4_3603 H locs hO ls hl
      refine lv_iload_n hx hb ddX3_takenBySeats_4 rfl (lv_at hl 0 rfl) ?_
      refine lv_aload_n hx hb ddX3_takenBySeats_5 rfl (lv_at hl 2 rfl) ?_
      refine cg_get hC hO 0 (by decide) o0 rfl i_X3 0 (by decide) (List.mem_of_getElem? (i := 1) rfl) rfl ddX3_takenBySeats_6 ?_
      refine cg_get hC hO 1 (by decide) o1 rfl i_X7 11 (by decide) (List.mem_of_getElem? (i := 2) rfl) rfl ddX3_takenBySeats_9 ?_
      refine lv_icmp_ge (tgt := 80) hx hb ddX3_takenBySeats_12 (by decide) (fun h_12_3605 => ?_) (fun h_12_3605 => ?_)
      · have q_12_3606 := zr_le h_12_3605
        refine lv_iload_n hx hb ddX3_takenBySeats_80 rfl (lv_at hl 1 rfl) ?_
        exact cg_iret (nw := fun _ => 0) hC hr hlk hO.same rfl (Nat.le_of_ble_eq_true rfl) (Nat.le_of_ble_eq_true rfl) rfl ddX3_takenBySeats_81
      · have q_12_3607 := zr_nle h_12_3605
        have z_12_3608 : zi 0 3 v_4_3235 := zu_lt q_12_3607 z_4_3236 b1_11 (by decide)
        have z_12_3609 : zi 1 4 x1_11 := zd_lt q_12_3607 z_4_3236 b1_11 (by decide)
        refine lv_iconst (v := 0) hx hb ddX3_takenBySeats_15 (by decide) ?_
        refine lv_istore_n (lv' := [(3, .int 0), (2, .int v_4_3235), (1, .int v_4_3237), (0, .ref (ad 0))]) hx hb ddX3_takenBySeats_16 rfl hl (by decide) rfl (fun ls hl => ?_)
        refine lv_iconst (v := 0) hx hb ddX3_takenBySeats_17 (by decide) ?_
        refine lv_istore (lv' := [(4, .int 0), (3, .int 0), (2, .int v_4_3235), (1, .int v_4_3237), (0, .ref (ad 0))]) hx hb ddX3_takenBySeats_18 hl (by decide) rfl (fun ls hl => ?_)
        have loop_20_3968 : ∀ (d_20_3969 : Nat) (v_20_3905 : Int32) (v_20_3907 : Int32), zi 0 5 v_20_3905 → zi 0 31 v_20_3907 → (5 + 1 - v_20_3905.toInt).toNat < d_20_3969 → ∀ (H : Heap) (locs : List Loc), cO D cy A s.heap s 4 ad (cup [] g) H locs → ∀ ls : Array Slot, lv_has ls 5 [(4, .int v_20_3905), (3, .int v_20_3907), (2, .int v_4_3235), (1, .int v_4_3237), (0, .ref (ad 0))] → W p l e { frames := 0, cells := 0, slots := 0, locals := 0 } s m [.ref (ad 0)].toArray below meth c H locs 0 0 (MQ below (cQi (fun r nw lu => lu = []) D 4 0 ad g A) [.ref (ad 0)].toArray s 0 0 A) (F0 m 20 ls [])  := by
          intro d_20_3969
          induction d_20_3969 with
          | zero => intro v_20_3905 v_20_3907 z_20_3906 z_20_3908 mu_20_3970; exact absurd mu_20_3970 (Nat.not_lt_zero _)
          | succ d_20_3969 ih_20_3971 =>
            intro v_20_3905 v_20_3907 z_20_3906 z_20_3908 mu_20_3970 H locs hO ls hl
            refine lv_iload hx hb ddX3_takenBySeats_20 (lv_at hl 0 rfl) ?_
            refine lv_aload_n hx hb ddX3_takenBySeats_22 rfl (lv_at hl 4 rfl) ?_
            refine cg_get hC hO 0 (by decide) o0 rfl i_X3 0 (by decide) (List.mem_of_getElem? (i := 1) rfl) rfl ddX3_takenBySeats_23 ?_
            refine cg_get hC hO 1 (by decide) o1 rfl i_X7 5 (by decide) (List.mem_of_getElem? (i := 3) rfl) rfl ddX3_takenBySeats_26 ?_
            refine lv_icmp_ge (tgt := 60) hx hb ddX3_takenBySeats_29 (by decide) (fun h_29_3972 => ?_) (fun h_29_3972 => ?_)
            · have q_29_3996 := zr_le h_29_3972
              refine lv_iload_n hx hb ddX3_takenBySeats_60 rfl (lv_at hl 3 rfl) ?_
              refine lv_aload_n hx hb ddX3_takenBySeats_61 rfl (lv_at hl 4 rfl) ?_
              refine cg_get hC hO 0 (by decide) o0 rfl i_X3 7 (by decide) (List.mem_of_getElem? (i := 5) rfl) rfl ddX3_takenBySeats_62 ?_
              refine lv_iload_n hx hb ddX3_takenBySeats_65 rfl (lv_at hl 2 rfl) ?_
              refine lv_bipush (v := 32) hx hb ddX3_takenBySeats_66 (by decide) ?_
              refine lv_imul hx hb ddX3_takenBySeats_68 ?_
              refine zg_top (P := fun v => zi 0 96 v) ((zi_mul z_12_3608 (zi_k (a := 32) (b := 32) (x := 32) rfl) (by decide)).1) (fun v_68_3997 z_68_3998 => ?_)
              refine lv_iload_n hx hb ddX3_takenBySeats_69 rfl (lv_at hl 1 rfl) ?_
              refine lv_iadd hx hb ddX3_takenBySeats_70 ?_
              refine zg_top2 (P := fun v => zi 0 127 v) (E := fun v => v.toInt = (v_68_3997 : Int32).toInt + (v_20_3907 : Int32).toInt) (zi_add z_68_3998 z_20_3908 (by decide)) (fun v_70_3999 z_70_4000 q_70_4001 => ?_)
              refine zg_iald hC hO 3 (by decide) a3 (za_all _) (zi_in z_70_4000 (by decide)) ddX3_takenBySeats_71 (fun v_71_4002 z_71_4003 => ?_)
              refine lv_iadd hx hb ddX3_takenBySeats_72 ?_
              refine lv_topi (fun v_72_4004 _ => ?_)
              refine lv_istore_n (lv' := [(1, .int v_72_4004), (4, .int v_20_3905), (3, .int v_20_3907), (2, .int v_4_3235), (0, .ref (ad 0))]) hx hb ddX3_takenBySeats_73 rfl hl (by decide) rfl (fun ls hl => ?_)
              obtain ⟨v_74_4005, e_74_4006, z_74_4007, q_74_4008⟩ := zi_inc (e := 1) (f := 4) 1 z_12_3608 (by decide)
              refine lv_iinc (v := v_74_4005) (lv' := [(2, .int v_74_4005), (1, .int v_72_4004), (4, .int v_20_3905), (3, .int v_20_3907), (0, .ref (ad 0))]) hx hb ddX3_takenBySeats_74 hl (k := 3) rfl e_74_4006 (by decide) rfl (fun ls hl => ?_)
              refine lv_goto (tgt := 4) hx hb ddX3_takenBySeats_77 (by decide) ?_
              exact ih_4_3604 v_74_4005 v_72_4004 (zi_w (c := 0) (d := 4) z_74_4007 (by decide)) (zm_up q_74_4008 ((zi_w (c := 0) (d := 4) z_74_4007 (by decide))).2 (by decide) mu_4_3603) _ _ hO ls (lv_sub hl [0, 1, 4] rfl)
            · have q_29_4009 := zr_nle h_29_3972
              have z_29_4010 : zi 0 4 v_20_3905 := zu_lt q_29_4009 z_20_3906 b1_5 (by decide)
              have z_29_4011 : zi 1 5 x1_5 := zd_lt q_29_4009 z_20_3906 b1_5 (by decide)
              refine lv_iload_n hx hb ddX3_takenBySeats_32 rfl (lv_at hl 1 rfl) ?_
              refine lv_aload_n hx hb ddX3_takenBySeats_33 rfl (lv_at hl 4 rfl) ?_
              refine cg_get hC hO 0 (by decide) o0 rfl i_X3 6 (by decide) (List.mem_of_getElem? (i := 4) rfl) rfl ddX3_takenBySeats_34 ?_
              refine lv_iload hx hb ddX3_takenBySeats_37 (lv_at hl 0 rfl) ?_
              refine zg_iald hC hO 2 (by decide) a2 (za_all _) (zi_in z_29_4010 (by decide)) ddX3_takenBySeats_39 (fun v_39_4012 z_39_4013 => ?_)
              refine lv_iload_n hx hb ddX3_takenBySeats_40 rfl (lv_at hl 2 rfl) ?_
              have J_52_4021 : ∀ (v_52_4019 : Int32), zi 0 16 v_52_4019 → ∀ (H : Heap) (locs : List Loc), cO D cy A s.heap s 4 ad (cup [] g) H locs → ∀ ls : Array Slot, lv_has ls 5 [(4, .int v_20_3905), (3, .int v_20_3907), (2, .int v_4_3235), (1, .int v_4_3237), (0, .ref (ad 0))] → W p l e { frames := 0, cells := 0, slots := 0, locals := 0 } s m [.ref (ad 0)].toArray below meth c H locs 0 0 (MQ below (cQi (fun r nw lu => lu = []) D 4 0 ad g A) [.ref (ad 0)].toArray s 0 0 A) (F0 m 52 ls [.int v_52_4019, .int v_20_3907]) := by
                intro v_52_4019 z_52_4020 H locs hO ls hl
                refine lv_ior hx hb ddX3_takenBySeats_52 ?_
                refine zg_top (P := fun v => zi 0 31 v) (zi_or 5 z_20_3908 (zi_w (c := 0) (d := 31) z_52_4020 (by decide)) (by decide)) (fun v_52_4022 z_52_4023 => ?_)
                refine lv_istore_n (lv' := [(3, .int v_52_4022), (4, .int v_20_3905), (2, .int v_4_3235), (1, .int v_4_3237), (0, .ref (ad 0))]) hx hb ddX3_takenBySeats_53 rfl hl (by decide) rfl (fun ls hl => ?_)
                obtain ⟨v_54_4024, e_54_4025, z_54_4026, q_54_4027⟩ := zi_inc (e := 1) (f := 5) 1 z_29_4010 (by decide)
                refine lv_iinc (v := v_54_4024) (lv' := [(4, .int v_54_4024), (3, .int v_52_4022), (2, .int v_4_3235), (1, .int v_4_3237), (0, .ref (ad 0))]) hx hb ddX3_takenBySeats_54 hl (k := 1) rfl e_54_4025 (by decide) rfl (fun ls hl => ?_)
                refine lv_goto (tgt := 20) hx hb ddX3_takenBySeats_57 (by decide) ?_
                exact ih_20_3971 v_54_4024 v_52_4022 (zi_w (c := 0) (d := 5) z_54_4026 (by decide)) z_52_4023 (zm_up q_54_4027 ((zi_w (c := 0) (d := 5) z_54_4026 (by decide))).2 (by decide) mu_20_3970) _ _ hO ls (lv_sub hl [0, 1, 2, 3, 4] rfl)
              refine lv_icmp_ne (tgt := 51) hx hb ddX3_takenBySeats_41 (by decide) (fun h_41_4014 => ?_) (fun h_41_4014 => ?_)
              · refine lv_iconst (v := 0) hx hb ddX3_takenBySeats_51 (by decide) ?_
                exact J_52_4021 0 (zi_k (a := 0) (b := 16) (x := 0) rfl) _ _ hO ls (lv_sub hl [0, 1, 2, 3, 4] rfl)
              · have q_41_4028 := zr_eq h_41_4014
                have z_41_4029 : zi 0 3 v_39_4012 := ze_eq q_41_4028 z_39_4013 z_12_3608
                refine lv_iconst (v := 1) hx hb ddX3_takenBySeats_44 (by decide) ?_
                refine lv_iload hx hb ddX3_takenBySeats_45 (lv_at hl 0 rfl) ?_
                refine lv_ishl hx hb ddX3_takenBySeats_47 ?_
                refine zg_top (P := fun v => zi 1 16 v) (zi_shl4 z_29_4010) (fun v_47_4030 z_47_4031 => ?_)
                refine lv_goto (tgt := 52) hx hb ddX3_takenBySeats_48 (by decide) ?_
                exact J_52_4021 v_47_4030 (zi_w (c := 0) (d := 16) z_47_4031 (by decide)) _ _ hO ls (lv_sub hl [0, 1, 2, 3, 4] rfl)
        exact loop_20_3968 ((5 + 1 - (0 : Int32).toInt).toNat + 1) 0 0 (zi_k (a := 0) (b := 5) (x := 0) rfl) (zi_k (a := 0) (b := 31) (x := 0) rfl) (Nat.lt_succ_self _) _ _ hO ls (lv_sub hl [0, 1, 2, 3, 4] rfl)
  exact loop_4_3601 ((4 + 1 - (0 : Int32).toInt).toNat + 1) 0 0 (zi_k (a := 0) (b := 4) (x := 0) rfl) (Nat.lt_succ_self _) _ _ hO ls (lv_sub hl [0, 1, 2] rfl)

