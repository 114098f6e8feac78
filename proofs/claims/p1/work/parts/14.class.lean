theorem dX11_layThere_0 : decode cX11_layThere 0 = .ok (.aload_n 0, 1) := by decide +kernel
theorem dX11_layThere_1 : decode cX11_layThere 1 = .ok (.iload_n 2, 1) := by decide +kernel
theorem dX11_layThere_2 : decode cX11_layThere 2 = .ok (.aload_n 0, 1) := by decide +kernel
theorem dX11_layThere_3 : decode cX11_layThere 3 = .ok (.getfield 97, 3) := by decide +kernel
theorem dX11_layThere_6 : decode cX11_layThere 6 = .ok (.arraylength, 1) := by decide +kernel
theorem dX11_layThere_7 : decode cX11_layThere 7 = .ok (.aload_n 1, 1) := by decide +kernel
theorem dX11_layThere_8 : decode cX11_layThere 8 = .ok (.arraylength, 1) := by decide +kernel
theorem dX11_layThere_9 : decode cX11_layThere 9 = .ok (.invokestatic 297, 3) := by decide +kernel
theorem dX11_layThere_12 : decode cX11_layThere 12 = .ok (.invokestatic 297, 3) := by decide +kernel
theorem dX11_layThere_15 : decode cX11_layThere 15 = .ok (.putfield 100, 3) := by decide +kernel
theorem dX11_layThere_18 : decode cX11_layThere 18 = .ok (.aload_n 1, 1) := by decide +kernel
theorem dX11_layThere_19 : decode cX11_layThere 19 = .ok (.iconst 0, 1) := by decide +kernel
theorem dX11_layThere_20 : decode cX11_layThere 20 = .ok (.aload_n 0, 1) := by decide +kernel
theorem dX11_layThere_21 : decode cX11_layThere 21 = .ok (.getfield 97, 3) := by decide +kernel
theorem dX11_layThere_24 : decode cX11_layThere 24 = .ok (.iconst 0, 1) := by decide +kernel
theorem dX11_layThere_25 : decode cX11_layThere 25 = .ok (.aload_n 0, 1) := by decide +kernel
theorem dX11_layThere_26 : decode cX11_layThere 26 = .ok (.getfield 100, 3) := by decide +kernel
theorem dX11_layThere_29 : decode cX11_layThere 29 = .ok (.invokestatic 302, 3) := by decide +kernel
theorem dX11_layThere_32 : decode cX11_layThere 32 = .ok (.return_, 1) := by decide +kernel
def wq_c_X11_layThere : List Cond := Cond.code yX11_layThere cX11_layThere 3 none :: (([Cond.fieldLink RX11 97 "CrowToll" "lying" "[I", Cond.methodLink RX11 297 Lib.Math.min.name, Cond.static Lib.Math.min.name, Cond.initialized "java/lang/Math", Cond.code Lib.Math.min.name Lib.Math.min.code 2 (some .int), Cond.fieldLink RX11 100 "CrowToll" "lyingThere" "I", Cond.methodLink RX11 302 arraycopyName, Cond.native arraycopyName, Cond.static arraycopyName, Cond.initialized "java/lang/System"] : List Cond) ++ wsX110)
set_option maxHeartbeats 8000000 in
set_option maxRecDepth 100000 in
theorem c_X11_layThere (l : Launch) (D : va_G) (cy : Nat → ClassId) (ad : Nat → Nat) (g : Nat → va_E) {f0 : List Value} {x : Int32} {c1 : Nat → Int32} {q : Nat} {c2 : Nat → Int32} {n : Nat} (o0 : g 0 = .inr (11, f0)) (f0_12 : f0[12]? = some (.ref (ad 1))) (f0_13 : f0[13]? = some (.int x)) (a1 : g 1 = .inl (cy 0, 24, .inl c1)) (a2 : g 2 = .inl (cy 0, q, .inl c2)) (hq : q ≤ 24) (hn : n ≤ q) : cMv l yX11_layThere wq_c_X11_layThere { frames := 1, cells := 0, slots := 0, locals := 60 } 3 0 0 0 D cy ad g [.ref (ad 0), .ref (ad 2), .int (nI n)] (fun nw lu => ∃ (c1_29_1 : Nat → Int32), lu = [(0, .inr (11, (f0.set 13 (.int (nI n))))), (1, .inl (cy 0, 24, .inl c1_29_1))]) := by
  refine cM_of (Qc := fun A => cQv (fun nw lu => ∃ (c1_29_1 : Nat → Int32), lu = [(0, .inr (11, (f0.set 13 (.int (nI n))))), (1, .inl (cy 0, 24, .inl c1_29_1))]) D 3 0 ad g A) (cc := cX11_layThere) (maxL := 3) (ret := none) (by decide) rfl (Nat.le_of_ble_eq_true rfl) ?_
  intro p e s m below meth c A hC hr hlk hnm hO ls hl
  have hC : CallFix p m c cX11_layThere 3 s [.ref (ad 0), .ref (ad 2), .int (nI n)].toArray wq_c_X11_layThere RX11 := hC
  obtain ⟨hx, hb, hml, hown, hts⟩ := id hC
  have hl : lv_has ls 3 [(0, .ref (ad 0)), (1, .ref (ad 2)), (2, .int (nI n))] := hl
  have i_X11 : ∀ w ∈ wsX110, w ∈ wq_c_X11_layThere := fun w h => List.mem_cons_of_mem _ (List.mem_append_right _ h)
  refine lv_aload_n hx hb dX11_layThere_0 rfl (lv_at hl 0 rfl) ?_
  refine lv_iload_n hx hb dX11_layThere_1 rfl (lv_at hl 2 rfl) ?_
  refine lv_aload_n hx hb dX11_layThere_2 rfl (lv_at hl 0 rfl) ?_
  refine cg_get hC hO 0 (by decide) o0 rfl i_X11 12 (by decide) (List.mem_of_getElem? (i := 1) rfl) f0_12 dX11_layThere_3 ?_
  refine cg_alen hC hO 1 0 (by decide) rfl a1 (v := 24) rfl dX11_layThere_6 ?_
  refine lv_aload_n hx hb dX11_layThere_7 rfl (lv_at hl 1 rfl) ?_
  refine cg_alen hC hO 2 0 (by decide) rfl a2 (v := (nI q)) rfl dX11_layThere_8 ?_
  refine cg_min hC hl.1 (List.mem_of_getElem? (i := 2) rfl) (List.mem_of_getElem? (i := 3) rfl) (List.mem_of_getElem? (i := 4) rfl) (List.mem_of_getElem? (i := 5) rfl) (Nat.le_of_ble_eq_true rfl) (Nat.le_of_ble_eq_true rfl) (Nat.le_of_ble_eq_true rfl) (Nat.le_of_ble_eq_true rfl) dX11_layThere_9 ?_
  refine cg_ev (v := (nI q)) (cmin (a := 24) (b := q) (by omega) (by omega) (Or.inl ⟨rfl, by omega⟩)) ?_
  refine cg_min hC hl.1 (List.mem_of_getElem? (i := 2) rfl) (List.mem_of_getElem? (i := 3) rfl) (List.mem_of_getElem? (i := 4) rfl) (List.mem_of_getElem? (i := 5) rfl) (Nat.le_of_ble_eq_true rfl) (Nat.le_of_ble_eq_true rfl) (Nat.le_of_ble_eq_true rfl) (Nat.le_of_ble_eq_true rfl) dX11_layThere_12 ?_
  refine cg_ev (v := (nI n)) (cmin (a := n) (b := q) (by omega) (by omega) (Or.inr ⟨rfl, by omega⟩)) ?_
  refine cg_put hC hO 0 (by decide) o0 rfl i_X11 tyX11_ok nmX11 13 (by decide) (List.mem_of_getElem? (i := 6) rfl) rfl rfl rfl (fs_lt f0_13) dX11_layThere_15 (fun H locs hO => ?_)
  have hO : cO D cy A s.heap s 3 ad (cup [(0, .inr (11, (f0.set 13 (.int (nI n)))))] g) _ _ := hO
  refine lv_aload_n hx hb dX11_layThere_18 rfl (lv_at hl 1 rfl) ?_
  refine lv_iconst (v := 0) hx hb dX11_layThere_19 (by decide) ?_
  refine lv_aload_n hx hb dX11_layThere_20 rfl (lv_at hl 0 rfl) ?_
  refine cg_get hC hO 0 (by decide) rfl rfl i_X11 12 (by decide) (List.mem_of_getElem? (i := 1) rfl) (fs_ne (by decide) f0_12) dX11_layThere_21 ?_
  refine lv_iconst (v := 0) hx hb dX11_layThere_24 (by decide) ?_
  refine lv_aload_n hx hb dX11_layThere_25 rfl (lv_at hl 0 rfl) ?_
  refine cg_get hC hO 0 (by decide) rfl rfl i_X11 13 (by decide) (List.mem_of_getElem? (i := 6) rfl) (fs_eq f0_13) dX11_layThere_26 ?_
  refine cg_copy hC hl.1 hO (List.mem_of_getElem? (i := 7) rfl) (List.mem_of_getElem? (i := 8) rfl) (List.mem_of_getElem? (i := 9) rfl) (List.mem_of_getElem? (i := 10) rfl) 2 1 (by decide) (by decide) a2 a1 (by decide) (by decide) (nI_pos (by omega)) (by rw [nI_clamp (by omega)]; show 0 + n ≤ q; omega) (by rw [nI_clamp (by omega)]; show 0 + n ≤ 24; omega) (Nat.le_of_ble_eq_true rfl) (Nat.le_of_ble_eq_true rfl) dX11_layThere_29 (fun H locs hO => ?_)
  have hO : cO D cy A s.heap s 3 ad (cup [(0, .inr (11, (f0.set 13 (.int (nI n))))), (1, .inl (cy 0, 24, .inl (va_cpy c2 c1 (0 : Int32).toNatClampNeg (0 : Int32).toNatClampNeg (nI n).toNatClampNeg)))] g) _ _ := hO
  obtain ⟨c1_29_1, ec1_29_1⟩ : ∃ z, z = (va_cpy c2 c1 (0 : Int32).toNatClampNeg (0 : Int32).toNatClampNeg (nI n).toNatClampNeg) := ⟨_, rfl⟩
  rw [← ec1_29_1] at hO
  have hO : cO D cy A s.heap s 3 ad (cup [(0, .inr (11, (f0.set 13 (.int (nI n))))), (1, .inl (cy 0, 24, .inl c1_29_1))] g) _ _ := hO
  exact cg_vret (nw := fun _ => 0) hC hr hlk hO.same (Nat.le_of_ble_eq_true rfl) (Nat.le_of_ble_eq_true rfl) (⟨c1_29_1, rfl⟩) dX11_layThere_32

theorem dX2_putInOrder_0 : decode cX2_putInOrder 0 = .ok (.aload_n 0, 1) := by decide +kernel
theorem dX2_putInOrder_1 : decode cX2_putInOrder 1 = .ok (.aload_n 0, 1) := by decide +kernel
theorem dX2_putInOrder_2 : decode cX2_putInOrder 2 = .ok (.getfield 31, 3) := by decide +kernel
theorem dX2_putInOrder_5 : decode cX2_putInOrder 5 = .ok (.aload_n 0, 1) := by decide +kernel
theorem dX2_putInOrder_6 : decode cX2_putInOrder 6 = .ok (.getfield 9, 3) := by decide +kernel
theorem dX2_putInOrder_9 : decode cX2_putInOrder 9 = .ok (.invokevirtual 65, 3) := by decide +kernel
theorem dX2_putInOrder_12 : decode cX2_putInOrder 12 = .ok (.putfield 71, 3) := by decide +kernel
theorem dX2_putInOrder_15 : decode cX2_putInOrder 15 = .ok (.aload_n 0, 1) := by decide +kernel
theorem dX2_putInOrder_16 : decode cX2_putInOrder 16 = .ok (.getfield 9, 3) := by decide +kernel
theorem dX2_putInOrder_19 : decode cX2_putInOrder 19 = .ok (.aload_n 0, 1) := by decide +kernel
theorem dX2_putInOrder_20 : decode cX2_putInOrder 20 = .ok (.getfield 71, 3) := by decide +kernel
theorem dX2_putInOrder_23 : decode cX2_putInOrder 23 = .ok (.aload_n 0, 1) := by decide +kernel
theorem dX2_putInOrder_24 : decode cX2_putInOrder 24 = .ok (.getfield 31, 3) := by decide +kernel
theorem dX2_putInOrder_27 : decode cX2_putInOrder 27 = .ok (.getfield 74, 3) := by decide +kernel
theorem dX2_putInOrder_30 : decode cX2_putInOrder 30 = .ok (.invokestatic 77, 3) := by decide +kernel
theorem dX2_putInOrder_33 : decode cX2_putInOrder 33 = .ok (.aload_n 0, 1) := by decide +kernel
theorem dX2_putInOrder_34 : decode cX2_putInOrder 34 = .ok (.getfield 44, 3) := by decide +kernel
theorem dX2_putInOrder_37 : decode cX2_putInOrder 37 = .ok (.aload_n 0, 1) := by decide +kernel
theorem dX2_putInOrder_38 : decode cX2_putInOrder 38 = .ok (.getfield 31, 3) := by decide +kernel
theorem dX2_putInOrder_41 : decode cX2_putInOrder 41 = .ok (.getfield 81, 3) := by decide +kernel
theorem dX2_putInOrder_44 : decode cX2_putInOrder 44 = .ok (.invokevirtual 84, 3) := by decide +kernel
theorem dX2_putInOrder_47 : decode cX2_putInOrder 47 = .ok (.return_, 1) := by decide +kernel
def wq_c_X2_putInOrder : List Cond := Cond.code yX2_putInOrder cX2_putInOrder 1 none :: (([Cond.fieldLink RX2 31 "CrowToll$Drivers" "stand" "LCrowToll$Stand;", Cond.fieldLink RX2 9 "CrowToll$Drivers" "order" "[I", Cond.methodLink RX2 65 yX9_coming, Cond.instanceMethod yX9_coming, Cond.selects RX9 yX9_coming yX9_coming, Cond.initialized RX9, Cond.code yX9_coming cX9_coming 4 (some .int), Cond.fieldLink RX9 21 "CrowToll$Stand" "carts" "I", Cond.fieldLink RX2 71 "CrowToll$Drivers" "going" "I", Cond.fieldLink RX2 74 "CrowToll$Stand" "minute" "[I", Cond.code yX11_putByMinutes cX11_putByMinutes 6 none, Cond.static yX11_putByMinutes, Cond.initialized RX11, Cond.fieldLink RX2 44 "CrowToll$Drivers" "watch" "LCrowToll$Watch;", Cond.fieldLink RX2 81 "CrowToll$Stand" "counts" "[I", Cond.methodLink RX2 84 yX10_sit, Cond.instanceMethod yX10_sit, Cond.selects RX10 yX10_sit yX10_sit, Cond.initialized RX10, Cond.code yX10_sit cX10_sit 2 none, Cond.fieldLink RX10 9 "CrowToll$Watch" "limit" "[I", Cond.methodLink RX10 37 arraycopyName, Cond.native arraycopyName, Cond.static arraycopyName, Cond.initialized "java/lang/System", Cond.fieldLink RX10 33 "CrowToll$Watch" "road" "LCrowToll$Road;", Cond.fieldLink RX10 43 "CrowToll$Road" "seat" "[I", Cond.fieldLink RX10 15 "CrowToll$Watch" "seat" "[I", Cond.fieldLink RX10 46 "CrowToll$Road" "seated" "[I", Cond.fieldLink RX10 18 "CrowToll$Watch" "seated" "[I", Cond.methodLink RX10 47 yX10_begin, Cond.instanceMethod yX10_begin, Cond.selects RX10 yX10_begin yX10_begin, Cond.code yX10_begin cX10_begin 1 none, Cond.fieldLink RX10 21 "CrowToll$Watch" "count" "[I", Cond.methodLink RX10 54 yJ7_fill_53178, Cond.static yJ7_fill_53178, Cond.initialized RJ7, Cond.code yJ7_fill_53178 cJ7_fill_53178 4 none, Cond.fieldLink RX10 24 "CrowToll$Watch" "total" "[I", Cond.fieldLink RX10 27 "CrowToll$Watch" "lookedAt" "[I", Cond.fieldLink RX10 30 "CrowToll$Watch" "countedAt" "[I"] : List Cond) ++ wsX20 ++ wsX70 ++ wsX90 ++ wsX100)
set_option maxRecDepth 20000 in
theorem gr_c_X2_putInOrder_c_coming0 : GoodIn wq_c_X2_putInOrder wq_c_coming0 := List.forall_mem_cons.mpr ⟨⟨(List.mem_of_getElem? (i := 7) rfl), good_of_word rfl⟩, List.forall_mem_append.mpr ⟨List.forall_mem_cons.mpr ⟨⟨(List.mem_of_getElem? (i := 8) rfl), good_of_word rfl⟩, (fun _ h => absurd h List.not_mem_nil)⟩, fun w h => ⟨(fun w h => List.mem_cons_of_mem _ (List.mem_append_left _ (List.mem_append_right _ h))) w h, good_of_word (List.all_eq_true.mp gw_X9 w h)⟩⟩⟩
set_option maxRecDepth 20000 in
theorem gq_c_X2_putInOrder_c_coming0_65 : GoodIn wq_c_X2_putInOrder (wsV RX2 65 RX9 yX9_coming wq_c_coming0) := goodIn_app (List.forall_mem_cons.mpr ⟨⟨(List.mem_of_getElem? (i := 3) rfl), good_of_word rfl⟩, List.forall_mem_cons.mpr ⟨⟨(List.mem_of_getElem? (i := 4) rfl), good_of_word rfl⟩, List.forall_mem_cons.mpr ⟨⟨(List.mem_of_getElem? (i := 5) rfl), good_of_word rfl⟩, List.forall_mem_cons.mpr ⟨⟨(List.mem_of_getElem? (i := 6) rfl), good_of_word rfl⟩, (fun _ h => absurd h List.not_mem_nil)⟩⟩⟩⟩) gr_c_X2_putInOrder_c_coming0
set_option maxRecDepth 20000 in
theorem gr_c_X2_putInOrder_c_pbm0 : GoodIn wq_c_X2_putInOrder wq_c_pbm0 := List.forall_mem_cons.mpr ⟨⟨(List.mem_of_getElem? (i := 11) rfl), good_of_word rfl⟩, (fun _ h => absurd h List.not_mem_nil)⟩
theorem gq_c_X2_putInOrder_c_pbm0 : GoodIn wq_c_X2_putInOrder wq_c_pbm0 := gr_c_X2_putInOrder_c_pbm0
set_option maxRecDepth 20000 in
theorem gr_c_X2_putInOrder_c_X10_sit : GoodIn wq_c_X2_putInOrder wq_c_X10_sit := List.forall_mem_cons.mpr ⟨⟨(List.mem_of_getElem? (i := 20) rfl), good_of_word rfl⟩, List.forall_mem_append.mpr ⟨List.forall_mem_append.mpr ⟨List.forall_mem_cons.mpr ⟨⟨(List.mem_of_getElem? (i := 21) rfl), good_of_word rfl⟩, List.forall_mem_cons.mpr ⟨⟨(List.mem_of_getElem? (i := 22) rfl), good_of_word rfl⟩, List.forall_mem_cons.mpr ⟨⟨(List.mem_of_getElem? (i := 23) rfl), good_of_word rfl⟩, List.forall_mem_cons.mpr ⟨⟨(List.mem_of_getElem? (i := 24) rfl), good_of_word rfl⟩, List.forall_mem_cons.mpr ⟨⟨(List.mem_of_getElem? (i := 25) rfl), good_of_word rfl⟩, List.forall_mem_cons.mpr ⟨⟨(List.mem_of_getElem? (i := 26) rfl), good_of_word rfl⟩, List.forall_mem_cons.mpr ⟨⟨(List.mem_of_getElem? (i := 27) rfl), good_of_word rfl⟩, List.forall_mem_cons.mpr ⟨⟨(List.mem_of_getElem? (i := 28) rfl), good_of_word rfl⟩, List.forall_mem_cons.mpr ⟨⟨(List.mem_of_getElem? (i := 29) rfl), good_of_word rfl⟩, List.forall_mem_cons.mpr ⟨⟨(List.mem_of_getElem? (i := 30) rfl), good_of_word rfl⟩, List.forall_mem_cons.mpr ⟨⟨(List.mem_of_getElem? (i := 31) rfl), good_of_word rfl⟩, List.forall_mem_cons.mpr ⟨⟨(List.mem_of_getElem? (i := 32) rfl), good_of_word rfl⟩, List.forall_mem_cons.mpr ⟨⟨(List.mem_of_getElem? (i := 33) rfl), good_of_word rfl⟩, List.forall_mem_cons.mpr ⟨⟨(List.mem_of_getElem? (i := 19) rfl), good_of_word rfl⟩, List.forall_mem_cons.mpr ⟨⟨(List.mem_of_getElem? (i := 34) rfl), good_of_word rfl⟩, List.forall_mem_cons.mpr ⟨⟨(List.mem_of_getElem? (i := 35) rfl), good_of_word rfl⟩, List.forall_mem_cons.mpr ⟨⟨(List.mem_of_getElem? (i := 36) rfl), good_of_word rfl⟩, List.forall_mem_cons.mpr ⟨⟨(List.mem_of_getElem? (i := 37) rfl), good_of_word rfl⟩, List.forall_mem_cons.mpr ⟨⟨(List.mem_of_getElem? (i := 38) rfl), good_of_word rfl⟩, List.forall_mem_cons.mpr ⟨⟨(List.mem_of_getElem? (i := 39) rfl), good_of_word rfl⟩, List.forall_mem_cons.mpr ⟨⟨(List.mem_of_getElem? (i := 40) rfl), good_of_word rfl⟩, List.forall_mem_cons.mpr ⟨⟨(List.mem_of_getElem? (i := 41) rfl), good_of_word rfl⟩, List.forall_mem_cons.mpr ⟨⟨(List.mem_of_getElem? (i := 42) rfl), good_of_word rfl⟩, (fun _ h => absurd h List.not_mem_nil)⟩⟩⟩⟩⟩⟩⟩⟩⟩⟩⟩⟩⟩⟩⟩⟩⟩⟩⟩⟩⟩⟩⟩, fun w h => ⟨(fun w h => List.mem_cons_of_mem _ (List.mem_append_left _ (List.mem_append_left _ (List.mem_append_right _ h)))) w h, good_of_word (List.all_eq_true.mp gw_X7 w h)⟩⟩, fun w h => ⟨(fun w h => List.mem_cons_of_mem _ (List.mem_append_right _ h)) w h, good_of_word (List.all_eq_true.mp gw_X10 w h)⟩⟩⟩
set_option maxRecDepth 20000 in
theorem gq_c_X2_putInOrder_c_X10_sit_84 : GoodIn wq_c_X2_putInOrder (wsV RX2 84 RX10 yX10_sit wq_c_X10_sit) := goodIn_app (List.forall_mem_cons.mpr ⟨⟨(List.mem_of_getElem? (i := 16) rfl), good_of_word rfl⟩, List.forall_mem_cons.mpr ⟨⟨(List.mem_of_getElem? (i := 17) rfl), good_of_word rfl⟩, List.forall_mem_cons.mpr ⟨⟨(List.mem_of_getElem? (i := 18) rfl), good_of_word rfl⟩, List.forall_mem_cons.mpr ⟨⟨(List.mem_of_getElem? (i := 19) rfl), good_of_word rfl⟩, (fun _ h => absurd h List.not_mem_nil)⟩⟩⟩⟩) gr_c_X2_putInOrder_c_X10_sit
set_option maxHeartbeats 8000000 in
set_option maxRecDepth 100000 in
theorem c_X2_putInOrder (l : Launch) (D : va_G) (cy : Nat → ClassId) (ad : Nat → Nat) (g : Nat → va_E) {f0 : List Value} {f1 : List Value} {c2 : Nat → Int32} {c3 : Nat → Int32} {f4 : List Value} {f5 : List Value} {c6 : Nat → Int32} {c7 : Nat → Int32} {c8 : Nat → Int32} {c9 : Nat → Int32} {c10 : Nat → Int32} {c11 : Nat → Int32} {c12 : Nat → Int32} {c13 : Nat → Int32} {c14 : Nat → Int32} {c15 : Nat → Int32} (o0 : g 0 = .inr (2, f0)) (f0_1 : f0[1]? = some (.ref (ad 1))) (f0_3 : f0[3]? = some (.ref (ad 4))) (f0_4 : f0[4]? = some (.ref (ad 2))) (f0_5 : f0[5]? = some (.int 0)) (o1 : g 1 = .inr (9, f1)) (f1_0 : f1[0]? = some (.ref (ad 3))) (f1_3 : f1[3]? = some (.ref (ad 15))) (f1_4 : f1[4]? = some (.int 0)) (a2 : g 2 = .inl (cy 0, 24, .inl c2)) (a3 : g 3 = .inl (cy 0, 24, .inl c3)) (o4 : g 4 = .inr (10, f4)) (f4_0 : f4[0]? = some (.ref (ad 5))) (f4_1 : f4[1]? = some (.ref (ad 8))) (f4_2 : f4[2]? = some (.ref (ad 9))) (f4_3 : f4[3]? = some (.ref (ad 10))) (f4_4 : f4[4]? = some (.ref (ad 11))) (f4_5 : f4[5]? = some (.ref (ad 12))) (f4_6 : f4[6]? = some (.ref (ad 13))) (f4_7 : f4[7]? = some (.ref (ad 14))) (o5 : g 5 = .inr (7, f5)) (f5_9 : f5[9]? = some (.ref (ad 6))) (f5_10 : f5[10]? = some (.ref (ad 7))) (a6 : g 6 = .inl (cy 0, 20, .inl c6)) (a7 : g 7 = .inl (cy 0, 4, .inl c7)) (a8 : g 8 = .inl (cy 0, 5, .inl c8)) (a9 : g 9 = .inl (cy 0, 20, .inl c9)) (a10 : g 10 = .inl (cy 0, 4, .inl c10)) (a11 : g 11 = .inl (cy 0, 5, .inl c11)) (a12 : g 12 = .inl (cy 0, 5, .inl c12)) (a13 : g 13 = .inl (cy 0, 5, .inl c13)) (a14 : g 14 = .inl (cy 0, 5, .inl c14)) (a15 : g 15 = .inl (cy 0, 5, .inl c15)) : cMv l yX2_putInOrder wq_c_X2_putInOrder { frames := 3, cells := 0, slots := 0, locals := 81 } 16 0 0 0 D cy ad g [.ref (ad 0)] (fun nw lu => ∃ (c2_44_10 : Nat → Int32) (c5_44_11 : Nat → Int32) (c7_44_12 : Nat → Int32) (cz_44_13 : Nat → Int32) (cz_44_14 : Nat → Int32) (cz_44_15 : Nat → Int32) (cz_44_16 : Nat → Int32), lu = [(0, .inr (2, (f0.set 5 (.int 0)))), (11, .inl (cy 0, 5, .inl cz_44_13)), (12, .inl (cy 0, 5, .inl cz_44_14)), (13, .inl (cy 0, 5, .inl cz_44_15)), (14, .inl (cy 0, 5, .inl cz_44_16)), (10, .inl (cy 0, 4, .inl c7_44_12)), (9, .inl (cy 0, 20, .inl c5_44_11)), (8, .inl (cy 0, 5, .inl c2_44_10))]) := by
  refine cM_of (Qc := fun A => cQv (fun nw lu => ∃ (c2_44_10 : Nat → Int32) (c5_44_11 : Nat → Int32) (c7_44_12 : Nat → Int32) (cz_44_13 : Nat → Int32) (cz_44_14 : Nat → Int32) (cz_44_15 : Nat → Int32) (cz_44_16 : Nat → Int32), lu = [(0, .inr (2, (f0.set 5 (.int 0)))), (11, .inl (cy 0, 5, .inl cz_44_13)), (12, .inl (cy 0, 5, .inl cz_44_14)), (13, .inl (cy 0, 5, .inl cz_44_15)), (14, .inl (cy 0, 5, .inl cz_44_16)), (10, .inl (cy 0, 4, .inl c7_44_12)), (9, .inl (cy 0, 20, .inl c5_44_11)), (8, .inl (cy 0, 5, .inl c2_44_10))]) D 16 0 ad g A) (cc := cX2_putInOrder) (maxL := 1) (ret := none) (by decide) rfl (Nat.le_of_ble_eq_true rfl) ?_
  intro p e s m below meth c A hC hr hlk hnm hO ls hl
  have hC : CallFix p m c cX2_putInOrder 1 s [.ref (ad 0)].toArray wq_c_X2_putInOrder RX2 := hC
  obtain ⟨hx, hb, hml, hown, hts⟩ := id hC
  have hl : lv_has ls 1 [(0, .ref (ad 0))] := hl
  have i_X10 : ∀ w ∈ wsX100, w ∈ wq_c_X2_putInOrder := fun w h => List.mem_cons_of_mem _ (List.mem_append_right _ h)
  have i_X2 : ∀ w ∈ wsX20, w ∈ wq_c_X2_putInOrder := fun w h => List.mem_cons_of_mem _ (List.mem_append_left _ (List.mem_append_left _ (List.mem_append_left _ (List.mem_append_right _ h))))
  have i_X7 : ∀ w ∈ wsX70, w ∈ wq_c_X2_putInOrder := fun w h => List.mem_cons_of_mem _ (List.mem_append_left _ (List.mem_append_left _ (List.mem_append_right _ h)))
  have i_X9 : ∀ w ∈ wsX90, w ∈ wq_c_X2_putInOrder := fun w h => List.mem_cons_of_mem _ (List.mem_append_left _ (List.mem_append_right _ h))
  refine lv_aload_n hx hb dX2_putInOrder_0 rfl (lv_at hl 0 rfl) ?_
  refine lv_aload_n hx hb dX2_putInOrder_1 rfl (lv_at hl 0 rfl) ?_
  refine cg_get hC hO 0 (by decide) o0 rfl i_X2 1 (by decide) (List.mem_of_getElem? (i := 1) rfl) f0_1 dX2_putInOrder_2 ?_
  refine lv_aload_n hx hb dX2_putInOrder_5 rfl (lv_at hl 0 rfl) ?_
  refine cg_get hC hO 0 (by decide) o0 rfl i_X2 4 (by decide) (List.mem_of_getElem? (i := 2) rfl) f0_4 dX2_putInOrder_6 ?_
  refine cg_Vi (As := [.ref (ad 2)]) (rest := [.ref (ad 0)]) (mc := 0) (ms := 0) (rm := { frames := 0, cells := 0, slots := 0, locals := 0 }) hC hl.1 hO [1, 2] rfl (c_coming0 l D cy _ _ (f0 := f1) (c1 := c2) o1 f1_4 a2) gq_c_X2_putInOrder_c_coming0_65 rfl rfl rfl 1 (by decide +kernel) ⟨Nat.le_of_ble_eq_true rfl, Nat.le_of_ble_eq_true rfl⟩ rfl (by decide) o1 rfl rfl (Nat.le_of_ble_eq_true rfl) dX2_putInOrder_9 ⟨Nat.le_of_ble_eq_true rfl, Nat.le_of_ble_eq_true rfl⟩ (fun r_9_3 nw_9_1 l_9_2 H locs hw hO => ?_)
  obtain ⟨rfl, rfl⟩ := hw
  have hO : cO D cy A s.heap s 16 ad (cup [] g) _ _ := hO
  refine cg_put hC hO 0 (by decide) o0 rfl i_X2 tyX2_ok nmX2 5 (by decide) (List.mem_of_getElem? (i := 9) rfl) rfl rfl rfl (fs_lt f0_5) dX2_putInOrder_12 (fun H locs hO => ?_)
  have hO : cO D cy A s.heap s 16 ad (cup [(0, .inr (2, (f0.set 5 (.int 0))))] g) _ _ := hO
  refine lv_aload_n hx hb dX2_putInOrder_15 rfl (lv_at hl 0 rfl) ?_
  refine cg_get hC hO 0 (by decide) rfl rfl i_X2 4 (by decide) (List.mem_of_getElem? (i := 2) rfl) (fs_ne (by decide) f0_4) dX2_putInOrder_16 ?_
  refine lv_aload_n hx hb dX2_putInOrder_19 rfl (lv_at hl 0 rfl) ?_
  refine cg_get hC hO 0 (by decide) rfl rfl i_X2 5 (by decide) (List.mem_of_getElem? (i := 9) rfl) (fs_eq f0_5) dX2_putInOrder_20 ?_
  refine lv_aload_n hx hb dX2_putInOrder_23 rfl (lv_at hl 0 rfl) ?_
  refine cg_get hC hO 0 (by decide) rfl rfl i_X2 1 (by decide) (List.mem_of_getElem? (i := 1) rfl) (fs_ne (by decide) f0_1) dX2_putInOrder_24 ?_
  refine cg_get hC hO 1 (by decide) o1 rfl i_X9 0 (by decide) (List.mem_of_getElem? (i := 10) rfl) f1_0 dX2_putInOrder_27 ?_
  refine cg_Nv (As := [.ref (ad 2), .int 0, .ref (ad 3)]) (rest := []) (mc := 0) (ms := 0) (rm := { frames := 0, cells := 0, slots := 0, locals := 0 }) hC hl.1 hO [2, 3] rfl (c_pbm0 l D cy _ _ (n0 := 24) (c0 := c2) (n1 := 24) (c1 := c3) a2 a3) gq_c_X2_putInOrder_c_pbm0 rfl rfl rfl (host := "CrowToll") (nestL_mem_9) (List.mem_of_getElem? (i := 12) rfl) (List.mem_of_getElem? (i := 13) rfl) 3 (by decide +kernel) ⟨Nat.le_of_ble_eq_true rfl, Nat.le_of_ble_eq_true rfl⟩ rfl rfl (Nat.le_of_ble_eq_true rfl) dX2_putInOrder_30 ⟨Nat.le_of_ble_eq_true rfl, Nat.le_of_ble_eq_true rfl⟩ (fun nw_30_4 l_30_5 H locs hw hO => ?_)
  obtain rfl := hw
  have hO : cO D cy A s.heap s 16 ad (cup [(0, .inr (2, (f0.set 5 (.int 0))))] g) _ _ := hO
  refine lv_aload_n hx hb dX2_putInOrder_33 rfl (lv_at hl 0 rfl) ?_
  refine cg_get hC hO 0 (by decide) rfl rfl i_X2 3 (by decide) (List.mem_of_getElem? (i := 14) rfl) (fs_ne (by decide) f0_3) dX2_putInOrder_34 ?_
  refine lv_aload_n hx hb dX2_putInOrder_37 rfl (lv_at hl 0 rfl) ?_
  refine cg_get hC hO 0 (by decide) rfl rfl i_X2 1 (by decide) (List.mem_of_getElem? (i := 1) rfl) (fs_ne (by decide) f0_1) dX2_putInOrder_38 ?_
  refine cg_get hC hO 1 (by decide) o1 rfl i_X9 3 (by decide) (List.mem_of_getElem? (i := 15) rfl) f1_3 dX2_putInOrder_41 ?_
  refine cg_Vv (As := [.ref (ad 15)]) (rest := []) (mc := 0) (ms := 0) (rm := { frames := 2, cells := 0, slots := 0, locals := 60 }) hC hl.1 hO [4, 15, 8, 5, 6, 9, 7, 10, 11, 12, 13, 14] rfl (c_X10_sit l D cy _ _ (f0 := f4) (f3 := f5) (c4 := c6) (c6 := c7) (c2 := c8) (c5 := c9) (c7 := c10) (c8 := c11) (c9 := c12) (c10 := c13) (c11 := c14) (c1 := c15) o4 f4_0 f4_1 f4_2 f4_3 f4_4 f4_5 f4_6 f4_7 a15 a8 o5 f5_9 f5_10 a6 a9 a7 a10 a11 a12 a13 a14) gq_c_X2_putInOrder_c_X10_sit_84 rfl rfl rfl 1 (by decide +kernel) ⟨Nat.le_of_ble_eq_true rfl, Nat.le_of_ble_eq_true rfl⟩ rfl (by decide) o4 rfl rfl (Nat.le_of_ble_eq_true rfl) dX2_putInOrder_44 ⟨Nat.le_of_ble_eq_true rfl, Nat.le_of_ble_eq_true rfl⟩ (fun nw_44_7 l_44_8 H locs hw hO => ?_)
  obtain ⟨c2_44_10, c5_44_11, c7_44_12, cz_44_13, cz_44_14, cz_44_15, cz_44_16, rfl⟩ := hw
  have hO : cO D cy A s.heap s 16 ad (cup [(0, .inr (2, (f0.set 5 (.int 0)))), (11, .inl (cy 0, 5, .inl cz_44_13)), (12, .inl (cy 0, 5, .inl cz_44_14)), (13, .inl (cy 0, 5, .inl cz_44_15)), (14, .inl (cy 0, 5, .inl cz_44_16)), (10, .inl (cy 0, 4, .inl c7_44_12)), (9, .inl (cy 0, 20, .inl c5_44_11)), (8, .inl (cy 0, 5, .inl c2_44_10))] g) _ _ := hO
  exact cg_vret (nw := fun _ => 0) hC hr hlk hO.same (Nat.le_of_ble_eq_true rfl) (Nat.le_of_ble_eq_true rfl) (⟨c2_44_10, c5_44_11, c7_44_12, cz_44_13, cz_44_14, cz_44_15, cz_44_16, rfl⟩) dX2_putInOrder_47

theorem dX2_payOfOneMore_0 : decode cX2_payOfOneMore 0 = .ok (.aload_n 0, 1) := by decide +kernel
theorem dX2_payOfOneMore_1 : decode cX2_payOfOneMore 1 = .ok (.getfield 44, 3) := by decide +kernel
theorem dX2_payOfOneMore_4 : decode cX2_payOfOneMore 4 = .ok (.invokevirtual 88, 3) := by decide +kernel
theorem dX2_payOfOneMore_7 : decode cX2_payOfOneMore 7 = .ok (.iconst 0, 1) := by decide +kernel
theorem dX2_payOfOneMore_8 : decode cX2_payOfOneMore 8 = .ok (.istore_n 3, 1) := by decide +kernel
theorem dX2_payOfOneMore_9 : decode cX2_payOfOneMore 9 = .ok (.iconst 0, 1) := by decide +kernel
theorem dX2_payOfOneMore_10 : decode cX2_payOfOneMore 10 = .ok (.istore 4, 2) := by decide +kernel
theorem dX2_payOfOneMore_12 : decode cX2_payOfOneMore 12 = .ok (.iload 4, 2) := by decide +kernel
theorem dX2_payOfOneMore_14 : decode cX2_payOfOneMore 14 = .ok (.aload_n 0, 1) := by decide +kernel
theorem dX2_payOfOneMore_15 : decode cX2_payOfOneMore 15 = .ok (.getfield 27, 3) := by decide +kernel
theorem dX2_payOfOneMore_18 : decode cX2_payOfOneMore 18 = .ok (.getfield 91, 3) := by decide +kernel
theorem dX2_payOfOneMore_21 : decode cX2_payOfOneMore 21 = .ok (.if_icmp .ge 134, 3) := by decide +kernel
theorem dX2_payOfOneMore_155 : decode cX2_payOfOneMore 155 = .ok (.iload_n 3, 1) := by decide +kernel
theorem dX2_payOfOneMore_156 : decode cX2_payOfOneMore 156 = .ok (.ireturn, 1) := by decide +kernel
def wq_c_X2_payOfOneMore : List Cond := Cond.code yX2_payOfOneMore cX2_payOfOneMore 6 (some .int) :: (([Cond.fieldLink RX2 44 "CrowToll$Drivers" "watch" "LCrowToll$Watch;", Cond.methodLink RX2 88 yX10_begin, Cond.instanceMethod yX10_begin, Cond.selects RX10 yX10_begin yX10_begin, Cond.initialized RX10, Cond.code yX10_begin cX10_begin 1 none, Cond.fieldLink RX10 21 "CrowToll$Watch" "count" "[I", Cond.methodLink RX10 54 yJ7_fill_53178, Cond.static yJ7_fill_53178, Cond.initialized RJ7, Cond.code yJ7_fill_53178 cJ7_fill_53178 4 none, Cond.fieldLink RX10 24 "CrowToll$Watch" "total" "[I", Cond.fieldLink RX10 27 "CrowToll$Watch" "lookedAt" "[I", Cond.fieldLink RX10 30 "CrowToll$Watch" "countedAt" "[I", Cond.fieldLink RX2 27 "CrowToll$Drivers" "road" "LCrowToll$Road;", Cond.fieldLink RX2 91 "CrowToll$Road" "posts" "I"] : List Cond) ++ wsX20 ++ wsX70 ++ wsX100)
set_option maxRecDepth 20000 in
theorem gr_c_X2_payOfOneMore_c_X10_begin : GoodIn wq_c_X2_payOfOneMore wq_c_X10_begin := List.forall_mem_cons.mpr ⟨⟨(List.mem_of_getElem? (i := 6) rfl), good_of_word rfl⟩, List.forall_mem_append.mpr ⟨List.forall_mem_cons.mpr ⟨⟨(List.mem_of_getElem? (i := 7) rfl), good_of_word rfl⟩, List.forall_mem_cons.mpr ⟨⟨(List.mem_of_getElem? (i := 8) rfl), good_of_word rfl⟩, List.forall_mem_cons.mpr ⟨⟨(List.mem_of_getElem? (i := 9) rfl), good_of_word rfl⟩, List.forall_mem_cons.mpr ⟨⟨(List.mem_of_getElem? (i := 10) rfl), good_of_word rfl⟩, List.forall_mem_cons.mpr ⟨⟨(List.mem_of_getElem? (i := 11) rfl), good_of_word rfl⟩, List.forall_mem_cons.mpr ⟨⟨(List.mem_of_getElem? (i := 12) rfl), good_of_word rfl⟩, List.forall_mem_cons.mpr ⟨⟨(List.mem_of_getElem? (i := 13) rfl), good_of_word rfl⟩, List.forall_mem_cons.mpr ⟨⟨(List.mem_of_getElem? (i := 14) rfl), good_of_word rfl⟩, (fun _ h => absurd h List.not_mem_nil)⟩⟩⟩⟩⟩⟩⟩⟩, fun w h => ⟨(fun w h => List.mem_cons_of_mem _ (List.mem_append_right _ h)) w h, good_of_word (List.all_eq_true.mp gw_X10 w h)⟩⟩⟩
set_option maxRecDepth 20000 in
theorem gq_c_X2_payOfOneMore_c_X10_begin_88 : GoodIn wq_c_X2_payOfOneMore (wsV RX2 88 RX10 yX10_begin wq_c_X10_begin) := goodIn_app (List.forall_mem_cons.mpr ⟨⟨(List.mem_of_getElem? (i := 2) rfl), good_of_word rfl⟩, List.forall_mem_cons.mpr ⟨⟨(List.mem_of_getElem? (i := 3) rfl), good_of_word rfl⟩, List.forall_mem_cons.mpr ⟨⟨(List.mem_of_getElem? (i := 4) rfl), good_of_word rfl⟩, List.forall_mem_cons.mpr ⟨⟨(List.mem_of_getElem? (i := 5) rfl), good_of_word rfl⟩, (fun _ h => absurd h List.not_mem_nil)⟩⟩⟩⟩) gr_c_X2_payOfOneMore_c_X10_begin
set_option maxHeartbeats 8000000 in
set_option maxRecDepth 100000 in
theorem c_X2_payOfOneMore (l : Launch) (D : va_G) (cy : Nat → ClassId) (ad : Nat → Nat) (g : Nat → va_E) {f0 : List Value} {f1 : List Value} {c2 : Nat → Int32} {c3 : Nat → Int32} {c4 : Nat → Int32} {c5 : Nat → Int32} {f6 : List Value} {x1 : Int32} {x2 : Int32} (o0 : g 0 = .inr (2, f0)) (f0_0 : f0[0]? = some (.ref (ad 6))) (f0_3 : f0[3]? = some (.ref (ad 1))) (o1 : g 1 = .inr (10, f1)) (f1_4 : f1[4]? = some (.ref (ad 2))) (f1_5 : f1[5]? = some (.ref (ad 3))) (f1_6 : f1[6]? = some (.ref (ad 4))) (f1_7 : f1[7]? = some (.ref (ad 5))) (a2 : g 2 = .inl (cy 0, 5, .inl c2)) (a3 : g 3 = .inl (cy 0, 5, .inl c3)) (a4 : g 4 = .inl (cy 0, 5, .inl c4)) (a5 : g 5 = .inl (cy 0, 5, .inl c5)) (o6 : g 6 = .inr (7, f6)) (f6_11 : f6[11]? = some (.int 0)) : cMi l yX2_payOfOneMore wq_c_X2_payOfOneMore { frames := 2, cells := 0, slots := 0, locals := 43 } 7 0 0 0 D cy ad g [.ref (ad 0), .int x1, .int x2] (fun r nw lu => ∃ (cz_4_4 : Nat → Int32) (cz_4_5 : Nat → Int32) (cz_4_6 : Nat → Int32) (cz_4_7 : Nat → Int32), (r = 0) ∧ (lu = [(5, .inl (cy 0, 5, .inl cz_4_7)), (4, .inl (cy 0, 5, .inl cz_4_6)), (3, .inl (cy 0, 5, .inl cz_4_5)), (2, .inl (cy 0, 5, .inl cz_4_4))])) := by
  refine cM_of (Qc := fun A => cQi (fun r nw lu => ∃ (cz_4_4 : Nat → Int32) (cz_4_5 : Nat → Int32) (cz_4_6 : Nat → Int32) (cz_4_7 : Nat → Int32), (r = 0) ∧ (lu = [(5, .inl (cy 0, 5, .inl cz_4_7)), (4, .inl (cy 0, 5, .inl cz_4_6)), (3, .inl (cy 0, 5, .inl cz_4_5)), (2, .inl (cy 0, 5, .inl cz_4_4))])) D 7 0 ad g A) (cc := cX2_payOfOneMore) (maxL := 6) (ret := (some .int)) (by decide) rfl (Nat.le_of_ble_eq_true rfl) ?_
  intro p e s m below meth c A hC hr hlk hnm hO ls hl
  have hC : CallFix p m c cX2_payOfOneMore 6 s [.ref (ad 0), .int x1, .int x2].toArray wq_c_X2_payOfOneMore RX2 := hC
  obtain ⟨hx, hb, hml, hown, hts⟩ := id hC
  have hl : lv_has ls 6 [(0, .ref (ad 0)), (1, .int x1), (2, .int x2)] := hl
  have i_X10 : ∀ w ∈ wsX100, w ∈ wq_c_X2_payOfOneMore := fun w h => List.mem_cons_of_mem _ (List.mem_append_right _ h)
  have i_X2 : ∀ w ∈ wsX20, w ∈ wq_c_X2_payOfOneMore := fun w h => List.mem_cons_of_mem _ (List.mem_append_left _ (List.mem_append_left _ (List.mem_append_right _ h)))
  have i_X7 : ∀ w ∈ wsX70, w ∈ wq_c_X2_payOfOneMore := fun w h => List.mem_cons_of_mem _ (List.mem_append_left _ (List.mem_append_right _ h))
  refine lv_aload_n hx hb dX2_payOfOneMore_0 rfl (lv_at hl 0 rfl) ?_
  refine cg_get hC hO 0 (by decide) o0 rfl i_X2 3 (by decide) (List.mem_of_getElem? (i := 1) rfl) f0_3 dX2_payOfOneMore_1 ?_
  refine cg_Vv (As := []) (rest := []) (mc := 0) (ms := 0) (rm := { frames := 1, cells := 0, slots := 0, locals := 23 }) hC hl.1 hO [1, 2, 3, 4, 5] rfl (c_X10_begin l D cy _ _ (f0 := f1) (c1 := c2) (c2 := c3) (c3 := c4) (c4 := c5) o1 f1_4 f1_5 f1_6 f1_7 a2 a3 a4 a5) gq_c_X2_payOfOneMore_c_X10_begin_88 rfl rfl rfl 0 (by decide +kernel) ⟨Nat.le_of_ble_eq_true rfl, Nat.le_of_ble_eq_true rfl⟩ rfl (by decide) o1 rfl rfl (Nat.le_of_ble_eq_true rfl) dX2_payOfOneMore_4 ⟨Nat.le_of_ble_eq_true rfl, Nat.le_of_ble_eq_true rfl⟩ (fun nw_4_1 l_4_2 H locs hw hO => ?_)
  obtain ⟨cz_4_4, cz_4_5, cz_4_6, cz_4_7, rfl⟩ := hw
  have hO : cO D cy A s.heap s 7 ad (cup [(5, .inl (cy 0, 5, .inl cz_4_7)), (4, .inl (cy 0, 5, .inl cz_4_6)), (3, .inl (cy 0, 5, .inl cz_4_5)), (2, .inl (cy 0, 5, .inl cz_4_4))] g) _ _ := hO
  refine lv_iconst (v := 0) hx hb dX2_payOfOneMore_7 (by decide) ?_
  refine lv_istore_n (lv' := [(3, .int 0), (0, .ref (ad 0)), (1, .int x1), (2, .int x2)]) hx hb dX2_payOfOneMore_8 rfl hl (by decide) rfl (fun ls hl => ?_)
  refine lv_iconst (v := 0) hx hb dX2_payOfOneMore_9 (by decide) ?_
  refine lv_istore (lv' := [(4, .int 0), (3, .int 0), (0, .ref (ad 0)), (1, .int x1), (2, .int x2)]) hx hb dX2_payOfOneMore_10 hl (by decide) rfl (fun ls hl => ?_)
  refine lv_iload hx hb dX2_payOfOneMore_12 (lv_at hl 0 rfl) ?_
  refine lv_aload_n hx hb dX2_payOfOneMore_14 rfl (lv_at hl 2 rfl) ?_
  refine cg_get hC hO 0 (by decide) o0 rfl i_X2 0 (by decide) (List.mem_of_getElem? (i := 15) rfl) f0_0 dX2_payOfOneMore_15 ?_
  refine cg_get hC hO 6 (by decide) o6 rfl i_X7 11 (by decide) (List.mem_of_getElem? (i := 16) rfl) f6_11 dX2_payOfOneMore_18 ?_
  refine lv_icmp_ge (tgt := 155) hx hb dX2_payOfOneMore_21 (by decide) (fun _ => ?_) (fun h => absurd h (by decide))
  refine lv_iload_n hx hb dX2_payOfOneMore_155 rfl (lv_at hl 1 rfl) ?_
  exact cg_iret (nw := fun _ => 0) hC hr hlk hO.same rfl (Nat.le_of_ble_eq_true rfl) (Nat.le_of_ble_eq_true rfl) (⟨cz_4_4, cz_4_5, cz_4_6, cz_4_7, rfl, rfl⟩) dX2_payOfOneMore_156

theorem dX2_leastOfParty_0 : decode cX2_leastOfParty 0 = .ok (.aload_n 0, 1) := by decide +kernel
theorem dX2_leastOfParty_1 : decode cX2_leastOfParty 1 = .ok (.invokevirtual 48, 3) := by decide +kernel
theorem dX2_leastOfParty_4 : decode cX2_leastOfParty 4 = .ok (.iconst 0, 1) := by decide +kernel
theorem dX2_leastOfParty_5 : decode cX2_leastOfParty 5 = .ok (.istore 6, 2) := by decide +kernel
theorem dX2_leastOfParty_7 : decode cX2_leastOfParty 7 = .ok (.iconst 0, 1) := by decide +kernel
theorem dX2_leastOfParty_8 : decode cX2_leastOfParty 8 = .ok (.istore 7, 2) := by decide +kernel
theorem dX2_leastOfParty_10 : decode cX2_leastOfParty 10 = .ok (.iload 7, 2) := by decide +kernel
theorem dX2_leastOfParty_12 : decode cX2_leastOfParty 12 = .ok (.iload 4, 2) := by decide +kernel
theorem dX2_leastOfParty_14 : decode cX2_leastOfParty 14 = .ok (.if_icmp .gt 53, 3) := by decide +kernel
theorem dX2_leastOfParty_17 : decode cX2_leastOfParty 17 = .ok (.aload_n 0, 1) := by decide +kernel
theorem dX2_leastOfParty_18 : decode cX2_leastOfParty 18 = .ok (.iload_n 2, 1) := by decide +kernel
theorem dX2_leastOfParty_19 : decode cX2_leastOfParty 19 = .ok (.iload_n 3, 1) := by decide +kernel
theorem dX2_leastOfParty_20 : decode cX2_leastOfParty 20 = .ok (.iload 7, 2) := by decide +kernel
theorem dX2_leastOfParty_22 : decode cX2_leastOfParty 22 = .ok (.iadd, 1) := by decide +kernel
theorem dX2_leastOfParty_23 : decode cX2_leastOfParty 23 = .ok (.invokevirtual 51, 3) := by decide +kernel
theorem dX2_leastOfParty_26 : decode cX2_leastOfParty 26 = .ok (.iload_n 1, 1) := by decide +kernel
theorem dX2_leastOfParty_27 : decode cX2_leastOfParty 27 = .ok (.iload 5, 2) := by decide +kernel
theorem dX2_leastOfParty_29 : decode cX2_leastOfParty 29 = .ok (.imul, 1) := by decide +kernel
theorem dX2_leastOfParty_30 : decode cX2_leastOfParty 30 = .ok (.iload 7, 2) := by decide +kernel
theorem dX2_leastOfParty_32 : decode cX2_leastOfParty 32 = .ok (.imul, 1) := by decide +kernel
theorem dX2_leastOfParty_33 : decode cX2_leastOfParty 33 = .ok (.iadd, 1) := by decide +kernel
theorem dX2_leastOfParty_34 : decode cX2_leastOfParty 34 = .ok (.istore 8, 2) := by decide +kernel
theorem dX2_leastOfParty_36 : decode cX2_leastOfParty 36 = .ok (.iload 7, 2) := by decide +kernel
theorem dX2_leastOfParty_38 : decode cX2_leastOfParty 38 = .ok (.ifCond .eq 10, 3) := by decide +kernel
theorem dX2_leastOfParty_41 : decode cX2_leastOfParty 41 = .ok (.iload 8, 2) := by decide +kernel
theorem dX2_leastOfParty_43 : decode cX2_leastOfParty 43 = .ok (.iload 6, 2) := by decide +kernel
theorem dX2_leastOfParty_45 : decode cX2_leastOfParty 45 = .ok (.if_icmp .ge 16, 3) := by decide +kernel
theorem dX2_leastOfParty_48 : decode cX2_leastOfParty 48 = .ok (.iload 8, 2) := by decide +kernel
theorem dX2_leastOfParty_50 : decode cX2_leastOfParty 50 = .ok (.istore 6, 2) := by decide +kernel
theorem dX2_leastOfParty_52 : decode cX2_leastOfParty 52 = .ok (.aload_n 0, 1) := by decide +kernel
theorem dX2_leastOfParty_53 : decode cX2_leastOfParty 53 = .ok (.getfield 21, 3) := by decide +kernel
theorem dX2_leastOfParty_56 : decode cX2_leastOfParty 56 = .ok (.iload 7, 2) := by decide +kernel
theorem dX2_leastOfParty_58 : decode cX2_leastOfParty 58 = .ok (.invokestatic 55, 3) := by decide +kernel
theorem dX2_leastOfParty_61 : decode cX2_leastOfParty 61 = .ok (.iinc 7 1, 3) := by decide +kernel
theorem dX2_leastOfParty_64 : decode cX2_leastOfParty 64 = .ok (.goto (-54), 3) := by decide +kernel
theorem dX2_leastOfParty_67 : decode cX2_leastOfParty 67 = .ok (.iload 6, 2) := by decide +kernel
theorem dX2_leastOfParty_69 : decode cX2_leastOfParty 69 = .ok (.ireturn, 1) := by decide +kernel
def wq_c_X2_leastOfParty : List Cond := Cond.code yX2_leastOfParty cX2_leastOfParty 9 (some .int) :: (([Cond.methodLink RX2 48 yX2_putInOrder, Cond.instanceMethod yX2_putInOrder, Cond.selects RX2 yX2_putInOrder yX2_putInOrder, Cond.initialized RX2, Cond.code yX2_putInOrder cX2_putInOrder 1 none, Cond.fieldLink RX2 31 "CrowToll$Drivers" "stand" "LCrowToll$Stand;", Cond.fieldLink RX2 9 "CrowToll$Drivers" "order" "[I", Cond.methodLink RX2 65 yX9_coming, Cond.instanceMethod yX9_coming, Cond.selects RX9 yX9_coming yX9_coming, Cond.initialized RX9, Cond.code yX9_coming cX9_coming 4 (some .int), Cond.fieldLink RX9 21 "CrowToll$Stand" "carts" "I", Cond.fieldLink RX2 71 "CrowToll$Drivers" "going" "I", Cond.fieldLink RX2 74 "CrowToll$Stand" "minute" "[I", Cond.code yX11_putByMinutes cX11_putByMinutes 6 none, Cond.static yX11_putByMinutes, Cond.initialized RX11, Cond.fieldLink RX2 44 "CrowToll$Drivers" "watch" "LCrowToll$Watch;", Cond.fieldLink RX2 81 "CrowToll$Stand" "counts" "[I", Cond.methodLink RX2 84 yX10_sit, Cond.instanceMethod yX10_sit, Cond.selects RX10 yX10_sit yX10_sit, Cond.initialized RX10, Cond.code yX10_sit cX10_sit 2 none, Cond.fieldLink RX10 9 "CrowToll$Watch" "limit" "[I", Cond.methodLink RX10 37 arraycopyName, Cond.native arraycopyName, Cond.static arraycopyName, Cond.initialized "java/lang/System", Cond.fieldLink RX10 33 "CrowToll$Watch" "road" "LCrowToll$Road;", Cond.fieldLink RX10 43 "CrowToll$Road" "seat" "[I", Cond.fieldLink RX10 15 "CrowToll$Watch" "seat" "[I", Cond.fieldLink RX10 46 "CrowToll$Road" "seated" "[I", Cond.fieldLink RX10 18 "CrowToll$Watch" "seated" "[I", Cond.methodLink RX10 47 yX10_begin, Cond.instanceMethod yX10_begin, Cond.selects RX10 yX10_begin yX10_begin, Cond.code yX10_begin cX10_begin 1 none, Cond.fieldLink RX10 21 "CrowToll$Watch" "count" "[I", Cond.methodLink RX10 54 yJ7_fill_53178, Cond.static yJ7_fill_53178, Cond.initialized RJ7, Cond.code yJ7_fill_53178 cJ7_fill_53178 4 none, Cond.fieldLink RX10 24 "CrowToll$Watch" "total" "[I", Cond.fieldLink RX10 27 "CrowToll$Watch" "lookedAt" "[I", Cond.fieldLink RX10 30 "CrowToll$Watch" "countedAt" "[I", Cond.methodLink RX2 51 yX2_payOfOneMore, Cond.instanceMethod yX2_payOfOneMore, Cond.selects RX2 yX2_payOfOneMore yX2_payOfOneMore, Cond.code yX2_payOfOneMore cX2_payOfOneMore 6 (some .int), Cond.methodLink RX2 88 yX10_begin, Cond.fieldLink RX2 27 "CrowToll$Drivers" "road" "LCrowToll$Road;", Cond.fieldLink RX2 91 "CrowToll$Road" "posts" "I", Cond.fieldLink RX2 21 "CrowToll$Drivers" "chosen" "[I", Cond.methodLink RX2 55 yJ7_fill_53178] : List Cond) ++ wsX20 ++ wsX70 ++ wsX90 ++ wsX100)
set_option maxRecDepth 20000 in
theorem gr_c_X2_leastOfParty_c_X2_putInOrder : GoodIn wq_c_X2_leastOfParty wq_c_X2_putInOrder := List.forall_mem_cons.mpr ⟨⟨(List.mem_of_getElem? (i := 5) rfl), good_of_word rfl⟩, List.forall_mem_append.mpr ⟨List.forall_mem_append.mpr ⟨List.forall_mem_append.mpr ⟨List.forall_mem_append.mpr ⟨List.forall_mem_cons.mpr ⟨⟨(List.mem_of_getElem? (i := 6) rfl), good_of_word rfl⟩, List.forall_mem_cons.mpr ⟨⟨(List.mem_of_getElem? (i := 7) rfl), good_of_word rfl⟩, List.forall_mem_cons.mpr ⟨⟨(List.mem_of_getElem? (i := 8) rfl), good_of_word rfl⟩, List.forall_mem_cons.mpr ⟨⟨(List.mem_of_getElem? (i := 9) rfl), good_of_word rfl⟩, List.forall_mem_cons.mpr ⟨⟨(List.mem_of_getElem? (i := 10) rfl), good_of_word rfl⟩, List.forall_mem_cons.mpr ⟨⟨(List.mem_of_getElem? (i := 11) rfl), good_of_word rfl⟩, List.forall_mem_cons.mpr ⟨⟨(List.mem_of_getElem? (i := 12) rfl), good_of_word rfl⟩, List.forall_mem_cons.mpr ⟨⟨(List.mem_of_getElem? (i := 13) rfl), good_of_word rfl⟩, List.forall_mem_cons.mpr ⟨⟨(List.mem_of_getElem? (i := 14) rfl), good_of_word rfl⟩, List.forall_mem_cons.mpr ⟨⟨(List.mem_of_getElem? (i := 15) rfl), good_of_word rfl⟩, List.forall_mem_cons.mpr ⟨⟨(List.mem_of_getElem? (i := 16) rfl), good_of_word rfl⟩, List.forall_mem_cons.mpr ⟨⟨(List.mem_of_getElem? (i := 17) rfl), good_of_word rfl⟩, List.forall_mem_cons.mpr ⟨⟨(List.mem_of_getElem? (i := 18) rfl), good_of_word rfl⟩, List.forall_mem_cons.mpr ⟨⟨(List.mem_of_getElem? (i := 19) rfl), good_of_word rfl⟩, List.forall_mem_cons.mpr ⟨⟨(List.mem_of_getElem? (i := 20) rfl), good_of_word rfl⟩, List.forall_mem_cons.mpr ⟨⟨(List.mem_of_getElem? (i := 21) rfl), good_of_word rfl⟩, List.forall_mem_cons.mpr ⟨⟨(List.mem_of_getElem? (i := 22) rfl), good_of_word rfl⟩, List.forall_mem_cons.mpr ⟨⟨(List.mem_of_getElem? (i := 23) rfl), good_of_word rfl⟩, List.forall_mem_cons.mpr ⟨⟨(List.mem_of_getElem? (i := 24) rfl), good_of_word rfl⟩, List.forall_mem_cons.mpr ⟨⟨(List.mem_of_getElem? (i := 25) rfl), good_of_word rfl⟩, List.forall_mem_cons.mpr ⟨⟨(List.mem_of_getElem? (i := 26) rfl), good_of_word rfl⟩, List.forall_mem_cons.mpr ⟨⟨(List.mem_of_getElem? (i := 27) rfl), good_of_word rfl⟩, List.forall_mem_cons.mpr ⟨⟨(List.mem_of_getElem? (i := 28) rfl), good_of_word rfl⟩, List.forall_mem_cons.mpr ⟨⟨(List.mem_of_getElem? (i := 29) rfl), good_of_word rfl⟩, List.forall_mem_cons.mpr ⟨⟨(List.mem_of_getElem? (i := 30) rfl), good_of_word rfl⟩, List.forall_mem_cons.mpr ⟨⟨(List.mem_of_getElem? (i := 31) rfl), good_of_word rfl⟩, List.forall_mem_cons.mpr ⟨⟨(List.mem_of_getElem? (i := 32) rfl), good_of_word rfl⟩, List.forall_mem_cons.mpr ⟨⟨(List.mem_of_getElem? (i := 33) rfl), good_of_word rfl⟩, List.forall_mem_cons.mpr ⟨⟨(List.mem_of_getElem? (i := 34) rfl), good_of_word rfl⟩, List.forall_mem_cons.mpr ⟨⟨(List.mem_of_getElem? (i := 35) rfl), good_of_word rfl⟩, List.forall_mem_cons.mpr ⟨⟨(List.mem_of_getElem? (i := 36) rfl), good_of_word rfl⟩, List.forall_mem_cons.mpr ⟨⟨(List.mem_of_getElem? (i := 37) rfl), good_of_word rfl⟩, List.forall_mem_cons.mpr ⟨⟨(List.mem_of_getElem? (i := 38) rfl), good_of_word rfl⟩, List.forall_mem_cons.mpr ⟨⟨(List.mem_of_getElem? (i := 39) rfl), good_of_word rfl⟩, List.forall_mem_cons.mpr ⟨⟨(List.mem_of_getElem? (i := 40) rfl), good_of_word rfl⟩, List.forall_mem_cons.mpr ⟨⟨(List.mem_of_getElem? (i := 41) rfl), good_of_word rfl⟩, List.forall_mem_cons.mpr ⟨⟨(List.mem_of_getElem? (i := 42) rfl), good_of_word rfl⟩, List.forall_mem_cons.mpr ⟨⟨(List.mem_of_getElem? (i := 43) rfl), good_of_word rfl⟩, List.forall_mem_cons.mpr ⟨⟨(List.mem_of_getElem? (i := 44) rfl), good_of_word rfl⟩, List.forall_mem_cons.mpr ⟨⟨(List.mem_of_getElem? (i := 45) rfl), good_of_word rfl⟩, List.forall_mem_cons.mpr ⟨⟨(List.mem_of_getElem? (i := 46) rfl), good_of_word rfl⟩, List.forall_mem_cons.mpr ⟨⟨(List.mem_of_getElem? (i := 47) rfl), good_of_word rfl⟩, (fun _ h => absurd h List.not_mem_nil)⟩⟩⟩⟩⟩⟩⟩⟩⟩⟩⟩⟩⟩⟩⟩⟩⟩⟩⟩⟩⟩⟩⟩⟩⟩⟩⟩⟩⟩⟩⟩⟩⟩⟩⟩⟩⟩⟩⟩⟩⟩⟩, fun w h => ⟨(fun w h => List.mem_cons_of_mem _ (List.mem_append_left _ (List.mem_append_left _ (List.mem_append_left _ (List.mem_append_right _ h))))) w h, good_of_word (List.all_eq_true.mp gw_X2 w h)⟩⟩, fun w h => ⟨(fun w h => List.mem_cons_of_mem _ (List.mem_append_left _ (List.mem_append_left _ (List.mem_append_right _ h)))) w h, good_of_word (List.all_eq_true.mp gw_X7 w h)⟩⟩, fun w h => ⟨(fun w h => List.mem_cons_of_mem _ (List.mem_append_left _ (List.mem_append_right _ h))) w h, good_of_word (List.all_eq_true.mp gw_X9 w h)⟩⟩, fun w h => ⟨(fun w h => List.mem_cons_of_mem _ (List.mem_append_right _ h)) w h, good_of_word (List.all_eq_true.mp gw_X10 w h)⟩⟩⟩
set_option maxRecDepth 20000 in
theorem gq_c_X2_leastOfParty_c_X2_putInOrder_48 : GoodIn wq_c_X2_leastOfParty (wsV RX2 48 RX2 yX2_putInOrder wq_c_X2_putInOrder) := goodIn_app (List.forall_mem_cons.mpr ⟨⟨(List.mem_of_getElem? (i := 1) rfl), good_of_word rfl⟩, List.forall_mem_cons.mpr ⟨⟨(List.mem_of_getElem? (i := 2) rfl), good_of_word rfl⟩, List.forall_mem_cons.mpr ⟨⟨(List.mem_of_getElem? (i := 3) rfl), good_of_word rfl⟩, List.forall_mem_cons.mpr ⟨⟨(List.mem_of_getElem? (i := 4) rfl), good_of_word rfl⟩, (fun _ h => absurd h List.not_mem_nil)⟩⟩⟩⟩) gr_c_X2_leastOfParty_c_X2_putInOrder
set_option maxRecDepth 20000 in
theorem gr_c_X2_leastOfParty_c_X2_payOfOneMore : GoodIn wq_c_X2_leastOfParty wq_c_X2_payOfOneMore := List.forall_mem_cons.mpr ⟨⟨(List.mem_of_getElem? (i := 51) rfl), good_of_word rfl⟩, List.forall_mem_append.mpr ⟨List.forall_mem_append.mpr ⟨List.forall_mem_append.mpr ⟨List.forall_mem_cons.mpr ⟨⟨(List.mem_of_getElem? (i := 19) rfl), good_of_word rfl⟩, List.forall_mem_cons.mpr ⟨⟨(List.mem_of_getElem? (i := 52) rfl), good_of_word rfl⟩, List.forall_mem_cons.mpr ⟨⟨(List.mem_of_getElem? (i := 37) rfl), good_of_word rfl⟩, List.forall_mem_cons.mpr ⟨⟨(List.mem_of_getElem? (i := 38) rfl), good_of_word rfl⟩, List.forall_mem_cons.mpr ⟨⟨(List.mem_of_getElem? (i := 24) rfl), good_of_word rfl⟩, List.forall_mem_cons.mpr ⟨⟨(List.mem_of_getElem? (i := 39) rfl), good_of_word rfl⟩, List.forall_mem_cons.mpr ⟨⟨(List.mem_of_getElem? (i := 40) rfl), good_of_word rfl⟩, List.forall_mem_cons.mpr ⟨⟨(List.mem_of_getElem? (i := 41) rfl), good_of_word rfl⟩, List.forall_mem_cons.mpr ⟨⟨(List.mem_of_getElem? (i := 42) rfl), good_of_word rfl⟩, List.forall_mem_cons.mpr ⟨⟨(List.mem_of_getElem? (i := 43) rfl), good_of_word rfl⟩, List.forall_mem_cons.mpr ⟨⟨(List.mem_of_getElem? (i := 44) rfl), good_of_word rfl⟩, List.forall_mem_cons.mpr ⟨⟨(List.mem_of_getElem? (i := 45) rfl), good_of_word rfl⟩, List.forall_mem_cons.mpr ⟨⟨(List.mem_of_getElem? (i := 46) rfl), good_of_word rfl⟩, List.forall_mem_cons.mpr ⟨⟨(List.mem_of_getElem? (i := 47) rfl), good_of_word rfl⟩, List.forall_mem_cons.mpr ⟨⟨(List.mem_of_getElem? (i := 53) rfl), good_of_word rfl⟩, List.forall_mem_cons.mpr ⟨⟨(List.mem_of_getElem? (i := 54) rfl), good_of_word rfl⟩, (fun _ h => absurd h List.not_mem_nil)⟩⟩⟩⟩⟩⟩⟩⟩⟩⟩⟩⟩⟩⟩⟩⟩, fun w h => ⟨(fun w h => List.mem_cons_of_mem _ (List.mem_append_left _ (List.mem_append_left _ (List.mem_append_left _ (List.mem_append_right _ h))))) w h, good_of_word (List.all_eq_true.mp gw_X2 w h)⟩⟩, fun w h => ⟨(fun w h => List.mem_cons_of_mem _ (List.mem_append_left _ (List.mem_append_left _ (List.mem_append_right _ h)))) w h, good_of_word (List.all_eq_true.mp gw_X7 w h)⟩⟩, fun w h => ⟨(fun w h => List.mem_cons_of_mem _ (List.mem_append_right _ h)) w h, good_of_word (List.all_eq_true.mp gw_X10 w h)⟩⟩⟩
set_option maxRecDepth 20000 in
theorem gq_c_X2_leastOfParty_c_X2_payOfOneMore_51 : GoodIn wq_c_X2_leastOfParty (wsV RX2 51 RX2 yX2_payOfOneMore wq_c_X2_payOfOneMore) := goodIn_app (List.forall_mem_cons.mpr ⟨⟨(List.mem_of_getElem? (i := 48) rfl), good_of_word rfl⟩, List.forall_mem_cons.mpr ⟨⟨(List.mem_of_getElem? (i := 49) rfl), good_of_word rfl⟩, List.forall_mem_cons.mpr ⟨⟨(List.mem_of_getElem? (i := 50) rfl), good_of_word rfl⟩, List.forall_mem_cons.mpr ⟨⟨(List.mem_of_getElem? (i := 4) rfl), good_of_word rfl⟩, (fun _ h => absurd h List.not_mem_nil)⟩⟩⟩⟩) gr_c_X2_leastOfParty_c_X2_payOfOneMore
set_option maxRecDepth 20000 in
theorem gr_c_X2_leastOfParty_c_J7_fill_53178 : GoodIn wq_c_X2_leastOfParty wq_c_J7_fill_53178 := List.forall_mem_cons.mpr ⟨⟨(List.mem_of_getElem? (i := 44) rfl), good_of_word rfl⟩, (fun _ h => absurd h List.not_mem_nil)⟩
set_option maxRecDepth 20000 in
theorem gq_c_X2_leastOfParty_c_J7_fill_53178_55 : GoodIn wq_c_X2_leastOfParty (va_wsS RX2 55 yJ7_fill_53178 wq_c_J7_fill_53178) := goodIn_app (List.forall_mem_cons.mpr ⟨⟨(List.mem_of_getElem? (i := 56) rfl), good_of_word rfl⟩, List.forall_mem_cons.mpr ⟨⟨(List.mem_of_getElem? (i := 42) rfl), good_of_word rfl⟩, List.forall_mem_cons.mpr ⟨⟨(List.mem_of_getElem? (i := 43) rfl), good_of_word rfl⟩, (fun _ h => absurd h List.not_mem_nil)⟩⟩⟩) gr_c_X2_leastOfParty_c_J7_fill_53178
set_option maxHeartbeats 8000000 in
set_option maxRecDepth 100000 in
theorem c_X2_leastOfParty (l : Launch) (D : va_G) (cy : Nat → ClassId) (ad : Nat → Nat) (g : Nat → va_E) {f0 : List Value} {f1 : List Value} {c2 : Nat → Int32} {c3 : Nat → Int32} {f4 : List Value} {f5 : List Value} {c6 : Nat → Int32} {c7 : Nat → Int32} {c8 : Nat → Int32} {c9 : Nat → Int32} {c10 : Nat → Int32} {c11 : Nat → Int32} {c12 : Nat → Int32} {c13 : Nat → Int32} {c14 : Nat → Int32} {c15 : Nat → Int32} {c16 : Nat → Int32} {n : Nat} {s1 : Int32} {mi : Int32} {w : Nat} {la : Nat} (o0 : g 0 = .inr (2, f0)) (f0_0 : f0[0]? = some (.ref (ad 5))) (f0_1 : f0[1]? = some (.ref (ad 1))) (f0_3 : f0[3]? = some (.ref (ad 4))) (f0_4 : f0[4]? = some (.ref (ad 15))) (f0_5 : f0[5]? = some (.int 0)) (f0_8 : f0[8]? = some (.ref (ad 16))) (o1 : g 1 = .inr (9, f1)) (f1_0 : f1[0]? = some (.ref (ad 2))) (f1_3 : f1[3]? = some (.ref (ad 3))) (f1_4 : f1[4]? = some (.int 0)) (a2 : g 2 = .inl (cy 0, 24, .inl c2)) (a3 : g 3 = .inl (cy 0, 5, .inl c3)) (o4 : g 4 = .inr (10, f4)) (f4_0 : f4[0]? = some (.ref (ad 5))) (f4_1 : f4[1]? = some (.ref (ad 8))) (f4_2 : f4[2]? = some (.ref (ad 9))) (f4_3 : f4[3]? = some (.ref (ad 10))) (f4_4 : f4[4]? = some (.ref (ad 11))) (f4_5 : f4[5]? = some (.ref (ad 12))) (f4_6 : f4[6]? = some (.ref (ad 13))) (f4_7 : f4[7]? = some (.ref (ad 14))) (o5 : g 5 = .inr (7, f5)) (f5_9 : f5[9]? = some (.ref (ad 6))) (f5_10 : f5[10]? = some (.ref (ad 7))) (f5_11 : f5[11]? = some (.int 0)) (a6 : g 6 = .inl (cy 0, 20, .inl c6)) (a7 : g 7 = .inl (cy 0, 4, .inl c7)) (a8 : g 8 = .inl (cy 0, 5, .inl c8)) (a9 : g 9 = .inl (cy 0, 20, .inl c9)) (a10 : g 10 = .inl (cy 0, 4, .inl c10)) (a11 : g 11 = .inl (cy 0, 5, .inl c11)) (a12 : g 12 = .inl (cy 0, 5, .inl c12)) (a13 : g 13 = .inl (cy 0, 5, .inl c13)) (a14 : g 14 = .inl (cy 0, 5, .inl c14)) (a15 : g 15 = .inl (cy 0, 24, .inl c15)) (a16 : g 16 = .inl (cy 0, 3, .inl c16)) (hn : n ≤ 3) (hwb : w ≤ 20) (hla : la ≤ 99) : cMi l yX2_leastOfParty wq_c_X2_leastOfParty { frames := 4, cells := 0, slots := 0, locals := 101 } 17 0 0 0 D cy ad g [.ref (ad 0), .int (nI n), .int s1, .int mi, .int (nI w), .int (nI la)] (fun r nw lu => ∃ (c2_1_4 : Nat → Int32) (c5_1_5 : Nat → Int32) (c7_1_6 : Nat → Int32) (le : Nat) (d11 : Nat → Int32) (d12 : Nat → Int32) (d13 : Nat → Int32) (d14 : Nat → Int32) (d16 : Nat → Int32), (le = 0) ∧ (r = (nI le)) ∧ (lu = [(8, .inl (cy 0, 5, .inl c2_1_4)), (9, .inl (cy 0, 20, .inl c5_1_5)), (10, .inl (cy 0, 4, .inl c7_1_6)), (14, .inl (cy 0, 5, .inl d14)), (13, .inl (cy 0, 5, .inl d13)), (12, .inl (cy 0, 5, .inl d12)), (11, .inl (cy 0, 5, .inl d11)), (0, .inr (2, (f0.set 5 (.int 0)))), (16, .inl (cy 0, 3, .inl d16))])) := by
  refine cM_of (Qc := fun A => cQi (fun r nw lu => ∃ (c2_1_4 : Nat → Int32) (c5_1_5 : Nat → Int32) (c7_1_6 : Nat → Int32) (le : Nat) (d11 : Nat → Int32) (d12 : Nat → Int32) (d13 : Nat → Int32) (d14 : Nat → Int32) (d16 : Nat → Int32), (le = 0) ∧ (r = (nI le)) ∧ (lu = [(8, .inl (cy 0, 5, .inl c2_1_4)), (9, .inl (cy 0, 20, .inl c5_1_5)), (10, .inl (cy 0, 4, .inl c7_1_6)), (14, .inl (cy 0, 5, .inl d14)), (13, .inl (cy 0, 5, .inl d13)), (12, .inl (cy 0, 5, .inl d12)), (11, .inl (cy 0, 5, .inl d11)), (0, .inr (2, (f0.set 5 (.int 0)))), (16, .inl (cy 0, 3, .inl d16))])) D 17 0 ad g A) (cc := cX2_leastOfParty) (maxL := 9) (ret := (some .int)) (by decide) rfl (Nat.le_of_ble_eq_true rfl) ?_
  intro p e s m below meth c A hC hr hlk hnm hO ls hl
  have hC : CallFix p m c cX2_leastOfParty 9 s [.ref (ad 0), .int (nI n), .int s1, .int mi, .int (nI w), .int (nI la)].toArray wq_c_X2_leastOfParty RX2 := hC
  obtain ⟨hx, hb, hml, hown, hts⟩ := id hC
  have hl : lv_has ls 9 [(0, .ref (ad 0)), (1, .int (nI n)), (2, .int s1), (3, .int mi), (4, .int (nI w)), (5, .int (nI la))] := hl
  have i_X10 : ∀ w ∈ wsX100, w ∈ wq_c_X2_leastOfParty := fun w h => List.mem_cons_of_mem _ (List.mem_append_right _ h)
  have i_X2 : ∀ w ∈ wsX20, w ∈ wq_c_X2_leastOfParty := fun w h => List.mem_cons_of_mem _ (List.mem_append_left _ (List.mem_append_left _ (List.mem_append_left _ (List.mem_append_right _ h))))
  have i_X7 : ∀ w ∈ wsX70, w ∈ wq_c_X2_leastOfParty := fun w h => List.mem_cons_of_mem _ (List.mem_append_left _ (List.mem_append_left _ (List.mem_append_right _ h)))
  have i_X9 : ∀ w ∈ wsX90, w ∈ wq_c_X2_leastOfParty := fun w h => List.mem_cons_of_mem _ (List.mem_append_left _ (List.mem_append_right _ h))
  refine lv_aload_n hx hb dX2_leastOfParty_0 rfl (lv_at hl 0 rfl) ?_
  refine cg_Vv (As := []) (rest := []) (mc := 0) (ms := 0) (rm := { frames := 3, cells := 0, slots := 0, locals := 81 }) hC hl.1 hO [0, 1, 15, 2, 4, 5, 6, 7, 8, 9, 10, 11, 12, 13, 14, 3] rfl (c_X2_putInOrder l D cy _ _ (f0 := f0) (f1 := f1) (c3 := c2) (c15 := c3) (f4 := f4) (f5 := f5) (c6 := c6) (c7 := c7) (c8 := c8) (c9 := c9) (c10 := c10) (c11 := c11) (c12 := c12) (c13 := c13) (c14 := c14) (c2 := c15) o0 f0_1 f0_3 f0_4 f0_5 o1 f1_0 f1_3 f1_4 a15 a2 o4 f4_0 f4_1 f4_2 f4_3 f4_4 f4_5 f4_6 f4_7 o5 f5_9 f5_10 a6 a7 a8 a9 a10 a11 a12 a13 a14 a3) gq_c_X2_leastOfParty_c_X2_putInOrder_48 rfl rfl rfl 0 (by decide +kernel) ⟨Nat.le_of_ble_eq_true rfl, Nat.le_of_ble_eq_true rfl⟩ rfl (by decide) o0 rfl rfl (Nat.le_of_ble_eq_true rfl) dX2_leastOfParty_1 ⟨Nat.le_of_ble_eq_true rfl, Nat.le_of_ble_eq_true rfl⟩ (fun nw_1_1 l_1_2 H locs hw hO => ?_)
  obtain ⟨c2_1_4, c5_1_5, c7_1_6, cz_1_7, cz_1_8, cz_1_9, cz_1_10, rfl⟩ := hw
  have hO : cO D cy A s.heap s 17 ad (cup [(8, .inl (cy 0, 5, .inl c2_1_4)), (9, .inl (cy 0, 20, .inl c5_1_5)), (10, .inl (cy 0, 4, .inl c7_1_6)), (14, .inl (cy 0, 5, .inl cz_1_10)), (13, .inl (cy 0, 5, .inl cz_1_9)), (12, .inl (cy 0, 5, .inl cz_1_8)), (11, .inl (cy 0, 5, .inl cz_1_7)), (0, .inr (2, (f0.set 5 (.int 0))))] g) _ _ := hO
  refine lv_iconst (v := 0) hx hb dX2_leastOfParty_4 (by decide) ?_
  refine lv_istore (lv' := [(6, .int 0), (0, .ref (ad 0)), (1, .int (nI n)), (2, .int s1), (3, .int mi), (4, .int (nI w)), (5, .int (nI la))]) hx hb dX2_leastOfParty_5 hl (by decide) rfl (fun ls hl => ?_)
  refine lv_iconst (v := 0) hx hb dX2_leastOfParty_7 (by decide) ?_
  refine lv_istore (lv' := [(7, .int 0), (6, .int 0), (0, .ref (ad 0)), (1, .int (nI n)), (2, .int s1), (3, .int mi), (4, .int (nI w)), (5, .int (nI la))]) hx hb dX2_leastOfParty_8 hl (by decide) rfl (fun ls hl => ?_)
  have hO := hO.note 16 (e := .inl (cy 0, 3, .inl c16)) a16
  have hO : cO D cy A s.heap s 17 ad (cup [(8, .inl (cy 0, 5, .inl c2_1_4)), (9, .inl (cy 0, 20, .inl c5_1_5)), (10, .inl (cy 0, 4, .inl c7_1_6)), (14, .inl (cy 0, 5, .inl cz_1_10)), (13, .inl (cy 0, 5, .inl cz_1_9)), (12, .inl (cy 0, 5, .inl cz_1_8)), (11, .inl (cy 0, 5, .inl cz_1_7)), (0, .inr (2, (f0.set 5 (.int 0)))), (16, .inl (cy 0, 3, .inl c16))] g) _ _ := hO
  have loop_10_11 : ∀ (d_10_12 : Nat) (b : Nat) (le : Nat) (d11 : Nat → Int32) (d12 : Nat → Int32) (d13 : Nat → Int32) (d14 : Nat → Int32) (d16 : Nat → Int32), (b ≤ w + 1) → (le = 0) → w + 1 - b < d_10_12 → ∀ (H : Heap) (locs : List Loc), cO D cy A s.heap s 17 ad (cup [(8, .inl (cy 0, 5, .inl c2_1_4)), (9, .inl (cy 0, 20, .inl c5_1_5)), (10, .inl (cy 0, 4, .inl c7_1_6)), (14, .inl (cy 0, 5, .inl d14)), (13, .inl (cy 0, 5, .inl d13)), (12, .inl (cy 0, 5, .inl d12)), (11, .inl (cy 0, 5, .inl d11)), (0, .inr (2, (f0.set 5 (.int 0)))), (16, .inl (cy 0, 3, .inl d16))] g) H locs → ∀ ls : Array Slot, lv_has ls 9 [(7, .int (nI b)), (6, .int (nI le)), (0, .ref (ad 0)), (1, .int (nI n)), (2, .int s1), (3, .int mi), (4, .int (nI w)), (5, .int (nI la))] → W p l e { frames := 4, cells := 0, slots := 0, locals := 101 } s m [.ref (ad 0), .int (nI n), .int s1, .int mi, .int (nI w), .int (nI la)].toArray below meth c H locs 0 0 (MQ below (cQi (fun r nw lu => ∃ (c2_1_4 : Nat → Int32) (c5_1_5 : Nat → Int32) (c7_1_6 : Nat → Int32) (le : Nat) (d11 : Nat → Int32) (d12 : Nat → Int32) (d13 : Nat → Int32) (d14 : Nat → Int32) (d16 : Nat → Int32), (le = 0) ∧ (r = (nI le)) ∧ (lu = [(8, .inl (cy 0, 5, .inl c2_1_4)), (9, .inl (cy 0, 20, .inl c5_1_5)), (10, .inl (cy 0, 4, .inl c7_1_6)), (14, .inl (cy 0, 5, .inl d14)), (13, .inl (cy 0, 5, .inl d13)), (12, .inl (cy 0, 5, .inl d12)), (11, .inl (cy 0, 5, .inl d11)), (0, .inr (2, (f0.set 5 (.int 0)))), (16, .inl (cy 0, 3, .inl d16))])) D 17 0 ad g A) [.ref (ad 0), .int (nI n), .int s1, .int mi, .int (nI w), .int (nI la)].toArray s 0 0 A) (F0 m 10 ls []) := by
    intro d_10_12
    induction d_10_12 with
    | zero => intro b le d11 d12 d13 d14 d16 hbw hle mu_10_13; exact absurd mu_10_13 (Nat.not_lt_zero _)
    | succ d_10_12 ih_10_14 =>
      intro b le d11 d12 d13 d14 d16 hbw hle mu_10_13 H locs hO ls hl
      refine lv_iload hx hb dX2_leastOfParty_10 (lv_at hl 0 rfl) ?_
      refine lv_iload hx hb dX2_leastOfParty_12 (lv_at hl 6 rfl) ?_
      refine lv_icmp_gt (tgt := 67) hx hb dX2_leastOfParty_14 (by decide) (fun h_14_15 => ?_) (fun h_14_15 => ?_)
      · have nh_14_15 : w < b := (nI_ltI (by omega) (by omega)).mp h_14_15
        refine lv_iload hx hb dX2_leastOfParty_67 (lv_at hl 1 rfl) ?_
        exact cg_iret (nw := fun _ => 0) hC hr hlk hO.same rfl (Nat.le_of_ble_eq_true rfl) (Nat.le_of_ble_eq_true rfl) (⟨c2_1_4, c5_1_5, c7_1_6, le, d11, d12, d13, d14, d16, hle, rfl, rfl⟩) dX2_leastOfParty_69
      · have nh_14_15 : ¬ w < b := fun z => h_14_15 ((nI_ltI (by omega) (by omega)).mpr z)
        have hB : n * la * b ≤ 3 * 99 * 20 := Nat.mul_le_mul (Nat.mul_le_mul hn hla) (by omega)
        refine lv_aload_n hx hb dX2_leastOfParty_17 rfl (lv_at hl 2 rfl) ?_
        refine lv_iload_n hx hb dX2_leastOfParty_18 rfl (lv_at hl 4 rfl) ?_
        refine lv_iload_n hx hb dX2_leastOfParty_19 rfl (lv_at hl 5 rfl) ?_
        refine lv_iload hx hb dX2_leastOfParty_20 (lv_at hl 0 rfl) ?_
        refine lv_iadd hx hb dX2_leastOfParty_22 ?_
        refine cg_Vi (As := [.int s1, .int (mi + (nI b))]) (rest := []) (mc := 0) (ms := 0) (rm := { frames := 2, cells := 0, slots := 0, locals := 43 }) hC hl.1 hO [0, 4, 11, 12, 13, 14, 5] rfl (c_X2_payOfOneMore l D cy _ _ (f0 := (f0.set 5 (.int 0))) (f6 := f5) (f1 := f4) (c2 := d11) (c3 := d12) (c4 := d13) (c5 := d14) (x1 := s1) (x2 := (mi + (nI b))) rfl (fs_ne (by decide) f0_0) (fs_ne (by decide) f0_3) o4 f4_4 f4_5 f4_6 f4_7 rfl rfl rfl rfl o5 f5_11) gq_c_X2_leastOfParty_c_X2_payOfOneMore_51 rfl rfl rfl 2 (by decide +kernel) ⟨Nat.le_of_ble_eq_true rfl, Nat.le_of_ble_eq_true rfl⟩ rfl (by decide) rfl rfl rfl (Nat.le_of_ble_eq_true rfl) dX2_leastOfParty_23 ⟨Nat.le_of_ble_eq_true rfl, Nat.le_of_ble_eq_true rfl⟩ (fun r_23_18 nw_23_16 l_23_17 H locs hw hO => ?_)
        obtain ⟨cz_23_19, cz_23_20, cz_23_21, cz_23_22, rfl, rfl⟩ := hw
        have hO : cO D cy A s.heap s 17 ad (cup [(8, .inl (cy 0, 5, .inl c2_1_4)), (9, .inl (cy 0, 20, .inl c5_1_5)), (10, .inl (cy 0, 4, .inl c7_1_6)), (14, .inl (cy 0, 5, .inl cz_23_22)), (13, .inl (cy 0, 5, .inl cz_23_21)), (12, .inl (cy 0, 5, .inl cz_23_20)), (11, .inl (cy 0, 5, .inl cz_23_19)), (0, .inr (2, (f0.set 5 (.int 0)))), (16, .inl (cy 0, 3, .inl d16))] g) _ _ := hO
        refine lv_iload_n hx hb dX2_leastOfParty_26 rfl (lv_at hl 3 rfl) ?_
        refine lv_iload hx hb dX2_leastOfParty_27 (lv_at hl 7 rfl) ?_
        refine lv_imul hx hb dX2_leastOfParty_29 ?_
        refine cg_ev (v := (nI (n * la))) (pk_mul n la) ?_
        refine lv_iload hx hb dX2_leastOfParty_30 (lv_at hl 0 rfl) ?_
        refine lv_imul hx hb dX2_leastOfParty_32 ?_
        refine cg_ev (v := (nI ((n * la) * b))) (pk_mul (n * la) b) ?_
        refine lv_iadd hx hb dX2_leastOfParty_33 ?_
        refine cg_ev (v := (nI (0 + ((n * la) * b)))) (nI_add 0 ((n * la) * b)) ?_
        refine lv_istore (lv' := [(8, .int (nI (0 + ((n * la) * b)))), (7, .int (nI b)), (6, .int (nI le)), (0, .ref (ad 0)), (1, .int (nI n)), (2, .int s1), (3, .int mi), (4, .int (nI w)), (5, .int (nI la))]) hx hb dX2_leastOfParty_34 hl (by decide) rfl (fun ls hl => ?_)
        refine lv_iload hx hb dX2_leastOfParty_36 (lv_at hl 1 rfl) ?_
        refine lv_if_eq (tgt := 48) hx hb dX2_leastOfParty_38 (by decide) (fun h_38_23 => ?_) (fun h_38_23 => ?_)
        · have nh_38_23 : b = 0 := (nI_eq (a := b) (b := 0) (by omega) (by omega)).mp h_38_23
          refine lv_iload hx hb dX2_leastOfParty_48 (lv_at hl 0 rfl) ?_
          refine lv_istore (lv' := [(6, .int (nI (0 + ((n * la) * b)))), (8, .int (nI (0 + ((n * la) * b)))), (7, .int (nI b)), (0, .ref (ad 0)), (1, .int (nI n)), (2, .int s1), (3, .int mi), (4, .int (nI w)), (5, .int (nI la))]) hx hb dX2_leastOfParty_50 hl (by decide) rfl (fun ls hl => ?_)
          refine lv_aload_n hx hb dX2_leastOfParty_52 rfl (lv_at hl 3 rfl) ?_
          refine cg_get hC hO 0 (by decide) rfl rfl i_X2 8 (by decide) (List.mem_of_getElem? (i := 55) rfl) (fs_ne (by decide) f0_8) dX2_leastOfParty_53 ?_
          refine lv_iload hx hb dX2_leastOfParty_56 (lv_at hl 2 rfl) ?_
          refine cg_Sv (As := [.ref (ad 16), .int (nI b)]) (rest := []) (mc := 0) (ms := 0) (rm := { frames := 0, cells := 0, slots := 0, locals := 0 }) hC hl.1 hO [16] rfl (c_J7_fill_53178 l D cy _ _ (n := 3) (c0 := d16) (x := (nI b)) rfl (by decide)) gq_c_X2_leastOfParty_c_J7_fill_53178_55 rfl rfl rfl 2 (by decide +kernel) ⟨Nat.le_of_ble_eq_true rfl, Nat.le_of_ble_eq_true rfl⟩ rfl rfl (Nat.le_of_ble_eq_true rfl) dX2_leastOfParty_58 ⟨Nat.le_of_ble_eq_true rfl, Nat.le_of_ble_eq_true rfl⟩ (fun nw_58_24 l_58_25 H locs hw hO => ?_)
          obtain ⟨cz_58_27, rfl⟩ := hw
          have hO : cO D cy A s.heap s 17 ad (cup [(8, .inl (cy 0, 5, .inl c2_1_4)), (9, .inl (cy 0, 20, .inl c5_1_5)), (10, .inl (cy 0, 4, .inl c7_1_6)), (14, .inl (cy 0, 5, .inl cz_23_22)), (13, .inl (cy 0, 5, .inl cz_23_21)), (12, .inl (cy 0, 5, .inl cz_23_20)), (11, .inl (cy 0, 5, .inl cz_23_19)), (0, .inr (2, (f0.set 5 (.int 0)))), (16, .inl (cy 0, 3, .inl cz_58_27))] g) _ _ := hO
          refine lv_iinc (v := (nI (b + 1))) (lv' := [(7, .int (nI (b + 1))), (6, .int (nI (0 + ((n * la) * b)))), (8, .int (nI (0 + ((n * la) * b)))), (0, .ref (ad 0)), (1, .int (nI n)), (2, .int s1), (3, .int mi), (4, .int (nI w)), (5, .int (nI la))]) hx hb dX2_leastOfParty_61 hl (k := 2) rfl (nI_add b 1) (by decide) rfl (fun ls hl => ?_)
          refine lv_goto (tgt := 10) hx hb dX2_leastOfParty_64 (by decide) ?_
          exact ih_10_14 (b + 1) (0 + ((n * la) * b)) cz_23_19 cz_23_20 cz_23_21 cz_23_22 cz_58_27 (by omega) (by simp [nh_38_23]) (by omega) _ _ hO ls (lv_sub hl [0, 1, 3, 4, 5, 6, 7, 8] rfl)
        · have nh_38_23 : ¬ b = 0 := fun z => h_38_23 ((nI_eq (a := b) (b := 0) (by omega) (by omega)).mpr z)
          refine lv_iload hx hb dX2_leastOfParty_41 (lv_at hl 0 rfl) ?_
          refine lv_iload hx hb dX2_leastOfParty_43 (lv_at hl 2 rfl) ?_
          refine lv_icmp_ge (tgt := 61) hx hb dX2_leastOfParty_45 (by decide) (fun _ => ?_) (fun h => (show False from by have z : ¬ le ≤ (0 + ((n * la) * b)) := fun q => h ((nI_leI (a := le) (b := (0 + ((n * la) * b))) (by omega) (by omega)).mpr q); omega).elim)
          refine lv_iinc (v := (nI (b + 1))) (lv' := [(7, .int (nI (b + 1))), (8, .int (nI (0 + ((n * la) * b)))), (6, .int (nI le)), (0, .ref (ad 0)), (1, .int (nI n)), (2, .int s1), (3, .int mi), (4, .int (nI w)), (5, .int (nI la))]) hx hb dX2_leastOfParty_61 hl (k := 1) rfl (nI_add b 1) (by decide) rfl (fun ls hl => ?_)
          refine lv_goto (tgt := 10) hx hb dX2_leastOfParty_64 (by decide) ?_
          exact ih_10_14 (b + 1) le cz_23_19 cz_23_20 cz_23_21 cz_23_22 d16 (by omega) hle (by omega) _ _ hO ls (lv_sub hl [0, 2, 3, 4, 5, 6, 7, 8] rfl)
  exact loop_10_11 ((w + 1) + 1) 0 0 cz_1_7 cz_1_8 cz_1_9 cz_1_10 c16 (by omega) rfl (by omega) _ _ hO ls hl

theorem dX11_party_0 : decode cX11_party 0 = .ok (.aload_n 0, 1) := by decide +kernel
theorem dX11_party_1 : decode cX11_party 1 = .ok (.iconst 0, 1) := by decide +kernel
theorem dX11_party_2 : decode cX11_party 2 = .ok (.putfield 100, 3) := by decide +kernel
theorem dX11_party_5 : decode cX11_party 5 = .ok (.iload_n 1, 1) := by decide +kernel
theorem dX11_party_6 : decode cX11_party 6 = .ok (.iconst 1, 1) := by decide +kernel
theorem dX11_party_7 : decode cX11_party 7 = .ok (.iconst 3, 1) := by decide +kernel
theorem dX11_party_8 : decode cX11_party 8 = .ok (.invokestatic 107, 3) := by decide +kernel
theorem dX11_party_11 : decode cX11_party 11 = .ok (.ifCond .eq 60, 3) := by decide +kernel
theorem dX11_party_14 : decode cX11_party 14 = .ok (.iload_n 2, 1) := by decide +kernel
theorem dX11_party_15 : decode cX11_party 15 = .ok (.iconst 1, 1) := by decide +kernel
theorem dX11_party_16 : decode cX11_party 16 = .ok (.bipush 99, 2) := by decide +kernel
theorem dX11_party_18 : decode cX11_party 18 = .ok (.invokestatic 107, 3) := by decide +kernel
theorem dX11_party_21 : decode cX11_party 21 = .ok (.ifCond .eq 50, 3) := by decide +kernel
theorem dX11_party_24 : decode cX11_party 24 = .ok (.iload_n 3, 1) := by decide +kernel
theorem dX11_party_25 : decode cX11_party 25 = .ok (.iconst 0, 1) := by decide +kernel
theorem dX11_party_26 : decode cX11_party 26 = .ok (.sipush 600, 3) := by decide +kernel
theorem dX11_party_29 : decode cX11_party 29 = .ok (.invokestatic 107, 3) := by decide +kernel
theorem dX11_party_32 : decode cX11_party 32 = .ok (.ifCond .eq 39, 3) := by decide +kernel
theorem dX11_party_35 : decode cX11_party 35 = .ok (.iload 4, 2) := by decide +kernel
theorem dX11_party_37 : decode cX11_party 37 = .ok (.iconst 0, 1) := by decide +kernel
theorem dX11_party_38 : decode cX11_party 38 = .ok (.bipush 20, 2) := by decide +kernel
theorem dX11_party_40 : decode cX11_party 40 = .ok (.invokestatic 107, 3) := by decide +kernel
theorem dX11_party_43 : decode cX11_party 43 = .ok (.ifCond .eq 28, 3) := by decide +kernel
theorem dX11_party_46 : decode cX11_party 46 = .ok (.iload 5, 2) := by decide +kernel
theorem dX11_party_48 : decode cX11_party 48 = .ok (.iconst 0, 1) := by decide +kernel
theorem dX11_party_49 : decode cX11_party 49 = .ok (.bipush 99, 2) := by decide +kernel
theorem dX11_party_51 : decode cX11_party 51 = .ok (.invokestatic 107, 3) := by decide +kernel
theorem dX11_party_54 : decode cX11_party 54 = .ok (.ifCond .eq 17, 3) := by decide +kernel
theorem dX11_party_57 : decode cX11_party 57 = .ok (.aload_n 0, 1) := by decide +kernel
theorem dX11_party_58 : decode cX11_party 58 = .ok (.getfield 37, 3) := by decide +kernel
theorem dX11_party_61 : decode cX11_party 61 = .ok (.getfield 49, 3) := by decide +kernel
theorem dX11_party_64 : decode cX11_party 64 = .ok (.iload_n 1, 1) := by decide +kernel
theorem dX11_party_65 : decode cX11_party 65 = .ok (.iadd, 1) := by decide +kernel
theorem dX11_party_66 : decode cX11_party 66 = .ok (.bipush 24, 2) := by decide +kernel
theorem dX11_party_68 : decode cX11_party 68 = .ok (.if_icmp .le 5, 3) := by decide +kernel
theorem dX11_party_71 : decode cX11_party 71 = .ok (.iconst (-1), 1) := by decide +kernel
theorem dX11_party_72 : decode cX11_party 72 = .ok (.ireturn, 1) := by decide +kernel
theorem dX11_party_73 : decode cX11_party 73 = .ok (.aload_n 0, 1) := by decide +kernel
theorem dX11_party_74 : decode cX11_party 74 = .ok (.getfield 79, 3) := by decide +kernel
theorem dX11_party_77 : decode cX11_party 77 = .ok (.iload_n 1, 1) := by decide +kernel
theorem dX11_party_78 : decode cX11_party 78 = .ok (.iload_n 2, 1) := by decide +kernel
theorem dX11_party_79 : decode cX11_party 79 = .ok (.iload_n 3, 1) := by decide +kernel
theorem dX11_party_80 : decode cX11_party 80 = .ok (.iload 4, 2) := by decide +kernel
theorem dX11_party_82 : decode cX11_party 82 = .ok (.iload 5, 2) := by decide +kernel
theorem dX11_party_84 : decode cX11_party 84 = .ok (.invokevirtual 217, 3) := by decide +kernel
theorem dX11_party_87 : decode cX11_party 87 = .ok (.istore 6, 2) := by decide +kernel
theorem dX11_party_89 : decode cX11_party 89 = .ok (.aload_n 0, 1) := by decide +kernel
theorem dX11_party_90 : decode cX11_party 90 = .ok (.aload_n 0, 1) := by decide +kernel
theorem dX11_party_91 : decode cX11_party 91 = .ok (.getfield 79, 3) := by decide +kernel
theorem dX11_party_94 : decode cX11_party 94 = .ok (.getfield 221, 3) := by decide +kernel
theorem dX11_party_97 : decode cX11_party 97 = .ok (.iload_n 1, 1) := by decide +kernel
theorem dX11_party_98 : decode cX11_party 98 = .ok (.invokevirtual 224, 3) := by decide +kernel
theorem dX11_party_101 : decode cX11_party 101 = .ok (.iload 6, 2) := by decide +kernel
theorem dX11_party_103 : decode cX11_party 103 = .ok (.ireturn, 1) := by decide +kernel
def wq_c_X11_party : List Cond := Cond.code yX11_party cX11_party 7 (some .int) :: (([Cond.fieldLink RX11 100 "CrowToll" "lyingThere" "I", Cond.methodLink RX11 107 yX11_within, Cond.static yX11_within, Cond.initialized RX11, Cond.code yX11_within cX11_within 3 (some .boolean), Cond.fieldLink RX11 37 "CrowToll" "stand" "LCrowToll$Stand;", Cond.fieldLink RX11 49 "CrowToll$Stand" "carts" "I", Cond.fieldLink RX11 79 "CrowToll" "drivers" "LCrowToll$Drivers;", Cond.methodLink RX11 217 yX2_leastOfParty, Cond.instanceMethod yX2_leastOfParty, Cond.selects RX2 yX2_leastOfParty yX2_leastOfParty, Cond.initialized RX2, Cond.code yX2_leastOfParty cX2_leastOfParty 9 (some .int), Cond.methodLink RX2 48 yX2_putInOrder, Cond.instanceMethod yX2_putInOrder, Cond.selects RX2 yX2_putInOrder yX2_putInOrder, Cond.code yX2_putInOrder cX2_putInOrder 1 none, Cond.fieldLink RX2 31 "CrowToll$Drivers" "stand" "LCrowToll$Stand;", Cond.fieldLink RX2 9 "CrowToll$Drivers" "order" "[I", Cond.methodLink RX2 65 yX9_coming, Cond.instanceMethod yX9_coming, Cond.selects RX9 yX9_coming yX9_coming, Cond.initialized RX9, Cond.code yX9_coming cX9_coming 4 (some .int), Cond.fieldLink RX9 21 "CrowToll$Stand" "carts" "I", Cond.fieldLink RX2 71 "CrowToll$Drivers" "going" "I", Cond.fieldLink RX2 74 "CrowToll$Stand" "minute" "[I", Cond.code yX11_putByMinutes cX11_putByMinutes 6 none, Cond.static yX11_putByMinutes, Cond.fieldLink RX2 44 "CrowToll$Drivers" "watch" "LCrowToll$Watch;", Cond.fieldLink RX2 81 "CrowToll$Stand" "counts" "[I", Cond.methodLink RX2 84 yX10_sit, Cond.instanceMethod yX10_sit, Cond.selects RX10 yX10_sit yX10_sit, Cond.initialized RX10, Cond.code yX10_sit cX10_sit 2 none, Cond.fieldLink RX10 9 "CrowToll$Watch" "limit" "[I", Cond.methodLink RX10 37 arraycopyName, Cond.native arraycopyName, Cond.static arraycopyName, Cond.initialized "java/lang/System", Cond.fieldLink RX10 33 "CrowToll$Watch" "road" "LCrowToll$Road;", Cond.fieldLink RX10 43 "CrowToll$Road" "seat" "[I", Cond.fieldLink RX10 15 "CrowToll$Watch" "seat" "[I", Cond.fieldLink RX10 46 "CrowToll$Road" "seated" "[I", Cond.fieldLink RX10 18 "CrowToll$Watch" "seated" "[I", Cond.methodLink RX10 47 yX10_begin, Cond.instanceMethod yX10_begin, Cond.selects RX10 yX10_begin yX10_begin, Cond.code yX10_begin cX10_begin 1 none, Cond.fieldLink RX10 21 "CrowToll$Watch" "count" "[I", Cond.methodLink RX10 54 yJ7_fill_53178, Cond.static yJ7_fill_53178, Cond.initialized RJ7, Cond.code yJ7_fill_53178 cJ7_fill_53178 4 none, Cond.fieldLink RX10 24 "CrowToll$Watch" "total" "[I", Cond.fieldLink RX10 27 "CrowToll$Watch" "lookedAt" "[I", Cond.fieldLink RX10 30 "CrowToll$Watch" "countedAt" "[I", Cond.methodLink RX2 51 yX2_payOfOneMore, Cond.instanceMethod yX2_payOfOneMore, Cond.selects RX2 yX2_payOfOneMore yX2_payOfOneMore, Cond.code yX2_payOfOneMore cX2_payOfOneMore 6 (some .int), Cond.methodLink RX2 88 yX10_begin, Cond.fieldLink RX2 27 "CrowToll$Drivers" "road" "LCrowToll$Road;", Cond.fieldLink RX2 91 "CrowToll$Road" "posts" "I", Cond.fieldLink RX2 21 "CrowToll$Drivers" "chosen" "[I", Cond.methodLink RX2 55 yJ7_fill_53178, Cond.fieldLink RX11 221 "CrowToll$Drivers" "chosen" "[I", Cond.methodLink RX11 224 yX11_layThere, Cond.instanceMethod yX11_layThere, Cond.selects RX11 yX11_layThere yX11_layThere, Cond.code yX11_layThere cX11_layThere 3 none, Cond.fieldLink RX11 97 "CrowToll" "lying" "[I", Cond.methodLink RX11 297 Lib.Math.min.name, Cond.static Lib.Math.min.name, Cond.initialized "java/lang/Math", Cond.code Lib.Math.min.name Lib.Math.min.code 2 (some .int), Cond.methodLink RX11 302 arraycopyName] : List Cond) ++ wsX20 ++ wsX70 ++ wsX90 ++ wsX100 ++ wsX110)
set_option maxRecDepth 20000 in
theorem gr_c_X11_party_c_X11_within : GoodIn wq_c_X11_party wq_c_X11_within := List.forall_mem_cons.mpr ⟨⟨(List.mem_of_getElem? (i := 5) rfl), good_of_word rfl⟩, (fun _ h => absurd h List.not_mem_nil)⟩
set_option maxRecDepth 20000 in
theorem gq_c_X11_party_c_X11_within_107 : GoodIn wq_c_X11_party (va_wsS RX11 107 yX11_within wq_c_X11_within) := goodIn_app (List.forall_mem_cons.mpr ⟨⟨(List.mem_of_getElem? (i := 2) rfl), good_of_word rfl⟩, List.forall_mem_cons.mpr ⟨⟨(List.mem_of_getElem? (i := 3) rfl), good_of_word rfl⟩, List.forall_mem_cons.mpr ⟨⟨(List.mem_of_getElem? (i := 4) rfl), good_of_word rfl⟩, (fun _ h => absurd h List.not_mem_nil)⟩⟩⟩) gr_c_X11_party_c_X11_within
set_option maxRecDepth 20000 in
theorem gr_c_X11_party_c_X2_leastOfParty : GoodIn wq_c_X11_party wq_c_X2_leastOfParty := List.forall_mem_cons.mpr ⟨⟨(List.mem_of_getElem? (i := 13) rfl), good_of_word rfl⟩, List.forall_mem_append.mpr ⟨List.forall_mem_append.mpr ⟨List.forall_mem_append.mpr ⟨List.forall_mem_append.mpr ⟨List.forall_mem_cons.mpr ⟨⟨(List.mem_of_getElem? (i := 14) rfl), good_of_word rfl⟩, List.forall_mem_cons.mpr ⟨⟨(List.mem_of_getElem? (i := 15) rfl), good_of_word rfl⟩, List.forall_mem_cons.mpr ⟨⟨(List.mem_of_getElem? (i := 16) rfl), good_of_word rfl⟩, List.forall_mem_cons.mpr ⟨⟨(List.mem_of_getElem? (i := 12) rfl), good_of_word rfl⟩, List.forall_mem_cons.mpr ⟨⟨(List.mem_of_getElem? (i := 17) rfl), good_of_word rfl⟩, List.forall_mem_cons.mpr ⟨⟨(List.mem_of_getElem? (i := 18) rfl), good_of_word rfl⟩, List.forall_mem_cons.mpr ⟨⟨(List.mem_of_getElem? (i := 19) rfl), good_of_word rfl⟩, List.forall_mem_cons.mpr ⟨⟨(List.mem_of_getElem? (i := 20) rfl), good_of_word rfl⟩, List.forall_mem_cons.mpr ⟨⟨(List.mem_of_getElem? (i := 21) rfl), good_of_word rfl⟩, List.forall_mem_cons.mpr ⟨⟨(List.mem_of_getElem? (i := 22) rfl), good_of_word rfl⟩, List.forall_mem_cons.mpr ⟨⟨(List.mem_of_getElem? (i := 23) rfl), good_of_word rfl⟩, List.forall_mem_cons.mpr ⟨⟨(List.mem_of_getElem? (i := 24) rfl), good_of_word rfl⟩, List.forall_mem_cons.mpr ⟨⟨(List.mem_of_getElem? (i := 25) rfl), good_of_word rfl⟩, List.forall_mem_cons.mpr ⟨⟨(List.mem_of_getElem? (i := 26) rfl), good_of_word rfl⟩, List.forall_mem_cons.mpr ⟨⟨(List.mem_of_getElem? (i := 27) rfl), good_of_word rfl⟩, List.forall_mem_cons.mpr ⟨⟨(List.mem_of_getElem? (i := 28) rfl), good_of_word rfl⟩, List.forall_mem_cons.mpr ⟨⟨(List.mem_of_getElem? (i := 29) rfl), good_of_word rfl⟩, List.forall_mem_cons.mpr ⟨⟨(List.mem_of_getElem? (i := 4) rfl), good_of_word rfl⟩, List.forall_mem_cons.mpr ⟨⟨(List.mem_of_getElem? (i := 30) rfl), good_of_word rfl⟩, List.forall_mem_cons.mpr ⟨⟨(List.mem_of_getElem? (i := 31) rfl), good_of_word rfl⟩, List.forall_mem_cons.mpr ⟨⟨(List.mem_of_getElem? (i := 32) rfl), good_of_word rfl⟩, List.forall_mem_cons.mpr ⟨⟨(List.mem_of_getElem? (i := 33) rfl), good_of_word rfl⟩, List.forall_mem_cons.mpr ⟨⟨(List.mem_of_getElem? (i := 34) rfl), good_of_word rfl⟩, List.forall_mem_cons.mpr ⟨⟨(List.mem_of_getElem? (i := 35) rfl), good_of_word rfl⟩, List.forall_mem_cons.mpr ⟨⟨(List.mem_of_getElem? (i := 36) rfl), good_of_word rfl⟩, List.forall_mem_cons.mpr ⟨⟨(List.mem_of_getElem? (i := 37) rfl), good_of_word rfl⟩, List.forall_mem_cons.mpr ⟨⟨(List.mem_of_getElem? (i := 38) rfl), good_of_word rfl⟩, List.forall_mem_cons.mpr ⟨⟨(List.mem_of_getElem? (i := 39) rfl), good_of_word rfl⟩, List.forall_mem_cons.mpr ⟨⟨(List.mem_of_getElem? (i := 40) rfl), good_of_word rfl⟩, List.forall_mem_cons.mpr ⟨⟨(List.mem_of_getElem? (i := 41) rfl), good_of_word rfl⟩, List.forall_mem_cons.mpr ⟨⟨(List.mem_of_getElem? (i := 42) rfl), good_of_word rfl⟩, List.forall_mem_cons.mpr ⟨⟨(List.mem_of_getElem? (i := 43) rfl), good_of_word rfl⟩, List.forall_mem_cons.mpr ⟨⟨(List.mem_of_getElem? (i := 44) rfl), good_of_word rfl⟩, List.forall_mem_cons.mpr ⟨⟨(List.mem_of_getElem? (i := 45) rfl), good_of_word rfl⟩, List.forall_mem_cons.mpr ⟨⟨(List.mem_of_getElem? (i := 46) rfl), good_of_word rfl⟩, List.forall_mem_cons.mpr ⟨⟨(List.mem_of_getElem? (i := 47) rfl), good_of_word rfl⟩, List.forall_mem_cons.mpr ⟨⟨(List.mem_of_getElem? (i := 48) rfl), good_of_word rfl⟩, List.forall_mem_cons.mpr ⟨⟨(List.mem_of_getElem? (i := 49) rfl), good_of_word rfl⟩, List.forall_mem_cons.mpr ⟨⟨(List.mem_of_getElem? (i := 50) rfl), good_of_word rfl⟩, List.forall_mem_cons.mpr ⟨⟨(List.mem_of_getElem? (i := 51) rfl), good_of_word rfl⟩, List.forall_mem_cons.mpr ⟨⟨(List.mem_of_getElem? (i := 52) rfl), good_of_word rfl⟩, List.forall_mem_cons.mpr ⟨⟨(List.mem_of_getElem? (i := 53) rfl), good_of_word rfl⟩, List.forall_mem_cons.mpr ⟨⟨(List.mem_of_getElem? (i := 54) rfl), good_of_word rfl⟩, List.forall_mem_cons.mpr ⟨⟨(List.mem_of_getElem? (i := 55) rfl), good_of_word rfl⟩, List.forall_mem_cons.mpr ⟨⟨(List.mem_of_getElem? (i := 56) rfl), good_of_word rfl⟩, List.forall_mem_cons.mpr ⟨⟨(List.mem_of_getElem? (i := 57) rfl), good_of_word rfl⟩, List.forall_mem_cons.mpr ⟨⟨(List.mem_of_getElem? (i := 58) rfl), good_of_word rfl⟩, List.forall_mem_cons.mpr ⟨⟨(List.mem_of_getElem? (i := 59) rfl), good_of_word rfl⟩, List.forall_mem_cons.mpr ⟨⟨(List.mem_of_getElem? (i := 60) rfl), good_of_word rfl⟩, List.forall_mem_cons.mpr ⟨⟨(List.mem_of_getElem? (i := 61) rfl), good_of_word rfl⟩, List.forall_mem_cons.mpr ⟨⟨(List.mem_of_getElem? (i := 62) rfl), good_of_word rfl⟩, List.forall_mem_cons.mpr ⟨⟨(List.mem_of_getElem? (i := 63) rfl), good_of_word rfl⟩, List.forall_mem_cons.mpr ⟨⟨(List.mem_of_getElem? (i := 64) rfl), good_of_word rfl⟩, List.forall_mem_cons.mpr ⟨⟨(List.mem_of_getElem? (i := 65) rfl), good_of_word rfl⟩, List.forall_mem_cons.mpr ⟨⟨(List.mem_of_getElem? (i := 66) rfl), good_of_word rfl⟩, List.forall_mem_cons.mpr ⟨⟨(List.mem_of_getElem? (i := 67) rfl), good_of_word rfl⟩, (fun _ h => absurd h List.not_mem_nil)⟩⟩⟩⟩⟩⟩⟩⟩⟩⟩⟩⟩⟩⟩⟩⟩⟩⟩⟩⟩⟩⟩⟩⟩⟩⟩⟩⟩⟩⟩⟩⟩⟩⟩⟩⟩⟩⟩⟩⟩⟩⟩⟩⟩⟩⟩⟩⟩⟩⟩⟩⟩⟩⟩⟩⟩, fun w h => ⟨(fun w h => List.mem_cons_of_mem _ (List.mem_append_left _ (List.mem_append_left _ (List.mem_append_left _ (List.mem_append_left _ (List.mem_append_right _ h)))))) w h, good_of_word (List.all_eq_true.mp gw_X2 w h)⟩⟩, fun w h => ⟨(fun w h => List.mem_cons_of_mem _ (List.mem_append_left _ (List.mem_append_left _ (List.mem_append_left _ (List.mem_append_right _ h))))) w h, good_of_word (List.all_eq_true.mp gw_X7 w h)⟩⟩, fun w h => ⟨(fun w h => List.mem_cons_of_mem _ (List.mem_append_left _ (List.mem_append_left _ (List.mem_append_right _ h)))) w h, good_of_word (List.all_eq_true.mp gw_X9 w h)⟩⟩, fun w h => ⟨(fun w h => List.mem_cons_of_mem _ (List.mem_append_left _ (List.mem_append_right _ h))) w h, good_of_word (List.all_eq_true.mp gw_X10 w h)⟩⟩⟩
set_option maxRecDepth 20000 in
theorem gq_c_X11_party_c_X2_leastOfParty_217 : GoodIn wq_c_X11_party (wsV RX11 217 RX2 yX2_leastOfParty wq_c_X2_leastOfParty) := goodIn_app (List.forall_mem_cons.mpr ⟨⟨(List.mem_of_getElem? (i := 9) rfl), good_of_word rfl⟩, List.forall_mem_cons.mpr ⟨⟨(List.mem_of_getElem? (i := 10) rfl), good_of_word rfl⟩, List.forall_mem_cons.mpr ⟨⟨(List.mem_of_getElem? (i := 11) rfl), good_of_word rfl⟩, List.forall_mem_cons.mpr ⟨⟨(List.mem_of_getElem? (i := 12) rfl), good_of_word rfl⟩, (fun _ h => absurd h List.not_mem_nil)⟩⟩⟩⟩) gr_c_X11_party_c_X2_leastOfParty
set_option maxRecDepth 20000 in
theorem gr_c_X11_party_c_X11_layThere : GoodIn wq_c_X11_party wq_c_X11_layThere := List.forall_mem_cons.mpr ⟨⟨(List.mem_of_getElem? (i := 72) rfl), good_of_word rfl⟩, List.forall_mem_append.mpr ⟨List.forall_mem_cons.mpr ⟨⟨(List.mem_of_getElem? (i := 73) rfl), good_of_word rfl⟩, List.forall_mem_cons.mpr ⟨⟨(List.mem_of_getElem? (i := 74) rfl), good_of_word rfl⟩, List.forall_mem_cons.mpr ⟨⟨(List.mem_of_getElem? (i := 75) rfl), good_of_word rfl⟩, List.forall_mem_cons.mpr ⟨⟨(List.mem_of_getElem? (i := 76) rfl), good_of_word rfl⟩, List.forall_mem_cons.mpr ⟨⟨(List.mem_of_getElem? (i := 77) rfl), good_of_word rfl⟩, List.forall_mem_cons.mpr ⟨⟨(List.mem_of_getElem? (i := 1) rfl), good_of_word rfl⟩, List.forall_mem_cons.mpr ⟨⟨(List.mem_of_getElem? (i := 78) rfl), good_of_word rfl⟩, List.forall_mem_cons.mpr ⟨⟨(List.mem_of_getElem? (i := 39) rfl), good_of_word rfl⟩, List.forall_mem_cons.mpr ⟨⟨(List.mem_of_getElem? (i := 40) rfl), good_of_word rfl⟩, List.forall_mem_cons.mpr ⟨⟨(List.mem_of_getElem? (i := 41) rfl), good_of_word rfl⟩, (fun _ h => absurd h List.not_mem_nil)⟩⟩⟩⟩⟩⟩⟩⟩⟩⟩, fun w h => ⟨(fun w h => List.mem_cons_of_mem _ (List.mem_append_right _ h)) w h, good_of_word (List.all_eq_true.mp gw_X11 w h)⟩⟩⟩
set_option maxRecDepth 20000 in
theorem gq_c_X11_party_c_X11_layThere_224 : GoodIn wq_c_X11_party (wsV RX11 224 RX11 yX11_layThere wq_c_X11_layThere) := goodIn_app (List.forall_mem_cons.mpr ⟨⟨(List.mem_of_getElem? (i := 69) rfl), good_of_word rfl⟩, List.forall_mem_cons.mpr ⟨⟨(List.mem_of_getElem? (i := 70) rfl), good_of_word rfl⟩, List.forall_mem_cons.mpr ⟨⟨(List.mem_of_getElem? (i := 71) rfl), good_of_word rfl⟩, List.forall_mem_cons.mpr ⟨⟨(List.mem_of_getElem? (i := 4) rfl), good_of_word rfl⟩, (fun _ h => absurd h List.not_mem_nil)⟩⟩⟩⟩) gr_c_X11_party_c_X11_layThere
set_option maxHeartbeats 8000000 in
set_option maxRecDepth 100000 in
theorem c_X11_party (l : Launch) (D : va_G) (cy : Nat → ClassId) (ad : Nat → Nat) (g : Nat → va_E) {f0 : List Value} {f1 : List Value} {f2 : List Value} {f3 : List Value} {c4 : Nat → Int32} {c5 : Nat → Int32} {c6 : Nat → Int32} {c7 : Nat → Int32} {f8 : List Value} {c9 : Nat → Int32} {c10 : Nat → Int32} {c11 : Nat → Int32} {c12 : Nat → Int32} {c13 : Nat → Int32} {c14 : Nat → Int32} {c15 : Nat → Int32} {c16 : Nat → Int32} {c17 : Nat → Int32} {c18 : Nat → Int32} {x1 : Int32} {x2 : Int32} {x3 : Int32} {x4 : Int32} {x5 : Int32} (o0 : g 0 = .inr (11, f0)) (f0_4 : f0[4]? = some (.ref (ad 1))) (f0_9 : f0[9]? = some (.ref (ad 2))) (f0_12 : f0[12]? = some (.ref (ad 18))) (f0_13 : f0[13]? = some (.int 0)) (o1 : g 1 = .inr (9, f1)) (f1_0 : f1[0]? = some (.ref (ad 6))) (f1_3 : f1[3]? = some (.ref (ad 7))) (f1_4 : f1[4]? = some (.int 0)) (o2 : g 2 = .inr (2, f2)) (f2_0 : f2[0]? = some (.ref (ad 3))) (f2_1 : f2[1]? = some (.ref (ad 1))) (f2_3 : f2[3]? = some (.ref (ad 8))) (f2_4 : f2[4]? = some (.ref (ad 16))) (f2_5 : f2[5]? = some (.int 0)) (f2_8 : f2[8]? = some (.ref (ad 17))) (o3 : g 3 = .inr (7, f3)) (f3_9 : f3[9]? = some (.ref (ad 4))) (f3_10 : f3[10]? = some (.ref (ad 5))) (f3_11 : f3[11]? = some (.int 0)) (a4 : g 4 = .inl (cy 0, 20, .inl c4)) (a5 : g 5 = .inl (cy 0, 4, .inl c5)) (a6 : g 6 = .inl (cy 0, 24, .inl c6)) (a7 : g 7 = .inl (cy 0, 5, .inl c7)) (o8 : g 8 = .inr (10, f8)) (f8_0 : f8[0]? = some (.ref (ad 3))) (f8_1 : f8[1]? = some (.ref (ad 9))) (f8_2 : f8[2]? = some (.ref (ad 10))) (f8_3 : f8[3]? = some (.ref (ad 11))) (f8_4 : f8[4]? = some (.ref (ad 12))) (f8_5 : f8[5]? = some (.ref (ad 13))) (f8_6 : f8[6]? = some (.ref (ad 14))) (f8_7 : f8[7]? = some (.ref (ad 15))) (a9 : g 9 = .inl (cy 0, 5, .inl c9)) (a10 : g 10 = .inl (cy 0, 20, .inl c10)) (a11 : g 11 = .inl (cy 0, 4, .inl c11)) (a12 : g 12 = .inl (cy 0, 5, .inl c12)) (a13 : g 13 = .inl (cy 0, 5, .inl c13)) (a14 : g 14 = .inl (cy 0, 5, .inl c14)) (a15 : g 15 = .inl (cy 0, 5, .inl c15)) (a16 : g 16 = .inl (cy 0, 24, .inl c16)) (a17 : g 17 = .inl (cy 0, 3, .inl c17)) (a18 : g 18 = .inl (cy 0, 24, .inl c18)) : cMi l yX11_party wq_c_X11_party { frames := 5, cells := 0, slots := 0, locals := 129 } 19 0 0 0 D cy ad g [.ref (ad 0), .int x1, .int x2, .int x3, .int x4, .int x5] (fun r nw lu => r = ans_party x1 x2 x3 x4 x5) := by
  refine cM_of (Qc := fun A => cQi (fun r nw lu => r = ans_party x1 x2 x3 x4 x5) D 19 0 ad g A) (cc := cX11_party) (maxL := 7) (ret := (some .int)) (by decide) rfl (Nat.le_of_ble_eq_true rfl) ?_
  intro p e s m below meth c A hC hr hlk hnm hO ls hl
  have hC : CallFix p m c cX11_party 7 s [.ref (ad 0), .int x1, .int x2, .int x3, .int x4, .int x5].toArray wq_c_X11_party RX11 := hC
  obtain ⟨hx, hb, hml, hown, hts⟩ := id hC
  have hl : lv_has ls 7 [(0, .ref (ad 0)), (1, .int x1), (2, .int x2), (3, .int x3), (4, .int x4), (5, .int x5)] := hl
  have i_X10 : ∀ w ∈ wsX100, w ∈ wq_c_X11_party := fun w h => List.mem_cons_of_mem _ (List.mem_append_left _ (List.mem_append_right _ h))
  have i_X11 : ∀ w ∈ wsX110, w ∈ wq_c_X11_party := fun w h => List.mem_cons_of_mem _ (List.mem_append_right _ h)
  have i_X2 : ∀ w ∈ wsX20, w ∈ wq_c_X11_party := fun w h => List.mem_cons_of_mem _ (List.mem_append_left _ (List.mem_append_left _ (List.mem_append_left _ (List.mem_append_left _ (List.mem_append_right _ h)))))
  have i_X7 : ∀ w ∈ wsX70, w ∈ wq_c_X11_party := fun w h => List.mem_cons_of_mem _ (List.mem_append_left _ (List.mem_append_left _ (List.mem_append_left _ (List.mem_append_right _ h))))
  have i_X9 : ∀ w ∈ wsX90, w ∈ wq_c_X11_party := fun w h => List.mem_cons_of_mem _ (List.mem_append_left _ (List.mem_append_left _ (List.mem_append_right _ h)))
  refine lv_aload_n hx hb dX11_party_0 rfl (lv_at hl 0 rfl) ?_
  refine lv_iconst (v := 0) hx hb dX11_party_1 (by decide) ?_
  refine cg_put hC hO 0 (by decide) o0 rfl i_X11 tyX11_ok nmX11 13 (by decide) (List.mem_of_getElem? (i := 1) rfl) rfl rfl rfl (fs_lt f0_13) dX11_party_2 (fun H locs hO => ?_)
  have hO : cO D cy A s.heap s 19 ad (cup [(0, .inr (11, (f0.set 13 (.int 0))))] g) _ _ := hO
  refine lv_iload_n hx hb dX11_party_5 rfl (lv_at hl 1 rfl) ?_
  refine lv_iconst (v := 1) hx hb dX11_party_6 (by decide) ?_
  refine lv_iconst (v := 3) hx hb dX11_party_7 (by decide) ?_
  refine cg_Si (As := [.int x1, .int 1, .int 3]) (rest := []) (mc := 0) (ms := 0) (rm := { frames := 0, cells := 0, slots := 0, locals := 0 }) hC hl.1 hO [] rfl (c_X11_within l D cy _ _ (x := x1) (y := 1) (z := 3) ) gq_c_X11_party_c_X11_within_107 rfl rfl rfl 3 (by decide +kernel) ⟨Nat.le_of_ble_eq_true rfl, Nat.le_of_ble_eq_true rfl⟩ rfl rfl (Nat.le_of_ble_eq_true rfl) dX11_party_8 ⟨Nat.le_of_ble_eq_true rfl, Nat.le_of_ble_eq_true rfl⟩ (fun r_8_3 nw_8_1 l_8_2 H locs hw hO => ?_)
  rcases hw with hw | hw
  · obtain ⟨hr_8_4, rfl, rfl⟩ := hw
    have hO : cO D cy A s.heap s 19 ad (cup [(0, .inr (11, (f0.set 13 (.int 0))))] g) _ _ := hO
    refine lv_if_eq (tgt := 71) hx hb dX11_party_11 (by decide) (fun h => absurd h (by decide)) (fun _ => ?_)
    refine lv_iload_n hx hb dX11_party_14 rfl (lv_at hl 2 rfl) ?_
    refine lv_iconst (v := 1) hx hb dX11_party_15 (by decide) ?_
    refine lv_bipush (v := 99) hx hb dX11_party_16 (by decide) ?_
    refine cg_Si (As := [.int x2, .int 1, .int 99]) (rest := []) (mc := 0) (ms := 0) (rm := { frames := 0, cells := 0, slots := 0, locals := 0 }) hC hl.1 hO [] rfl (c_X11_within l D cy _ _ (x := x2) (y := 1) (z := 99) ) gq_c_X11_party_c_X11_within_107 rfl rfl rfl 3 (by decide +kernel) ⟨Nat.le_of_ble_eq_true rfl, Nat.le_of_ble_eq_true rfl⟩ rfl rfl (Nat.le_of_ble_eq_true rfl) dX11_party_18 ⟨Nat.le_of_ble_eq_true rfl, Nat.le_of_ble_eq_true rfl⟩ (fun r_18_7 nw_18_5 l_18_6 H locs hw hO => ?_)
    rcases hw with hw | hw
    · obtain ⟨hr_18_8, rfl, rfl⟩ := hw
      have hO : cO D cy A s.heap s 19 ad (cup [(0, .inr (11, (f0.set 13 (.int 0))))] g) _ _ := hO
      refine lv_if_eq (tgt := 71) hx hb dX11_party_21 (by decide) (fun h => absurd h (by decide)) (fun _ => ?_)
      refine lv_iload_n hx hb dX11_party_24 rfl (lv_at hl 3 rfl) ?_
      refine lv_iconst (v := 0) hx hb dX11_party_25 (by decide) ?_
      refine lv_sipush (v := 600) hx hb dX11_party_26 (by decide) ?_
      refine cg_Si (As := [.int x3, .int 0, .int 600]) (rest := []) (mc := 0) (ms := 0) (rm := { frames := 0, cells := 0, slots := 0, locals := 0 }) hC hl.1 hO [] rfl (c_X11_within l D cy _ _ (x := x3) (y := 0) (z := 600) ) gq_c_X11_party_c_X11_within_107 rfl rfl rfl 3 (by decide +kernel) ⟨Nat.le_of_ble_eq_true rfl, Nat.le_of_ble_eq_true rfl⟩ rfl rfl (Nat.le_of_ble_eq_true rfl) dX11_party_29 ⟨Nat.le_of_ble_eq_true rfl, Nat.le_of_ble_eq_true rfl⟩ (fun r_29_11 nw_29_9 l_29_10 H locs hw hO => ?_)
      rcases hw with hw | hw
      · obtain ⟨hr_29_12, rfl, rfl⟩ := hw
        have hO : cO D cy A s.heap s 19 ad (cup [(0, .inr (11, (f0.set 13 (.int 0))))] g) _ _ := hO
        refine lv_if_eq (tgt := 71) hx hb dX11_party_32 (by decide) (fun h => absurd h (by decide)) (fun _ => ?_)
        refine lv_iload hx hb dX11_party_35 (lv_at hl 4 rfl) ?_
        refine lv_iconst (v := 0) hx hb dX11_party_37 (by decide) ?_
        refine lv_bipush (v := 20) hx hb dX11_party_38 (by decide) ?_
        refine cg_Si (As := [.int x4, .int 0, .int 20]) (rest := []) (mc := 0) (ms := 0) (rm := { frames := 0, cells := 0, slots := 0, locals := 0 }) hC hl.1 hO [] rfl (c_X11_within l D cy _ _ (x := x4) (y := 0) (z := 20) ) gq_c_X11_party_c_X11_within_107 rfl rfl rfl 3 (by decide +kernel) ⟨Nat.le_of_ble_eq_true rfl, Nat.le_of_ble_eq_true rfl⟩ rfl rfl (Nat.le_of_ble_eq_true rfl) dX11_party_40 ⟨Nat.le_of_ble_eq_true rfl, Nat.le_of_ble_eq_true rfl⟩ (fun r_40_15 nw_40_13 l_40_14 H locs hw hO => ?_)
        rcases hw with hw | hw
        · obtain ⟨hr_40_16, rfl, rfl⟩ := hw
          have hO : cO D cy A s.heap s 19 ad (cup [(0, .inr (11, (f0.set 13 (.int 0))))] g) _ _ := hO
          refine lv_if_eq (tgt := 71) hx hb dX11_party_43 (by decide) (fun h => absurd h (by decide)) (fun _ => ?_)
          refine lv_iload hx hb dX11_party_46 (lv_at hl 5 rfl) ?_
          refine lv_iconst (v := 0) hx hb dX11_party_48 (by decide) ?_
          refine lv_bipush (v := 99) hx hb dX11_party_49 (by decide) ?_
          refine cg_Si (As := [.int x5, .int 0, .int 99]) (rest := []) (mc := 0) (ms := 0) (rm := { frames := 0, cells := 0, slots := 0, locals := 0 }) hC hl.1 hO [] rfl (c_X11_within l D cy _ _ (x := x5) (y := 0) (z := 99) ) gq_c_X11_party_c_X11_within_107 rfl rfl rfl 3 (by decide +kernel) ⟨Nat.le_of_ble_eq_true rfl, Nat.le_of_ble_eq_true rfl⟩ rfl rfl (Nat.le_of_ble_eq_true rfl) dX11_party_51 ⟨Nat.le_of_ble_eq_true rfl, Nat.le_of_ble_eq_true rfl⟩ (fun r_51_19 nw_51_17 l_51_18 H locs hw hO => ?_)
          rcases hw with hw | hw
          · obtain ⟨hr_51_20, rfl, rfl⟩ := hw
            have hO : cO D cy A s.heap s 19 ad (cup [(0, .inr (11, (f0.set 13 (.int 0))))] g) _ _ := hO
            refine lv_if_eq (tgt := 71) hx hb dX11_party_54 (by decide) (fun h => absurd h (by decide)) (fun _ => ?_)
            obtain ⟨x1_n, hx1_n, rfl⟩ := rng_nat (n := 3) hr_8_4 (by decide) rfl
            obtain ⟨x4_n, hx4_n, rfl⟩ := rng_nat (n := 20) hr_40_16 (by decide) rfl
            obtain ⟨x5_n, hx5_n, rfl⟩ := rng_nat (n := 99) hr_51_20 (by decide) rfl
            refine lv_aload_n hx hb dX11_party_57 rfl (lv_at hl 0 rfl) ?_
            refine cg_get hC hO 0 (by decide) rfl rfl i_X11 4 (by decide) (List.mem_of_getElem? (i := 6) rfl) (fs_ne (by decide) f0_4) dX11_party_58 ?_
            refine cg_get hC hO 1 (by decide) o1 rfl i_X9 4 (by decide) (List.mem_of_getElem? (i := 7) rfl) f1_4 dX11_party_61 ?_
            refine lv_iload_n hx hb dX11_party_64 rfl (lv_at hl 1 rfl) ?_
            refine lv_iadd hx hb dX11_party_65 ?_
            refine cg_ev (v := (nI (0 + x1_n))) (nI_add 0 x1_n) ?_
            refine lv_bipush (v := 24) hx hb dX11_party_66 (by decide) ?_
            refine lv_icmp_le (tgt := 73) hx hb dX11_party_68 (by decide) (fun _ => ?_) (fun h => (show False from by have z : ¬ (0 + x1_n) ≤ 24 := fun q => h ((nI_leI (a := (0 + x1_n)) (b := 24) (by omega) (by omega)).mpr q); omega).elim)
            refine lv_aload_n hx hb dX11_party_73 rfl (lv_at hl 0 rfl) ?_
            refine cg_get hC hO 0 (by decide) rfl rfl i_X11 9 (by decide) (List.mem_of_getElem? (i := 8) rfl) (fs_ne (by decide) f0_9) dX11_party_74 ?_
            refine lv_iload_n hx hb dX11_party_77 rfl (lv_at hl 1 rfl) ?_
            refine lv_iload_n hx hb dX11_party_78 rfl (lv_at hl 2 rfl) ?_
            refine lv_iload_n hx hb dX11_party_79 rfl (lv_at hl 3 rfl) ?_
            refine lv_iload hx hb dX11_party_80 (lv_at hl 4 rfl) ?_
            refine lv_iload hx hb dX11_party_82 (lv_at hl 5 rfl) ?_
            refine cg_Vi (As := [.int (nI x1_n), .int x2, .int x3, .int (nI x4_n), .int (nI x5_n)]) (rest := []) (mc := 0) (ms := 0) (rm := { frames := 4, cells := 0, slots := 0, locals := 101 }) hC hl.1 hO [2, 1, 6, 7, 8, 3, 4, 5, 9, 10, 11, 12, 13, 14, 15, 16, 17] rfl (c_X2_leastOfParty l D cy _ _ (f0 := f2) (f5 := f3) (c6 := c4) (c7 := c5) (f1 := f1) (c2 := c6) (c3 := c7) (f4 := f8) (c8 := c9) (c9 := c10) (c10 := c11) (c11 := c12) (c12 := c13) (c13 := c14) (c14 := c15) (c15 := c16) (c16 := c17) (n := x1_n) (s1 := x2) (mi := x3) (w := x4_n) (la := x5_n) o2 f2_0 f2_1 f2_3 f2_4 f2_5 f2_8 o1 f1_0 f1_3 f1_4 a6 a7 o8 f8_0 f8_1 f8_2 f8_3 f8_4 f8_5 f8_6 f8_7 o3 f3_9 f3_10 f3_11 a4 a5 a9 a10 a11 a12 a13 a14 a15 a16 a17 (by omega) (by omega) (by omega)) gq_c_X11_party_c_X2_leastOfParty_217 rfl rfl rfl 5 (by decide +kernel) ⟨Nat.le_of_ble_eq_true rfl, Nat.le_of_ble_eq_true rfl⟩ rfl (by decide) o2 rfl rfl (Nat.le_of_ble_eq_true rfl) dX11_party_84 ⟨Nat.le_of_ble_eq_true rfl, Nat.le_of_ble_eq_true rfl⟩ (fun r_84_23 nw_84_21 l_84_22 H locs hw hO => ?_)
            obtain ⟨c2_84_24, c5_84_25, c7_84_26, le_84_27, d11_84_28, d12_84_29, d13_84_30, d14_84_31, d16_84_32, hle_84_33, rfl, rfl⟩ := hw
            have hO : cO D cy A s.heap s 19 ad (cup [(0, .inr (11, (f0.set 13 (.int 0)))), (17, .inl (cy 0, 3, .inl d16_84_32)), (2, .inr (2, (f2.set 5 (.int 0)))), (12, .inl (cy 0, 5, .inl d11_84_28)), (13, .inl (cy 0, 5, .inl d12_84_29)), (14, .inl (cy 0, 5, .inl d13_84_30)), (15, .inl (cy 0, 5, .inl d14_84_31)), (11, .inl (cy 0, 4, .inl c7_84_26)), (10, .inl (cy 0, 20, .inl c5_84_25)), (9, .inl (cy 0, 5, .inl c2_84_24))] g) _ _ := hO
            refine lv_istore (lv' := [(6, .int (nI le_84_27)), (0, .ref (ad 0)), (1, .int (nI x1_n)), (2, .int x2), (3, .int x3), (4, .int (nI x4_n)), (5, .int (nI x5_n))]) hx hb dX11_party_87 hl (by decide) rfl (fun ls hl => ?_)
            refine lv_aload_n hx hb dX11_party_89 rfl (lv_at hl 1 rfl) ?_
            refine lv_aload_n hx hb dX11_party_90 rfl (lv_at hl 1 rfl) ?_
            refine cg_get hC hO 0 (by decide) rfl rfl i_X11 9 (by decide) (List.mem_of_getElem? (i := 8) rfl) (fs_ne (by decide) f0_9) dX11_party_91 ?_
            refine cg_get hC hO 2 (by decide) rfl rfl i_X2 8 (by decide) (List.mem_of_getElem? (i := 68) rfl) (fs_ne (by decide) f2_8) dX11_party_94 ?_
            refine lv_iload_n hx hb dX11_party_97 rfl (lv_at hl 2 rfl) ?_
            refine cg_Vv (As := [.ref (ad 17), .int (nI x1_n)]) (rest := []) (mc := 0) (ms := 0) (rm := { frames := 1, cells := 0, slots := 0, locals := 60 }) hC hl.1 hO [0, 18, 17] rfl (c_X11_layThere l D cy _ _ (f0 := (f0.set 13 (.int 0))) (c1 := c18) (x := 0) (q := 3) (c2 := d16_84_32) (n := x1_n) rfl (fs_ne (by decide) f0_12) (fs_eq f0_13) a18 rfl (by omega) (by omega)) gq_c_X11_party_c_X11_layThere_224 rfl rfl rfl 2 (by decide +kernel) ⟨Nat.le_of_ble_eq_true rfl, Nat.le_of_ble_eq_true rfl⟩ rfl (by decide) rfl rfl rfl (Nat.le_of_ble_eq_true rfl) dX11_party_98 ⟨Nat.le_of_ble_eq_true rfl, Nat.le_of_ble_eq_true rfl⟩ (fun nw_98_34 l_98_35 H locs hw hO => ?_)
            obtain ⟨c1_98_37, rfl⟩ := hw
            have hO : cO D cy A s.heap s 19 ad (cup [(0, .inr (11, ((f0.set 13 (.int 0)).set 13 (.int (nI x1_n))))), (17, .inl (cy 0, 3, .inl d16_84_32)), (2, .inr (2, (f2.set 5 (.int 0)))), (12, .inl (cy 0, 5, .inl d11_84_28)), (13, .inl (cy 0, 5, .inl d12_84_29)), (14, .inl (cy 0, 5, .inl d13_84_30)), (15, .inl (cy 0, 5, .inl d14_84_31)), (11, .inl (cy 0, 4, .inl c7_84_26)), (10, .inl (cy 0, 20, .inl c5_84_25)), (9, .inl (cy 0, 5, .inl c2_84_24)), (18, .inl (cy 0, 24, .inl c1_98_37))] g) _ _ := hO
            refine lv_iload hx hb dX11_party_101 (lv_at hl 0 rfl) ?_
            exact cg_iret (nw := fun _ => 0) hC hr hlk hO.same rfl (Nat.le_of_ble_eq_true rfl) (Nat.le_of_ble_eq_true rfl) (by rw [hle_84_33]; exact (if_pos ⟨hr_8_4, hr_18_8, hr_29_12, hr_40_16, hr_51_20⟩).symm) dX11_party_103
          · obtain ⟨hr_51_38, rfl, rfl⟩ := hw
            have hO : cO D cy A s.heap s 19 ad (cup [(0, .inr (11, (f0.set 13 (.int 0))))] g) _ _ := hO
            refine lv_if_eq (tgt := 71) hx hb dX11_party_54 (by decide) (fun _ => ?_) (fun h => absurd h (by decide))
            refine lv_iconst (v := (-1)) hx hb dX11_party_71 (by decide) ?_
            exact cg_iret (nw := fun _ => 0) hC hr hlk hO.same rfl (Nat.le_of_ble_eq_true rfl) (Nat.le_of_ble_eq_true rfl) ((if_neg (fun z => hr_51_38 z.2.2.2.2)).symm) dX11_party_72
        · obtain ⟨hr_40_39, rfl, rfl⟩ := hw
          have hO : cO D cy A s.heap s 19 ad (cup [(0, .inr (11, (f0.set 13 (.int 0))))] g) _ _ := hO
          refine lv_if_eq (tgt := 71) hx hb dX11_party_43 (by decide) (fun _ => ?_) (fun h => absurd h (by decide))
          refine lv_iconst (v := (-1)) hx hb dX11_party_71 (by decide) ?_
          exact cg_iret (nw := fun _ => 0) hC hr hlk hO.same rfl (Nat.le_of_ble_eq_true rfl) (Nat.le_of_ble_eq_true rfl) ((if_neg (fun z => hr_40_39 z.2.2.2.1)).symm) dX11_party_72
      · obtain ⟨hr_29_40, rfl, rfl⟩ := hw
        have hO : cO D cy A s.heap s 19 ad (cup [(0, .inr (11, (f0.set 13 (.int 0))))] g) _ _ := hO
        refine lv_if_eq (tgt := 71) hx hb dX11_party_32 (by decide) (fun _ => ?_) (fun h => absurd h (by decide))
        refine lv_iconst (v := (-1)) hx hb dX11_party_71 (by decide) ?_
        exact cg_iret (nw := fun _ => 0) hC hr hlk hO.same rfl (Nat.le_of_ble_eq_true rfl) (Nat.le_of_ble_eq_true rfl) ((if_neg (fun z => hr_29_40 z.2.2.1)).symm) dX11_party_72
    · obtain ⟨hr_18_41, rfl, rfl⟩ := hw
      have hO : cO D cy A s.heap s 19 ad (cup [(0, .inr (11, (f0.set 13 (.int 0))))] g) _ _ := hO
      refine lv_if_eq (tgt := 71) hx hb dX11_party_21 (by decide) (fun _ => ?_) (fun h => absurd h (by decide))
      refine lv_iconst (v := (-1)) hx hb dX11_party_71 (by decide) ?_
      exact cg_iret (nw := fun _ => 0) hC hr hlk hO.same rfl (Nat.le_of_ble_eq_true rfl) (Nat.le_of_ble_eq_true rfl) ((if_neg (fun z => hr_18_41 z.2.1)).symm) dX11_party_72
  · obtain ⟨hr_8_42, rfl, rfl⟩ := hw
    have hO : cO D cy A s.heap s 19 ad (cup [(0, .inr (11, (f0.set 13 (.int 0))))] g) _ _ := hO
    refine lv_if_eq (tgt := 71) hx hb dX11_party_11 (by decide) (fun _ => ?_) (fun h => absurd h (by decide))
    refine lv_iconst (v := (-1)) hx hb dX11_party_71 (by decide) ?_
    exact cg_iret (nw := fun _ => 0) hC hr hlk hO.same rfl (Nat.le_of_ble_eq_true rfl) (Nat.le_of_ble_eq_true rfl) ((if_neg (fun z => hr_8_42 z.1)).symm) dX11_party_72

theorem dX2_bestHeaps_0 : decode cX2_bestHeaps 0 = .ok (.aload_n 0, 1) := by decide +kernel
theorem dX2_bestHeaps_1 : decode cX2_bestHeaps 1 = .ok (.invokevirtual 48, 3) := by decide +kernel
theorem dX2_bestHeaps_4 : decode cX2_bestHeaps 4 = .ok (.iconst 0, 1) := by decide +kernel
theorem dX2_bestHeaps_5 : decode cX2_bestHeaps 5 = .ok (.istore_n 3, 1) := by decide +kernel
theorem dX2_bestHeaps_6 : decode cX2_bestHeaps 6 = .ok (.iconst 1, 1) := by decide +kernel
theorem dX2_bestHeaps_7 : decode cX2_bestHeaps 7 = .ok (.istore 4, 2) := by decide +kernel
theorem dX2_bestHeaps_9 : decode cX2_bestHeaps 9 = .ok (.iload 4, 2) := by decide +kernel
theorem dX2_bestHeaps_11 : decode cX2_bestHeaps 11 = .ok (.bipush 6, 2) := by decide +kernel
theorem dX2_bestHeaps_13 : decode cX2_bestHeaps 13 = .ok (.if_icmp .gt 53, 3) := by decide +kernel
theorem dX2_bestHeaps_16 : decode cX2_bestHeaps 16 = .ok (.iload 4, 2) := by decide +kernel
theorem dX2_bestHeaps_18 : decode cX2_bestHeaps 18 = .ok (.iload_n 1, 1) := by decide +kernel
theorem dX2_bestHeaps_19 : decode cX2_bestHeaps 19 = .ok (.if_icmp .gt 47, 3) := by decide +kernel
theorem dX2_bestHeaps_22 : decode cX2_bestHeaps 22 = .ok (.aload_n 0, 1) := by decide +kernel
theorem dX2_bestHeaps_23 : decode cX2_bestHeaps 23 = .ok (.iload_n 1, 1) := by decide +kernel
theorem dX2_bestHeaps_24 : decode cX2_bestHeaps 24 = .ok (.iload 4, 2) := by decide +kernel
theorem dX2_bestHeaps_26 : decode cX2_bestHeaps 26 = .ok (.iadd, 1) := by decide +kernel
theorem dX2_bestHeaps_27 : decode cX2_bestHeaps 27 = .ok (.iconst 1, 1) := by decide +kernel
theorem dX2_bestHeaps_28 : decode cX2_bestHeaps 28 = .ok (.isub, 1) := by decide +kernel
theorem dX2_bestHeaps_29 : decode cX2_bestHeaps 29 = .ok (.iload 4, 2) := by decide +kernel
theorem dX2_bestHeaps_31 : decode cX2_bestHeaps 31 = .ok (.idiv, 1) := by decide +kernel
theorem dX2_bestHeaps_32 : decode cX2_bestHeaps 32 = .ok (.iload_n 2, 1) := by decide +kernel
theorem dX2_bestHeaps_33 : decode cX2_bestHeaps 33 = .ok (.invokevirtual 51, 3) := by decide +kernel
theorem dX2_bestHeaps_36 : decode cX2_bestHeaps 36 = .ok (.istore 5, 2) := by decide +kernel
theorem dX2_bestHeaps_38 : decode cX2_bestHeaps 38 = .ok (.iload_n 3, 1) := by decide +kernel
theorem dX2_bestHeaps_39 : decode cX2_bestHeaps 39 = .ok (.ifCond .eq 12, 3) := by decide +kernel
theorem dX2_bestHeaps_42 : decode cX2_bestHeaps 42 = .ok (.iload 5, 2) := by decide +kernel
theorem dX2_bestHeaps_44 : decode cX2_bestHeaps 44 = .ok (.aload_n 0, 1) := by decide +kernel
theorem dX2_bestHeaps_45 : decode cX2_bestHeaps 45 = .ok (.getfield 61, 3) := by decide +kernel
theorem dX2_bestHeaps_48 : decode cX2_bestHeaps 48 = .ok (.if_icmp .ge 12, 3) := by decide +kernel
theorem dX2_bestHeaps_51 : decode cX2_bestHeaps 51 = .ok (.aload_n 0, 1) := by decide +kernel
theorem dX2_bestHeaps_52 : decode cX2_bestHeaps 52 = .ok (.iload 5, 2) := by decide +kernel
theorem dX2_bestHeaps_54 : decode cX2_bestHeaps 54 = .ok (.putfield 61, 3) := by decide +kernel
theorem dX2_bestHeaps_57 : decode cX2_bestHeaps 57 = .ok (.iload 4, 2) := by decide +kernel
theorem dX2_bestHeaps_59 : decode cX2_bestHeaps 59 = .ok (.istore_n 3, 1) := by decide +kernel
theorem dX2_bestHeaps_60 : decode cX2_bestHeaps 60 = .ok (.iinc 4 1, 3) := by decide +kernel
theorem dX2_bestHeaps_63 : decode cX2_bestHeaps 63 = .ok (.goto (-54), 3) := by decide +kernel
theorem dX2_bestHeaps_66 : decode cX2_bestHeaps 66 = .ok (.iload_n 3, 1) := by decide +kernel
theorem dX2_bestHeaps_67 : decode cX2_bestHeaps 67 = .ok (.ireturn, 1) := by decide +kernel
def wq_c_X2_bestHeaps : List Cond := Cond.code yX2_bestHeaps cX2_bestHeaps 6 (some .int) :: (([Cond.methodLink RX2 48 yX2_putInOrder, Cond.instanceMethod yX2_putInOrder, Cond.selects RX2 yX2_putInOrder yX2_putInOrder, Cond.initialized RX2, Cond.code yX2_putInOrder cX2_putInOrder 1 none, Cond.fieldLink RX2 31 "CrowToll$Drivers" "stand" "LCrowToll$Stand;", Cond.fieldLink RX2 9 "CrowToll$Drivers" "order" "[I", Cond.methodLink RX2 65 yX9_coming, Cond.instanceMethod yX9_coming, Cond.selects RX9 yX9_coming yX9_coming, Cond.initialized RX9, Cond.code yX9_coming cX9_coming 4 (some .int), Cond.fieldLink RX9 21 "CrowToll$Stand" "carts" "I", Cond.fieldLink RX2 71 "CrowToll$Drivers" "going" "I", Cond.fieldLink RX2 74 "CrowToll$Stand" "minute" "[I", Cond.code yX11_putByMinutes cX11_putByMinutes 6 none, Cond.static yX11_putByMinutes, Cond.initialized RX11, Cond.fieldLink RX2 44 "CrowToll$Drivers" "watch" "LCrowToll$Watch;", Cond.fieldLink RX2 81 "CrowToll$Stand" "counts" "[I", Cond.methodLink RX2 84 yX10_sit, Cond.instanceMethod yX10_sit, Cond.selects RX10 yX10_sit yX10_sit, Cond.initialized RX10, Cond.code yX10_sit cX10_sit 2 none, Cond.fieldLink RX10 9 "CrowToll$Watch" "limit" "[I", Cond.methodLink RX10 37 arraycopyName, Cond.native arraycopyName, Cond.static arraycopyName, Cond.initialized "java/lang/System", Cond.fieldLink RX10 33 "CrowToll$Watch" "road" "LCrowToll$Road;", Cond.fieldLink RX10 43 "CrowToll$Road" "seat" "[I", Cond.fieldLink RX10 15 "CrowToll$Watch" "seat" "[I", Cond.fieldLink RX10 46 "CrowToll$Road" "seated" "[I", Cond.fieldLink RX10 18 "CrowToll$Watch" "seated" "[I", Cond.methodLink RX10 47 yX10_begin, Cond.instanceMethod yX10_begin, Cond.selects RX10 yX10_begin yX10_begin, Cond.code yX10_begin cX10_begin 1 none, Cond.fieldLink RX10 21 "CrowToll$Watch" "count" "[I", Cond.methodLink RX10 54 yJ7_fill_53178, Cond.static yJ7_fill_53178, Cond.initialized RJ7, Cond.code yJ7_fill_53178 cJ7_fill_53178 4 none, Cond.fieldLink RX10 24 "CrowToll$Watch" "total" "[I", Cond.fieldLink RX10 27 "CrowToll$Watch" "lookedAt" "[I", Cond.fieldLink RX10 30 "CrowToll$Watch" "countedAt" "[I", Cond.methodLink RX2 51 yX2_payOfOneMore, Cond.instanceMethod yX2_payOfOneMore, Cond.selects RX2 yX2_payOfOneMore yX2_payOfOneMore, Cond.code yX2_payOfOneMore cX2_payOfOneMore 6 (some .int), Cond.methodLink RX2 88 yX10_begin, Cond.fieldLink RX2 27 "CrowToll$Drivers" "road" "LCrowToll$Road;", Cond.fieldLink RX2 91 "CrowToll$Road" "posts" "I", Cond.fieldLink RX2 61 "CrowToll$Drivers" "heapsPay" "I"] : List Cond) ++ wsX20 ++ wsX70 ++ wsX90 ++ wsX100)
set_option maxRecDepth 20000 in
theorem gr_c_X2_bestHeaps_c_X2_putInOrder : GoodIn wq_c_X2_bestHeaps wq_c_X2_putInOrder := List.forall_mem_cons.mpr ⟨⟨(List.mem_of_getElem? (i := 5) rfl), good_of_word rfl⟩, List.forall_mem_append.mpr ⟨List.forall_mem_append.mpr ⟨List.forall_mem_append.mpr ⟨List.forall_mem_append.mpr ⟨List.forall_mem_cons.mpr ⟨⟨(List.mem_of_getElem? (i := 6) rfl), good_of_word rfl⟩, List.forall_mem_cons.mpr ⟨⟨(List.mem_of_getElem? (i := 7) rfl), good_of_word rfl⟩, List.forall_mem_cons.mpr ⟨⟨(List.mem_of_getElem? (i := 8) rfl), good_of_word rfl⟩, List.forall_mem_cons.mpr ⟨⟨(List.mem_of_getElem? (i := 9) rfl), good_of_word rfl⟩, List.forall_mem_cons.mpr ⟨⟨(List.mem_of_getElem? (i := 10) rfl), good_of_word rfl⟩, List.forall_mem_cons.mpr ⟨⟨(List.mem_of_getElem? (i := 11) rfl), good_of_word rfl⟩, List.forall_mem_cons.mpr ⟨⟨(List.mem_of_getElem? (i := 12) rfl), good_of_word rfl⟩, List.forall_mem_cons.mpr ⟨⟨(List.mem_of_getElem? (i := 13) rfl), good_of_word rfl⟩, List.forall_mem_cons.mpr ⟨⟨(List.mem_of_getElem? (i := 14) rfl), good_of_word rfl⟩, List.forall_mem_cons.mpr ⟨⟨(List.mem_of_getElem? (i := 15) rfl), good_of_word rfl⟩, List.forall_mem_cons.mpr ⟨⟨(List.mem_of_getElem? (i := 16) rfl), good_of_word rfl⟩, List.forall_mem_cons.mpr ⟨⟨(List.mem_of_getElem? (i := 17) rfl), good_of_word rfl⟩, List.forall_mem_cons.mpr ⟨⟨(List.mem_of_getElem? (i := 18) rfl), good_of_word rfl⟩, List.forall_mem_cons.mpr ⟨⟨(List.mem_of_getElem? (i := 19) rfl), good_of_word rfl⟩, List.forall_mem_cons.mpr ⟨⟨(List.mem_of_getElem? (i := 20) rfl), good_of_word rfl⟩, List.forall_mem_cons.mpr ⟨⟨(List.mem_of_getElem? (i := 21) rfl), good_of_word rfl⟩, List.forall_mem_cons.mpr ⟨⟨(List.mem_of_getElem? (i := 22) rfl), good_of_word rfl⟩, List.forall_mem_cons.mpr ⟨⟨(List.mem_of_getElem? (i := 23) rfl), good_of_word rfl⟩, List.forall_mem_cons.mpr ⟨⟨(List.mem_of_getElem? (i := 24) rfl), good_of_word rfl⟩, List.forall_mem_cons.mpr ⟨⟨(List.mem_of_getElem? (i := 25) rfl), good_of_word rfl⟩, List.forall_mem_cons.mpr ⟨⟨(List.mem_of_getElem? (i := 26) rfl), good_of_word rfl⟩, List.forall_mem_cons.mpr ⟨⟨(List.mem_of_getElem? (i := 27) rfl), good_of_word rfl⟩, List.forall_mem_cons.mpr ⟨⟨(List.mem_of_getElem? (i := 28) rfl), good_of_word rfl⟩, List.forall_mem_cons.mpr ⟨⟨(List.mem_of_getElem? (i := 29) rfl), good_of_word rfl⟩, List.forall_mem_cons.mpr ⟨⟨(List.mem_of_getElem? (i := 30) rfl), good_of_word rfl⟩, List.forall_mem_cons.mpr ⟨⟨(List.mem_of_getElem? (i := 31) rfl), good_of_word rfl⟩, List.forall_mem_cons.mpr ⟨⟨(List.mem_of_getElem? (i := 32) rfl), good_of_word rfl⟩, List.forall_mem_cons.mpr ⟨⟨(List.mem_of_getElem? (i := 33) rfl), good_of_word rfl⟩, List.forall_mem_cons.mpr ⟨⟨(List.mem_of_getElem? (i := 34) rfl), good_of_word rfl⟩, List.forall_mem_cons.mpr ⟨⟨(List.mem_of_getElem? (i := 35) rfl), good_of_word rfl⟩, List.forall_mem_cons.mpr ⟨⟨(List.mem_of_getElem? (i := 36) rfl), good_of_word rfl⟩, List.forall_mem_cons.mpr ⟨⟨(List.mem_of_getElem? (i := 37) rfl), good_of_word rfl⟩, List.forall_mem_cons.mpr ⟨⟨(List.mem_of_getElem? (i := 38) rfl), good_of_word rfl⟩, List.forall_mem_cons.mpr ⟨⟨(List.mem_of_getElem? (i := 39) rfl), good_of_word rfl⟩, List.forall_mem_cons.mpr ⟨⟨(List.mem_of_getElem? (i := 40) rfl), good_of_word rfl⟩, List.forall_mem_cons.mpr ⟨⟨(List.mem_of_getElem? (i := 41) rfl), good_of_word rfl⟩, List.forall_mem_cons.mpr ⟨⟨(List.mem_of_getElem? (i := 42) rfl), good_of_word rfl⟩, List.forall_mem_cons.mpr ⟨⟨(List.mem_of_getElem? (i := 43) rfl), good_of_word rfl⟩, List.forall_mem_cons.mpr ⟨⟨(List.mem_of_getElem? (i := 44) rfl), good_of_word rfl⟩, List.forall_mem_cons.mpr ⟨⟨(List.mem_of_getElem? (i := 45) rfl), good_of_word rfl⟩, List.forall_mem_cons.mpr ⟨⟨(List.mem_of_getElem? (i := 46) rfl), good_of_word rfl⟩, List.forall_mem_cons.mpr ⟨⟨(List.mem_of_getElem? (i := 47) rfl), good_of_word rfl⟩, (fun _ h => absurd h List.not_mem_nil)⟩⟩⟩⟩⟩⟩⟩⟩⟩⟩⟩⟩⟩⟩⟩⟩⟩⟩⟩⟩⟩⟩⟩⟩⟩⟩⟩⟩⟩⟩⟩⟩⟩⟩⟩⟩⟩⟩⟩⟩⟩⟩, fun w h => ⟨(fun w h => List.mem_cons_of_mem _ (List.mem_append_left _ (List.mem_append_left _ (List.mem_append_left _ (List.mem_append_right _ h))))) w h, good_of_word (List.all_eq_true.mp gw_X2 w h)⟩⟩, fun w h => ⟨(fun w h => List.mem_cons_of_mem _ (List.mem_append_left _ (List.mem_append_left _ (List.mem_append_right _ h)))) w h, good_of_word (List.all_eq_true.mp gw_X7 w h)⟩⟩, fun w h => ⟨(fun w h => List.mem_cons_of_mem _ (List.mem_append_left _ (List.mem_append_right _ h))) w h, good_of_word (List.all_eq_true.mp gw_X9 w h)⟩⟩, fun w h => ⟨(fun w h => List.mem_cons_of_mem _ (List.mem_append_right _ h)) w h, good_of_word (List.all_eq_true.mp gw_X10 w h)⟩⟩⟩
set_option maxRecDepth 20000 in
theorem gq_c_X2_bestHeaps_c_X2_putInOrder_48 : GoodIn wq_c_X2_bestHeaps (wsV RX2 48 RX2 yX2_putInOrder wq_c_X2_putInOrder) := goodIn_app (List.forall_mem_cons.mpr ⟨⟨(List.mem_of_getElem? (i := 1) rfl), good_of_word rfl⟩, List.forall_mem_cons.mpr ⟨⟨(List.mem_of_getElem? (i := 2) rfl), good_of_word rfl⟩, List.forall_mem_cons.mpr ⟨⟨(List.mem_of_getElem? (i := 3) rfl), good_of_word rfl⟩, List.forall_mem_cons.mpr ⟨⟨(List.mem_of_getElem? (i := 4) rfl), good_of_word rfl⟩, (fun _ h => absurd h List.not_mem_nil)⟩⟩⟩⟩) gr_c_X2_bestHeaps_c_X2_putInOrder
set_option maxRecDepth 20000 in
theorem gr_c_X2_bestHeaps_c_X2_payOfOneMore : GoodIn wq_c_X2_bestHeaps wq_c_X2_payOfOneMore := List.forall_mem_cons.mpr ⟨⟨(List.mem_of_getElem? (i := 51) rfl), good_of_word rfl⟩, List.forall_mem_append.mpr ⟨List.forall_mem_append.mpr ⟨List.forall_mem_append.mpr ⟨List.forall_mem_cons.mpr ⟨⟨(List.mem_of_getElem? (i := 19) rfl), good_of_word rfl⟩, List.forall_mem_cons.mpr ⟨⟨(List.mem_of_getElem? (i := 52) rfl), good_of_word rfl⟩, List.forall_mem_cons.mpr ⟨⟨(List.mem_of_getElem? (i := 37) rfl), good_of_word rfl⟩, List.forall_mem_cons.mpr ⟨⟨(List.mem_of_getElem? (i := 38) rfl), good_of_word rfl⟩, List.forall_mem_cons.mpr ⟨⟨(List.mem_of_getElem? (i := 24) rfl), good_of_word rfl⟩, List.forall_mem_cons.mpr ⟨⟨(List.mem_of_getElem? (i := 39) rfl), good_of_word rfl⟩, List.forall_mem_cons.mpr ⟨⟨(List.mem_of_getElem? (i := 40) rfl), good_of_word rfl⟩, List.forall_mem_cons.mpr ⟨⟨(List.mem_of_getElem? (i := 41) rfl), good_of_word rfl⟩, List.forall_mem_cons.mpr ⟨⟨(List.mem_of_getElem? (i := 42) rfl), good_of_word rfl⟩, List.forall_mem_cons.mpr ⟨⟨(List.mem_of_getElem? (i := 43) rfl), good_of_word rfl⟩, List.forall_mem_cons.mpr ⟨⟨(List.mem_of_getElem? (i := 44) rfl), good_of_word rfl⟩, List.forall_mem_cons.mpr ⟨⟨(List.mem_of_getElem? (i := 45) rfl), good_of_word rfl⟩, List.forall_mem_cons.mpr ⟨⟨(List.mem_of_getElem? (i := 46) rfl), good_of_word rfl⟩, List.forall_mem_cons.mpr ⟨⟨(List.mem_of_getElem? (i := 47) rfl), good_of_word rfl⟩, List.forall_mem_cons.mpr ⟨⟨(List.mem_of_getElem? (i := 53) rfl), good_of_word rfl⟩, List.forall_mem_cons.mpr ⟨⟨(List.mem_of_getElem? (i := 54) rfl), good_of_word rfl⟩, (fun _ h => absurd h List.not_mem_nil)⟩⟩⟩⟩⟩⟩⟩⟩⟩⟩⟩⟩⟩⟩⟩⟩, fun w h => ⟨(fun w h => List.mem_cons_of_mem _ (List.mem_append_left _ (List.mem_append_left _ (List.mem_append_left _ (List.mem_append_right _ h))))) w h, good_of_word (List.all_eq_true.mp gw_X2 w h)⟩⟩, fun w h => ⟨(fun w h => List.mem_cons_of_mem _ (List.mem_append_left _ (List.mem_append_left _ (List.mem_append_right _ h)))) w h, good_of_word (List.all_eq_true.mp gw_X7 w h)⟩⟩, fun w h => ⟨(fun w h => List.mem_cons_of_mem _ (List.mem_append_right _ h)) w h, good_of_word (List.all_eq_true.mp gw_X10 w h)⟩⟩⟩
set_option maxRecDepth 20000 in
theorem gq_c_X2_bestHeaps_c_X2_payOfOneMore_51 : GoodIn wq_c_X2_bestHeaps (wsV RX2 51 RX2 yX2_payOfOneMore wq_c_X2_payOfOneMore) := goodIn_app (List.forall_mem_cons.mpr ⟨⟨(List.mem_of_getElem? (i := 48) rfl), good_of_word rfl⟩, List.forall_mem_cons.mpr ⟨⟨(List.mem_of_getElem? (i := 49) rfl), good_of_word rfl⟩, List.forall_mem_cons.mpr ⟨⟨(List.mem_of_getElem? (i := 50) rfl), good_of_word rfl⟩, List.forall_mem_cons.mpr ⟨⟨(List.mem_of_getElem? (i := 4) rfl), good_of_word rfl⟩, (fun _ h => absurd h List.not_mem_nil)⟩⟩⟩⟩) gr_c_X2_bestHeaps_c_X2_payOfOneMore
set_option maxHeartbeats 8000000 in
set_option maxRecDepth 100000 in
theorem c_X2_bestHeaps (l : Launch) (D : va_G) (cy : Nat → ClassId) (ad : Nat → Nat) (g : Nat → va_E) {f0 : List Value} {f1 : List Value} {c2 : Nat → Int32} {c3 : Nat → Int32} {f4 : List Value} {f5 : List Value} {c6 : Nat → Int32} {c7 : Nat → Int32} {c8 : Nat → Int32} {c9 : Nat → Int32} {c10 : Nat → Int32} {c11 : Nat → Int32} {c12 : Nat → Int32} {c13 : Nat → Int32} {c14 : Nat → Int32} {c15 : Nat → Int32} {s1 : Int32} {mi : Int32} (o0 : g 0 = .inr (2, f0)) (f0_0 : f0[0]? = some (.ref (ad 5))) (f0_1 : f0[1]? = some (.ref (ad 1))) (f0_3 : f0[3]? = some (.ref (ad 4))) (f0_4 : f0[4]? = some (.ref (ad 15))) (f0_5 : f0[5]? = some (.int 0)) (f0_10 : f0[10]? = some (.int 0)) (o1 : g 1 = .inr (9, f1)) (f1_0 : f1[0]? = some (.ref (ad 2))) (f1_3 : f1[3]? = some (.ref (ad 3))) (f1_4 : f1[4]? = some (.int 0)) (a2 : g 2 = .inl (cy 0, 24, .inl c2)) (a3 : g 3 = .inl (cy 0, 5, .inl c3)) (o4 : g 4 = .inr (10, f4)) (f4_0 : f4[0]? = some (.ref (ad 5))) (f4_1 : f4[1]? = some (.ref (ad 8))) (f4_2 : f4[2]? = some (.ref (ad 9))) (f4_3 : f4[3]? = some (.ref (ad 10))) (f4_4 : f4[4]? = some (.ref (ad 11))) (f4_5 : f4[5]? = some (.ref (ad 12))) (f4_6 : f4[6]? = some (.ref (ad 13))) (f4_7 : f4[7]? = some (.ref (ad 14))) (o5 : g 5 = .inr (7, f5)) (f5_9 : f5[9]? = some (.ref (ad 6))) (f5_10 : f5[10]? = some (.ref (ad 7))) (f5_11 : f5[11]? = some (.int 0)) (a6 : g 6 = .inl (cy 0, 20, .inl c6)) (a7 : g 7 = .inl (cy 0, 4, .inl c7)) (a8 : g 8 = .inl (cy 0, 5, .inl c8)) (a9 : g 9 = .inl (cy 0, 20, .inl c9)) (a10 : g 10 = .inl (cy 0, 4, .inl c10)) (a11 : g 11 = .inl (cy 0, 5, .inl c11)) (a12 : g 12 = .inl (cy 0, 5, .inl c12)) (a13 : g 13 = .inl (cy 0, 5, .inl c13)) (a14 : g 14 = .inl (cy 0, 5, .inl c14)) (a15 : g 15 = .inl (cy 0, 24, .inl c15)) (hs : rng s1 1 99) : cMi l yX2_bestHeaps wq_c_X2_bestHeaps { frames := 4, cells := 0, slots := 0, locals := 101 } 16 0 0 0 D cy ad g [.ref (ad 0), .int s1, .int mi] (fun r nw lu => ∃ (c2_1_4 : Nat → Int32) (c5_1_5 : Nat → Int32) (c7_1_6 : Nat → Int32) (cz_33_17 : Nat → Int32) (cz_33_16 : Nat → Int32) (cz_33_15 : Nat → Int32) (cz_33_14 : Nat → Int32), r = 1 ∧ lu = [(8, .inl (cy 0, 5, .inl c2_1_4)), (9, .inl (cy 0, 20, .inl c5_1_5)), (10, .inl (cy 0, 4, .inl c7_1_6)), (14, .inl (cy 0, 5, .inl cz_33_17)), (13, .inl (cy 0, 5, .inl cz_33_16)), (12, .inl (cy 0, 5, .inl cz_33_15)), (11, .inl (cy 0, 5, .inl cz_33_14)), (0, .inr (2, ((f0.set 5 (.int 0)).set 10 (.int 0))))]) := by
  refine cM_of (Qc := fun A => cQi (fun r nw lu => ∃ (c2_1_4 : Nat → Int32) (c5_1_5 : Nat → Int32) (c7_1_6 : Nat → Int32) (cz_33_17 : Nat → Int32) (cz_33_16 : Nat → Int32) (cz_33_15 : Nat → Int32) (cz_33_14 : Nat → Int32), r = 1 ∧ lu = [(8, .inl (cy 0, 5, .inl c2_1_4)), (9, .inl (cy 0, 20, .inl c5_1_5)), (10, .inl (cy 0, 4, .inl c7_1_6)), (14, .inl (cy 0, 5, .inl cz_33_17)), (13, .inl (cy 0, 5, .inl cz_33_16)), (12, .inl (cy 0, 5, .inl cz_33_15)), (11, .inl (cy 0, 5, .inl cz_33_14)), (0, .inr (2, ((f0.set 5 (.int 0)).set 10 (.int 0))))]) D 16 0 ad g A) (cc := cX2_bestHeaps) (maxL := 6) (ret := (some .int)) (by decide) rfl (Nat.le_of_ble_eq_true rfl) ?_
  intro p e s m below meth c A hC hr hlk hnm hO ls hl
  have hC : CallFix p m c cX2_bestHeaps 6 s [.ref (ad 0), .int s1, .int mi].toArray wq_c_X2_bestHeaps RX2 := hC
  obtain ⟨hx, hb, hml, hown, hts⟩ := id hC
  have hl : lv_has ls 6 [(0, .ref (ad 0)), (1, .int s1), (2, .int mi)] := hl
  have i_X10 : ∀ w ∈ wsX100, w ∈ wq_c_X2_bestHeaps := fun w h => List.mem_cons_of_mem _ (List.mem_append_right _ h)
  have i_X2 : ∀ w ∈ wsX20, w ∈ wq_c_X2_bestHeaps := fun w h => List.mem_cons_of_mem _ (List.mem_append_left _ (List.mem_append_left _ (List.mem_append_left _ (List.mem_append_right _ h))))
  have i_X7 : ∀ w ∈ wsX70, w ∈ wq_c_X2_bestHeaps := fun w h => List.mem_cons_of_mem _ (List.mem_append_left _ (List.mem_append_left _ (List.mem_append_right _ h)))
  have i_X9 : ∀ w ∈ wsX90, w ∈ wq_c_X2_bestHeaps := fun w h => List.mem_cons_of_mem _ (List.mem_append_left _ (List.mem_append_right _ h))
  refine lv_aload_n hx hb dX2_bestHeaps_0 rfl (lv_at hl 0 rfl) ?_
  refine cg_Vv (As := []) (rest := []) (mc := 0) (ms := 0) (rm := { frames := 3, cells := 0, slots := 0, locals := 81 }) hC hl.1 hO [0, 1, 15, 2, 4, 5, 6, 7, 8, 9, 10, 11, 12, 13, 14, 3] rfl (c_X2_putInOrder l D cy _ _ (f0 := f0) (f1 := f1) (c3 := c2) (c15 := c3) (f4 := f4) (f5 := f5) (c6 := c6) (c7 := c7) (c8 := c8) (c9 := c9) (c10 := c10) (c11 := c11) (c12 := c12) (c13 := c13) (c14 := c14) (c2 := c15) o0 f0_1 f0_3 f0_4 f0_5 o1 f1_0 f1_3 f1_4 a15 a2 o4 f4_0 f4_1 f4_2 f4_3 f4_4 f4_5 f4_6 f4_7 o5 f5_9 f5_10 a6 a7 a8 a9 a10 a11 a12 a13 a14 a3) gq_c_X2_bestHeaps_c_X2_putInOrder_48 rfl rfl rfl 0 (by decide +kernel) ⟨Nat.le_of_ble_eq_true rfl, Nat.le_of_ble_eq_true rfl⟩ rfl (by decide) o0 rfl rfl (Nat.le_of_ble_eq_true rfl) dX2_bestHeaps_1 ⟨Nat.le_of_ble_eq_true rfl, Nat.le_of_ble_eq_true rfl⟩ (fun nw_1_1 l_1_2 H locs hw hO => ?_)
  obtain ⟨c2_1_4, c5_1_5, c7_1_6, cz_1_7, cz_1_8, cz_1_9, cz_1_10, rfl⟩ := hw
  have hO : cO D cy A s.heap s 16 ad (cup [(8, .inl (cy 0, 5, .inl c2_1_4)), (9, .inl (cy 0, 20, .inl c5_1_5)), (10, .inl (cy 0, 4, .inl c7_1_6)), (14, .inl (cy 0, 5, .inl cz_1_10)), (13, .inl (cy 0, 5, .inl cz_1_9)), (12, .inl (cy 0, 5, .inl cz_1_8)), (11, .inl (cy 0, 5, .inl cz_1_7)), (0, .inr (2, (f0.set 5 (.int 0))))] g) _ _ := hO
  refine lv_iconst (v := 0) hx hb dX2_bestHeaps_4 (by decide) ?_
  refine lv_istore_n (lv' := [(3, .int 0), (0, .ref (ad 0)), (1, .int s1), (2, .int mi)]) hx hb dX2_bestHeaps_5 rfl hl (by decide) rfl (fun ls hl => ?_)
  refine lv_iconst (v := 1) hx hb dX2_bestHeaps_6 (by decide) ?_
  refine lv_istore (lv' := [(4, .int 1), (3, .int 0), (0, .ref (ad 0)), (1, .int s1), (2, .int mi)]) hx hb dX2_bestHeaps_7 hl (by decide) rfl (fun ls hl => ?_)
  refine lv_iload hx hb dX2_bestHeaps_9 (lv_at hl 0 rfl) ?_
  refine lv_bipush (v := 6) hx hb dX2_bestHeaps_11 (by decide) ?_
  refine lv_icmp_gt (tgt := 66) hx hb dX2_bestHeaps_13 (by decide) (fun h => absurd h (by decide)) (fun _ => ?_)
  refine lv_iload hx hb dX2_bestHeaps_16 (lv_at hl 0 rfl) ?_
  refine lv_iload_n hx hb dX2_bestHeaps_18 rfl (lv_at hl 3 rfl) ?_
  refine lv_icmp_gt (tgt := 66) hx hb dX2_bestHeaps_19 (by decide) (fun h => (show False from absurd h (Int32.not_lt.mpr hs.1)).elim) (fun _ => ?_)
  refine lv_aload_n hx hb dX2_bestHeaps_22 rfl (lv_at hl 2 rfl) ?_
  refine lv_iload_n hx hb dX2_bestHeaps_23 rfl (lv_at hl 3 rfl) ?_
  refine lv_iload hx hb dX2_bestHeaps_24 (lv_at hl 0 rfl) ?_
  refine lv_iadd hx hb dX2_bestHeaps_26 ?_
  refine lv_iconst (v := 1) hx hb dX2_bestHeaps_27 (by decide) ?_
  refine lv_isub hx hb dX2_bestHeaps_28 ?_
  refine lv_iload hx hb dX2_bestHeaps_29 (lv_at hl 0 rfl) ?_
  refine lv_idiv hx hb dX2_bestHeaps_31 (by decide) ?_
  refine lv_iload_n hx hb dX2_bestHeaps_32 rfl (lv_at hl 4 rfl) ?_
  refine cg_Vi (As := [.int (((s1 + 1) - 1) / 1), .int mi]) (rest := []) (mc := 0) (ms := 0) (rm := { frames := 2, cells := 0, slots := 0, locals := 43 }) hC hl.1 hO [0, 4, 11, 12, 13, 14, 5] rfl (c_X2_payOfOneMore l D cy _ _ (f0 := (f0.set 5 (.int 0))) (f6 := f5) (f1 := f4) (c2 := cz_1_7) (c3 := cz_1_8) (c4 := cz_1_9) (c5 := cz_1_10) (x1 := (((s1 + 1) - 1) / 1)) (x2 := mi) rfl (fs_ne (by decide) f0_0) (fs_ne (by decide) f0_3) o4 f4_4 f4_5 f4_6 f4_7 rfl rfl rfl rfl o5 f5_11) gq_c_X2_bestHeaps_c_X2_payOfOneMore_51 rfl rfl rfl 2 (by decide +kernel) ⟨Nat.le_of_ble_eq_true rfl, Nat.le_of_ble_eq_true rfl⟩ rfl (by decide) rfl rfl rfl (Nat.le_of_ble_eq_true rfl) dX2_bestHeaps_33 ⟨Nat.le_of_ble_eq_true rfl, Nat.le_of_ble_eq_true rfl⟩ (fun r_33_13 nw_33_11 l_33_12 H locs hw hO => ?_)
  obtain ⟨cz_33_14, cz_33_15, cz_33_16, cz_33_17, rfl, rfl⟩ := hw
  have hO : cO D cy A s.heap s 16 ad (cup [(8, .inl (cy 0, 5, .inl c2_1_4)), (9, .inl (cy 0, 20, .inl c5_1_5)), (10, .inl (cy 0, 4, .inl c7_1_6)), (14, .inl (cy 0, 5, .inl cz_33_17)), (13, .inl (cy 0, 5, .inl cz_33_16)), (12, .inl (cy 0, 5, .inl cz_33_15)), (11, .inl (cy 0, 5, .inl cz_33_14)), (0, .inr (2, (f0.set 5 (.int 0))))] g) _ _ := hO
  refine lv_istore (lv' := [(5, .int 0), (4, .int 1), (3, .int 0), (0, .ref (ad 0)), (1, .int s1), (2, .int mi)]) hx hb dX2_bestHeaps_36 hl (by decide) rfl (fun ls hl => ?_)
  refine lv_iload_n hx hb dX2_bestHeaps_38 rfl (lv_at hl 2 rfl) ?_
  refine lv_if_eq (tgt := 51) hx hb dX2_bestHeaps_39 (by decide) (fun _ => ?_) (fun h => absurd h (by decide))
  refine lv_aload_n hx hb dX2_bestHeaps_51 rfl (lv_at hl 3 rfl) ?_
  refine lv_iload hx hb dX2_bestHeaps_52 (lv_at hl 0 rfl) ?_
  refine cg_put hC hO 0 (by decide) rfl rfl i_X2 tyX2_ok nmX2 10 (by decide) (List.mem_of_getElem? (i := 55) rfl) rfl rfl rfl (fs_lt (fs_ne (by decide) f0_10)) dX2_bestHeaps_54 (fun H locs hO => ?_)
  have hO : cO D cy A s.heap s 16 ad (cup [(8, .inl (cy 0, 5, .inl c2_1_4)), (9, .inl (cy 0, 20, .inl c5_1_5)), (10, .inl (cy 0, 4, .inl c7_1_6)), (14, .inl (cy 0, 5, .inl cz_33_17)), (13, .inl (cy 0, 5, .inl cz_33_16)), (12, .inl (cy 0, 5, .inl cz_33_15)), (11, .inl (cy 0, 5, .inl cz_33_14)), (0, .inr (2, ((f0.set 5 (.int 0)).set 10 (.int 0))))] g) _ _ := hO
  refine lv_iload hx hb dX2_bestHeaps_57 (lv_at hl 1 rfl) ?_
  refine lv_istore_n (lv' := [(3, .int 1), (5, .int 0), (4, .int 1), (0, .ref (ad 0)), (1, .int s1), (2, .int mi)]) hx hb dX2_bestHeaps_59 rfl hl (by decide) rfl (fun ls hl => ?_)
  refine lv_iinc (v := 2) (lv' := [(4, .int 2), (3, .int 1), (5, .int 0), (0, .ref (ad 0)), (1, .int s1), (2, .int mi)]) hx hb dX2_bestHeaps_60 hl (k := 2) rfl (by decide) (by decide) rfl (fun ls hl => ?_)
  refine lv_goto (tgt := 9) hx hb dX2_bestHeaps_63 (by decide) ?_
  refine lv_iload hx hb dX2_bestHeaps_9 (lv_at hl 0 rfl) ?_
  refine lv_bipush (v := 6) hx hb dX2_bestHeaps_11 (by decide) ?_
  refine lv_icmp_gt (tgt := 66) hx hb dX2_bestHeaps_13 (by decide) (fun h => absurd h (by decide)) (fun _ => ?_)
  refine lv_iload hx hb dX2_bestHeaps_16 (lv_at hl 0 rfl) ?_
  refine lv_iload_n hx hb dX2_bestHeaps_18 rfl (lv_at hl 4 rfl) ?_
  refine lv_icmp_gt (tgt := 66) hx hb dX2_bestHeaps_19 (by decide) (fun h_19_18 => ?_) (fun h_19_18 => ?_)
  · refine lv_iload_n hx hb dX2_bestHeaps_66 rfl (lv_at hl 1 rfl) ?_
    exact cg_iret (nw := fun _ => 0) hC hr hlk hO.same rfl (Nat.le_of_ble_eq_true rfl) (Nat.le_of_ble_eq_true rfl) (⟨c2_1_4, c5_1_5, c7_1_6, cz_33_17, cz_33_16, cz_33_15, cz_33_14, rfl, rfl⟩) dX2_bestHeaps_67
  · refine lv_aload_n hx hb dX2_bestHeaps_22 rfl (lv_at hl 3 rfl) ?_
    refine lv_iload_n hx hb dX2_bestHeaps_23 rfl (lv_at hl 4 rfl) ?_
    refine lv_iload hx hb dX2_bestHeaps_24 (lv_at hl 0 rfl) ?_
    refine lv_iadd hx hb dX2_bestHeaps_26 ?_
    refine lv_iconst (v := 1) hx hb dX2_bestHeaps_27 (by decide) ?_
    refine lv_isub hx hb dX2_bestHeaps_28 ?_
    refine lv_iload hx hb dX2_bestHeaps_29 (lv_at hl 0 rfl) ?_
    refine lv_idiv hx hb dX2_bestHeaps_31 (by decide) ?_
    refine lv_iload_n hx hb dX2_bestHeaps_32 rfl (lv_at hl 5 rfl) ?_
    refine cg_Vi (As := [.int (((s1 + 2) - 1) / 2), .int mi]) (rest := []) (mc := 0) (ms := 0) (rm := { frames := 2, cells := 0, slots := 0, locals := 43 }) hC hl.1 hO [0, 4, 11, 12, 13, 14, 5] rfl (c_X2_payOfOneMore l D cy _ _ (f0 := ((f0.set 5 (.int 0)).set 10 (.int 0))) (f6 := f5) (f1 := f4) (c2 := cz_33_14) (c3 := cz_33_15) (c4 := cz_33_16) (c5 := cz_33_17) (x1 := (((s1 + 2) - 1) / 2)) (x2 := mi) rfl (fs_ne (by decide) (fs_ne (by decide) f0_0)) (fs_ne (by decide) (fs_ne (by decide) f0_3)) o4 f4_4 f4_5 f4_6 f4_7 rfl rfl rfl rfl o5 f5_11) gq_c_X2_bestHeaps_c_X2_payOfOneMore_51 rfl rfl rfl 2 (by decide +kernel) ⟨Nat.le_of_ble_eq_true rfl, Nat.le_of_ble_eq_true rfl⟩ rfl (by decide) rfl rfl rfl (Nat.le_of_ble_eq_true rfl) dX2_bestHeaps_33 ⟨Nat.le_of_ble_eq_true rfl, Nat.le_of_ble_eq_true rfl⟩ (fun r_33_21 nw_33_19 l_33_20 H locs hw hO => ?_)
    obtain ⟨cz_33_22, cz_33_23, cz_33_24, cz_33_25, rfl, rfl⟩ := hw
    have hO : cO D cy A s.heap s 16 ad (cup [(8, .inl (cy 0, 5, .inl c2_1_4)), (9, .inl (cy 0, 20, .inl c5_1_5)), (10, .inl (cy 0, 4, .inl c7_1_6)), (14, .inl (cy 0, 5, .inl cz_33_25)), (13, .inl (cy 0, 5, .inl cz_33_24)), (12, .inl (cy 0, 5, .inl cz_33_23)), (11, .inl (cy 0, 5, .inl cz_33_22)), (0, .inr (2, ((f0.set 5 (.int 0)).set 10 (.int 0))))] g) _ _ := hO
    refine lv_istore (lv' := [(5, .int 0), (4, .int 2), (3, .int 1), (0, .ref (ad 0)), (1, .int s1), (2, .int mi)]) hx hb dX2_bestHeaps_36 hl (by decide) rfl (fun ls hl => ?_)
    refine lv_iload_n hx hb dX2_bestHeaps_38 rfl (lv_at hl 2 rfl) ?_
    refine lv_if_eq (tgt := 51) hx hb dX2_bestHeaps_39 (by decide) (fun h => absurd h (by decide)) (fun _ => ?_)
    refine lv_iload hx hb dX2_bestHeaps_42 (lv_at hl 0 rfl) ?_
    refine lv_aload_n hx hb dX2_bestHeaps_44 rfl (lv_at hl 3 rfl) ?_
    refine cg_get hC hO 0 (by decide) rfl rfl i_X2 10 (by decide) (List.mem_of_getElem? (i := 55) rfl) (fs_eq (fs_ne (by decide) f0_10)) dX2_bestHeaps_45 ?_
    refine lv_icmp_ge (tgt := 60) hx hb dX2_bestHeaps_48 (by decide) (fun _ => ?_) (fun h => absurd h (by decide))
    refine lv_iinc (v := 3) (lv' := [(4, .int 3), (5, .int 0), (3, .int 1), (0, .ref (ad 0)), (1, .int s1), (2, .int mi)]) hx hb dX2_bestHeaps_60 hl (k := 1) rfl (by decide) (by decide) rfl (fun ls hl => ?_)
    refine lv_goto (tgt := 9) hx hb dX2_bestHeaps_63 (by decide) ?_
    refine lv_iload hx hb dX2_bestHeaps_9 (lv_at hl 0 rfl) ?_
    refine lv_bipush (v := 6) hx hb dX2_bestHeaps_11 (by decide) ?_
    refine lv_icmp_gt (tgt := 66) hx hb dX2_bestHeaps_13 (by decide) (fun h => absurd h (by decide)) (fun _ => ?_)
    refine lv_iload hx hb dX2_bestHeaps_16 (lv_at hl 0 rfl) ?_
    refine lv_iload_n hx hb dX2_bestHeaps_18 rfl (lv_at hl 4 rfl) ?_
    refine lv_icmp_gt (tgt := 66) hx hb dX2_bestHeaps_19 (by decide) (fun h_19_26 => ?_) (fun h_19_26 => ?_)
    · refine lv_iload_n hx hb dX2_bestHeaps_66 rfl (lv_at hl 2 rfl) ?_
      exact cg_iret (nw := fun _ => 0) hC hr hlk hO.same rfl (Nat.le_of_ble_eq_true rfl) (Nat.le_of_ble_eq_true rfl) (⟨c2_1_4, c5_1_5, c7_1_6, cz_33_25, cz_33_24, cz_33_23, cz_33_22, rfl, rfl⟩) dX2_bestHeaps_67
    · refine lv_aload_n hx hb dX2_bestHeaps_22 rfl (lv_at hl 3 rfl) ?_
      refine lv_iload_n hx hb dX2_bestHeaps_23 rfl (lv_at hl 4 rfl) ?_
      refine lv_iload hx hb dX2_bestHeaps_24 (lv_at hl 0 rfl) ?_
      refine lv_iadd hx hb dX2_bestHeaps_26 ?_
      refine lv_iconst (v := 1) hx hb dX2_bestHeaps_27 (by decide) ?_
      refine lv_isub hx hb dX2_bestHeaps_28 ?_
      refine lv_iload hx hb dX2_bestHeaps_29 (lv_at hl 0 rfl) ?_
      refine lv_idiv hx hb dX2_bestHeaps_31 (by decide) ?_
      refine lv_iload_n hx hb dX2_bestHeaps_32 rfl (lv_at hl 5 rfl) ?_
      refine cg_Vi (As := [.int (((s1 + 3) - 1) / 3), .int mi]) (rest := []) (mc := 0) (ms := 0) (rm := { frames := 2, cells := 0, slots := 0, locals := 43 }) hC hl.1 hO [0, 4, 11, 12, 13, 14, 5] rfl (c_X2_payOfOneMore l D cy _ _ (f0 := ((f0.set 5 (.int 0)).set 10 (.int 0))) (f6 := f5) (f1 := f4) (c2 := cz_33_22) (c3 := cz_33_23) (c4 := cz_33_24) (c5 := cz_33_25) (x1 := (((s1 + 3) - 1) / 3)) (x2 := mi) rfl (fs_ne (by decide) (fs_ne (by decide) f0_0)) (fs_ne (by decide) (fs_ne (by decide) f0_3)) o4 f4_4 f4_5 f4_6 f4_7 rfl rfl rfl rfl o5 f5_11) gq_c_X2_bestHeaps_c_X2_payOfOneMore_51 rfl rfl rfl 2 (by decide +kernel) ⟨Nat.le_of_ble_eq_true rfl, Nat.le_of_ble_eq_true rfl⟩ rfl (by decide) rfl rfl rfl (Nat.le_of_ble_eq_true rfl) dX2_bestHeaps_33 ⟨Nat.le_of_ble_eq_true rfl, Nat.le_of_ble_eq_true rfl⟩ (fun r_33_29 nw_33_27 l_33_28 H locs hw hO => ?_)
      obtain ⟨cz_33_30, cz_33_31, cz_33_32, cz_33_33, rfl, rfl⟩ := hw
      have hO : cO D cy A s.heap s 16 ad (cup [(8, .inl (cy 0, 5, .inl c2_1_4)), (9, .inl (cy 0, 20, .inl c5_1_5)), (10, .inl (cy 0, 4, .inl c7_1_6)), (14, .inl (cy 0, 5, .inl cz_33_33)), (13, .inl (cy 0, 5, .inl cz_33_32)), (12, .inl (cy 0, 5, .inl cz_33_31)), (11, .inl (cy 0, 5, .inl cz_33_30)), (0, .inr (2, ((f0.set 5 (.int 0)).set 10 (.int 0))))] g) _ _ := hO
      refine lv_istore (lv' := [(5, .int 0), (4, .int 3), (3, .int 1), (0, .ref (ad 0)), (1, .int s1), (2, .int mi)]) hx hb dX2_bestHeaps_36 hl (by decide) rfl (fun ls hl => ?_)
      refine lv_iload_n hx hb dX2_bestHeaps_38 rfl (lv_at hl 2 rfl) ?_
      refine lv_if_eq (tgt := 51) hx hb dX2_bestHeaps_39 (by decide) (fun h => absurd h (by decide)) (fun _ => ?_)
      refine lv_iload hx hb dX2_bestHeaps_42 (lv_at hl 0 rfl) ?_
      refine lv_aload_n hx hb dX2_bestHeaps_44 rfl (lv_at hl 3 rfl) ?_
      refine cg_get hC hO 0 (by decide) rfl rfl i_X2 10 (by decide) (List.mem_of_getElem? (i := 55) rfl) (fs_eq (fs_ne (by decide) f0_10)) dX2_bestHeaps_45 ?_
      refine lv_icmp_ge (tgt := 60) hx hb dX2_bestHeaps_48 (by decide) (fun _ => ?_) (fun h => absurd h (by decide))
      refine lv_iinc (v := 4) (lv' := [(4, .int 4), (5, .int 0), (3, .int 1), (0, .ref (ad 0)), (1, .int s1), (2, .int mi)]) hx hb dX2_bestHeaps_60 hl (k := 1) rfl (by decide) (by decide) rfl (fun ls hl => ?_)
      refine lv_goto (tgt := 9) hx hb dX2_bestHeaps_63 (by decide) ?_
      refine lv_iload hx hb dX2_bestHeaps_9 (lv_at hl 0 rfl) ?_
      refine lv_bipush (v := 6) hx hb dX2_bestHeaps_11 (by decide) ?_
      refine lv_icmp_gt (tgt := 66) hx hb dX2_bestHeaps_13 (by decide) (fun h => absurd h (by decide)) (fun _ => ?_)
      refine lv_iload hx hb dX2_bestHeaps_16 (lv_at hl 0 rfl) ?_
      refine lv_iload_n hx hb dX2_bestHeaps_18 rfl (lv_at hl 4 rfl) ?_
      refine lv_icmp_gt (tgt := 66) hx hb dX2_bestHeaps_19 (by decide) (fun h_19_34 => ?_) (fun h_19_34 => ?_)
      · refine lv_iload_n hx hb dX2_bestHeaps_66 rfl (lv_at hl 2 rfl) ?_
        exact cg_iret (nw := fun _ => 0) hC hr hlk hO.same rfl (Nat.le_of_ble_eq_true rfl) (Nat.le_of_ble_eq_true rfl) (⟨c2_1_4, c5_1_5, c7_1_6, cz_33_33, cz_33_32, cz_33_31, cz_33_30, rfl, rfl⟩) dX2_bestHeaps_67
      · refine lv_aload_n hx hb dX2_bestHeaps_22 rfl (lv_at hl 3 rfl) ?_
        refine lv_iload_n hx hb dX2_bestHeaps_23 rfl (lv_at hl 4 rfl) ?_
        refine lv_iload hx hb dX2_bestHeaps_24 (lv_at hl 0 rfl) ?_
        refine lv_iadd hx hb dX2_bestHeaps_26 ?_
        refine lv_iconst (v := 1) hx hb dX2_bestHeaps_27 (by decide) ?_
        refine lv_isub hx hb dX2_bestHeaps_28 ?_
        refine lv_iload hx hb dX2_bestHeaps_29 (lv_at hl 0 rfl) ?_
        refine lv_idiv hx hb dX2_bestHeaps_31 (by decide) ?_
        refine lv_iload_n hx hb dX2_bestHeaps_32 rfl (lv_at hl 5 rfl) ?_
        refine cg_Vi (As := [.int (((s1 + 4) - 1) / 4), .int mi]) (rest := []) (mc := 0) (ms := 0) (rm := { frames := 2, cells := 0, slots := 0, locals := 43 }) hC hl.1 hO [0, 4, 11, 12, 13, 14, 5] rfl (c_X2_payOfOneMore l D cy _ _ (f0 := ((f0.set 5 (.int 0)).set 10 (.int 0))) (f6 := f5) (f1 := f4) (c2 := cz_33_30) (c3 := cz_33_31) (c4 := cz_33_32) (c5 := cz_33_33) (x1 := (((s1 + 4) - 1) / 4)) (x2 := mi) rfl (fs_ne (by decide) (fs_ne (by decide) f0_0)) (fs_ne (by decide) (fs_ne (by decide) f0_3)) o4 f4_4 f4_5 f4_6 f4_7 rfl rfl rfl rfl o5 f5_11) gq_c_X2_bestHeaps_c_X2_payOfOneMore_51 rfl rfl rfl 2 (by decide +kernel) ⟨Nat.le_of_ble_eq_true rfl, Nat.le_of_ble_eq_true rfl⟩ rfl (by decide) rfl rfl rfl (Nat.le_of_ble_eq_true rfl) dX2_bestHeaps_33 ⟨Nat.le_of_ble_eq_true rfl, Nat.le_of_ble_eq_true rfl⟩ (fun r_33_37 nw_33_35 l_33_36 H locs hw hO => ?_)
        obtain ⟨cz_33_38, cz_33_39, cz_33_40, cz_33_41, rfl, rfl⟩ := hw
        have hO : cO D cy A s.heap s 16 ad (cup [(8, .inl (cy 0, 5, .inl c2_1_4)), (9, .inl (cy 0, 20, .inl c5_1_5)), (10, .inl (cy 0, 4, .inl c7_1_6)), (14, .inl (cy 0, 5, .inl cz_33_41)), (13, .inl (cy 0, 5, .inl cz_33_40)), (12, .inl (cy 0, 5, .inl cz_33_39)), (11, .inl (cy 0, 5, .inl cz_33_38)), (0, .inr (2, ((f0.set 5 (.int 0)).set 10 (.int 0))))] g) _ _ := hO
        refine lv_istore (lv' := [(5, .int 0), (4, .int 4), (3, .int 1), (0, .ref (ad 0)), (1, .int s1), (2, .int mi)]) hx hb dX2_bestHeaps_36 hl (by decide) rfl (fun ls hl => ?_)
        refine lv_iload_n hx hb dX2_bestHeaps_38 rfl (lv_at hl 2 rfl) ?_
        refine lv_if_eq (tgt := 51) hx hb dX2_bestHeaps_39 (by decide) (fun h => absurd h (by decide)) (fun _ => ?_)
        refine lv_iload hx hb dX2_bestHeaps_42 (lv_at hl 0 rfl) ?_
        refine lv_aload_n hx hb dX2_bestHeaps_44 rfl (lv_at hl 3 rfl) ?_
        refine cg_get hC hO 0 (by decide) rfl rfl i_X2 10 (by decide) (List.mem_of_getElem? (i := 55) rfl) (fs_eq (fs_ne (by decide) f0_10)) dX2_bestHeaps_45 ?_
        refine lv_icmp_ge (tgt := 60) hx hb dX2_bestHeaps_48 (by decide) (fun _ => ?_) (fun h => absurd h (by decide))
        refine lv_iinc (v := 5) (lv' := [(4, .int 5), (5, .int 0), (3, .int 1), (0, .ref (ad 0)), (1, .int s1), (2, .int mi)]) hx hb dX2_bestHeaps_60 hl (k := 1) rfl (by decide) (by decide) rfl (fun ls hl => ?_)
        refine lv_goto (tgt := 9) hx hb dX2_bestHeaps_63 (by decide) ?_
        refine lv_iload hx hb dX2_bestHeaps_9 (lv_at hl 0 rfl) ?_
        refine lv_bipush (v := 6) hx hb dX2_bestHeaps_11 (by decide) ?_
        refine lv_icmp_gt (tgt := 66) hx hb dX2_bestHeaps_13 (by decide) (fun h => absurd h (by decide)) (fun _ => ?_)
        refine lv_iload hx hb dX2_bestHeaps_16 (lv_at hl 0 rfl) ?_
        refine lv_iload_n hx hb dX2_bestHeaps_18 rfl (lv_at hl 4 rfl) ?_
        refine lv_icmp_gt (tgt := 66) hx hb dX2_bestHeaps_19 (by decide) (fun h_19_42 => ?_) (fun h_19_42 => ?_)
        · refine lv_iload_n hx hb dX2_bestHeaps_66 rfl (lv_at hl 2 rfl) ?_
          exact cg_iret (nw := fun _ => 0) hC hr hlk hO.same rfl (Nat.le_of_ble_eq_true rfl) (Nat.le_of_ble_eq_true rfl) (⟨c2_1_4, c5_1_5, c7_1_6, cz_33_41, cz_33_40, cz_33_39, cz_33_38, rfl, rfl⟩) dX2_bestHeaps_67
        · refine lv_aload_n hx hb dX2_bestHeaps_22 rfl (lv_at hl 3 rfl) ?_
          refine lv_iload_n hx hb dX2_bestHeaps_23 rfl (lv_at hl 4 rfl) ?_
          refine lv_iload hx hb dX2_bestHeaps_24 (lv_at hl 0 rfl) ?_
          refine lv_iadd hx hb dX2_bestHeaps_26 ?_
          refine lv_iconst (v := 1) hx hb dX2_bestHeaps_27 (by decide) ?_
          refine lv_isub hx hb dX2_bestHeaps_28 ?_
          refine lv_iload hx hb dX2_bestHeaps_29 (lv_at hl 0 rfl) ?_
          refine lv_idiv hx hb dX2_bestHeaps_31 (by decide) ?_
          refine lv_iload_n hx hb dX2_bestHeaps_32 rfl (lv_at hl 5 rfl) ?_
          refine cg_Vi (As := [.int (((s1 + 5) - 1) / 5), .int mi]) (rest := []) (mc := 0) (ms := 0) (rm := { frames := 2, cells := 0, slots := 0, locals := 43 }) hC hl.1 hO [0, 4, 11, 12, 13, 14, 5] rfl (c_X2_payOfOneMore l D cy _ _ (f0 := ((f0.set 5 (.int 0)).set 10 (.int 0))) (f6 := f5) (f1 := f4) (c2 := cz_33_38) (c3 := cz_33_39) (c4 := cz_33_40) (c5 := cz_33_41) (x1 := (((s1 + 5) - 1) / 5)) (x2 := mi) rfl (fs_ne (by decide) (fs_ne (by decide) f0_0)) (fs_ne (by decide) (fs_ne (by decide) f0_3)) o4 f4_4 f4_5 f4_6 f4_7 rfl rfl rfl rfl o5 f5_11) gq_c_X2_bestHeaps_c_X2_payOfOneMore_51 rfl rfl rfl 2 (by decide +kernel) ⟨Nat.le_of_ble_eq_true rfl, Nat.le_of_ble_eq_true rfl⟩ rfl (by decide) rfl rfl rfl (Nat.le_of_ble_eq_true rfl) dX2_bestHeaps_33 ⟨Nat.le_of_ble_eq_true rfl, Nat.le_of_ble_eq_true rfl⟩ (fun r_33_45 nw_33_43 l_33_44 H locs hw hO => ?_)
          obtain ⟨cz_33_46, cz_33_47, cz_33_48, cz_33_49, rfl, rfl⟩ := hw
          have hO : cO D cy A s.heap s 16 ad (cup [(8, .inl (cy 0, 5, .inl c2_1_4)), (9, .inl (cy 0, 20, .inl c5_1_5)), (10, .inl (cy 0, 4, .inl c7_1_6)), (14, .inl (cy 0, 5, .inl cz_33_49)), (13, .inl (cy 0, 5, .inl cz_33_48)), (12, .inl (cy 0, 5, .inl cz_33_47)), (11, .inl (cy 0, 5, .inl cz_33_46)), (0, .inr (2, ((f0.set 5 (.int 0)).set 10 (.int 0))))] g) _ _ := hO
          refine lv_istore (lv' := [(5, .int 0), (4, .int 5), (3, .int 1), (0, .ref (ad 0)), (1, .int s1), (2, .int mi)]) hx hb dX2_bestHeaps_36 hl (by decide) rfl (fun ls hl => ?_)
          refine lv_iload_n hx hb dX2_bestHeaps_38 rfl (lv_at hl 2 rfl) ?_
          refine lv_if_eq (tgt := 51) hx hb dX2_bestHeaps_39 (by decide) (fun h => absurd h (by decide)) (fun _ => ?_)
          refine lv_iload hx hb dX2_bestHeaps_42 (lv_at hl 0 rfl) ?_
          refine lv_aload_n hx hb dX2_bestHeaps_44 rfl (lv_at hl 3 rfl) ?_
          refine cg_get hC hO 0 (by decide) rfl rfl i_X2 10 (by decide) (List.mem_of_getElem? (i := 55) rfl) (fs_eq (fs_ne (by decide) f0_10)) dX2_bestHeaps_45 ?_
          refine lv_icmp_ge (tgt := 60) hx hb dX2_bestHeaps_48 (by decide) (fun _ => ?_) (fun h => absurd h (by decide))
          refine lv_iinc (v := 6) (lv' := [(4, .int 6), (5, .int 0), (3, .int 1), (0, .ref (ad 0)), (1, .int s1), (2, .int mi)]) hx hb dX2_bestHeaps_60 hl (k := 1) rfl (by decide) (by decide) rfl (fun ls hl => ?_)
          refine lv_goto (tgt := 9) hx hb dX2_bestHeaps_63 (by decide) ?_
          refine lv_iload hx hb dX2_bestHeaps_9 (lv_at hl 0 rfl) ?_
          refine lv_bipush (v := 6) hx hb dX2_bestHeaps_11 (by decide) ?_
          refine lv_icmp_gt (tgt := 66) hx hb dX2_bestHeaps_13 (by decide) (fun h => absurd h (by decide)) (fun _ => ?_)
          refine lv_iload hx hb dX2_bestHeaps_16 (lv_at hl 0 rfl) ?_
          refine lv_iload_n hx hb dX2_bestHeaps_18 rfl (lv_at hl 4 rfl) ?_
          refine lv_icmp_gt (tgt := 66) hx hb dX2_bestHeaps_19 (by decide) (fun h_19_50 => ?_) (fun h_19_50 => ?_)
          · refine lv_iload_n hx hb dX2_bestHeaps_66 rfl (lv_at hl 2 rfl) ?_
            exact cg_iret (nw := fun _ => 0) hC hr hlk hO.same rfl (Nat.le_of_ble_eq_true rfl) (Nat.le_of_ble_eq_true rfl) (⟨c2_1_4, c5_1_5, c7_1_6, cz_33_49, cz_33_48, cz_33_47, cz_33_46, rfl, rfl⟩) dX2_bestHeaps_67
          · refine lv_aload_n hx hb dX2_bestHeaps_22 rfl (lv_at hl 3 rfl) ?_
            refine lv_iload_n hx hb dX2_bestHeaps_23 rfl (lv_at hl 4 rfl) ?_
            refine lv_iload hx hb dX2_bestHeaps_24 (lv_at hl 0 rfl) ?_
            refine lv_iadd hx hb dX2_bestHeaps_26 ?_
            refine lv_iconst (v := 1) hx hb dX2_bestHeaps_27 (by decide) ?_
            refine lv_isub hx hb dX2_bestHeaps_28 ?_
            refine lv_iload hx hb dX2_bestHeaps_29 (lv_at hl 0 rfl) ?_
            refine lv_idiv hx hb dX2_bestHeaps_31 (by decide) ?_
            refine lv_iload_n hx hb dX2_bestHeaps_32 rfl (lv_at hl 5 rfl) ?_
            refine cg_Vi (As := [.int (((s1 + 6) - 1) / 6), .int mi]) (rest := []) (mc := 0) (ms := 0) (rm := { frames := 2, cells := 0, slots := 0, locals := 43 }) hC hl.1 hO [0, 4, 11, 12, 13, 14, 5] rfl (c_X2_payOfOneMore l D cy _ _ (f0 := ((f0.set 5 (.int 0)).set 10 (.int 0))) (f6 := f5) (f1 := f4) (c2 := cz_33_46) (c3 := cz_33_47) (c4 := cz_33_48) (c5 := cz_33_49) (x1 := (((s1 + 6) - 1) / 6)) (x2 := mi) rfl (fs_ne (by decide) (fs_ne (by decide) f0_0)) (fs_ne (by decide) (fs_ne (by decide) f0_3)) o4 f4_4 f4_5 f4_6 f4_7 rfl rfl rfl rfl o5 f5_11) gq_c_X2_bestHeaps_c_X2_payOfOneMore_51 rfl rfl rfl 2 (by decide +kernel) ⟨Nat.le_of_ble_eq_true rfl, Nat.le_of_ble_eq_true rfl⟩ rfl (by decide) rfl rfl rfl (Nat.le_of_ble_eq_true rfl) dX2_bestHeaps_33 ⟨Nat.le_of_ble_eq_true rfl, Nat.le_of_ble_eq_true rfl⟩ (fun r_33_53 nw_33_51 l_33_52 H locs hw hO => ?_)
            obtain ⟨cz_33_54, cz_33_55, cz_33_56, cz_33_57, rfl, rfl⟩ := hw
            have hO : cO D cy A s.heap s 16 ad (cup [(8, .inl (cy 0, 5, .inl c2_1_4)), (9, .inl (cy 0, 20, .inl c5_1_5)), (10, .inl (cy 0, 4, .inl c7_1_6)), (14, .inl (cy 0, 5, .inl cz_33_57)), (13, .inl (cy 0, 5, .inl cz_33_56)), (12, .inl (cy 0, 5, .inl cz_33_55)), (11, .inl (cy 0, 5, .inl cz_33_54)), (0, .inr (2, ((f0.set 5 (.int 0)).set 10 (.int 0))))] g) _ _ := hO
            refine lv_istore (lv' := [(5, .int 0), (4, .int 6), (3, .int 1), (0, .ref (ad 0)), (1, .int s1), (2, .int mi)]) hx hb dX2_bestHeaps_36 hl (by decide) rfl (fun ls hl => ?_)
            refine lv_iload_n hx hb dX2_bestHeaps_38 rfl (lv_at hl 2 rfl) ?_
            refine lv_if_eq (tgt := 51) hx hb dX2_bestHeaps_39 (by decide) (fun h => absurd h (by decide)) (fun _ => ?_)
            refine lv_iload hx hb dX2_bestHeaps_42 (lv_at hl 0 rfl) ?_
            refine lv_aload_n hx hb dX2_bestHeaps_44 rfl (lv_at hl 3 rfl) ?_
            refine cg_get hC hO 0 (by decide) rfl rfl i_X2 10 (by decide) (List.mem_of_getElem? (i := 55) rfl) (fs_eq (fs_ne (by decide) f0_10)) dX2_bestHeaps_45 ?_
            refine lv_icmp_ge (tgt := 60) hx hb dX2_bestHeaps_48 (by decide) (fun _ => ?_) (fun h => absurd h (by decide))
            refine lv_iinc (v := 7) (lv' := [(4, .int 7), (5, .int 0), (3, .int 1), (0, .ref (ad 0)), (1, .int s1), (2, .int mi)]) hx hb dX2_bestHeaps_60 hl (k := 1) rfl (by decide) (by decide) rfl (fun ls hl => ?_)
            refine lv_goto (tgt := 9) hx hb dX2_bestHeaps_63 (by decide) ?_
            refine lv_iload hx hb dX2_bestHeaps_9 (lv_at hl 0 rfl) ?_
            refine lv_bipush (v := 6) hx hb dX2_bestHeaps_11 (by decide) ?_
            refine lv_icmp_gt (tgt := 66) hx hb dX2_bestHeaps_13 (by decide) (fun _ => ?_) (fun h => absurd h (by decide))
            refine lv_iload_n hx hb dX2_bestHeaps_66 rfl (lv_at hl 2 rfl) ?_
            exact cg_iret (nw := fun _ => 0) hC hr hlk hO.same rfl (Nat.le_of_ble_eq_true rfl) (Nat.le_of_ble_eq_true rfl) (⟨c2_1_4, c5_1_5, c7_1_6, cz_33_57, cz_33_56, cz_33_55, cz_33_54, rfl, rfl⟩) dX2_bestHeaps_67

theorem dX11_heaps_0 : decode cX11_heaps 0 = .ok (.iload_n 1, 1) := by decide +kernel
theorem dX11_heaps_1 : decode cX11_heaps 1 = .ok (.iconst 1, 1) := by decide +kernel
theorem dX11_heaps_2 : decode cX11_heaps 2 = .ok (.bipush 99, 2) := by decide +kernel
theorem dX11_heaps_4 : decode cX11_heaps 4 = .ok (.invokestatic 107, 3) := by decide +kernel
theorem dX11_heaps_7 : decode cX11_heaps 7 = .ok (.ifCond .eq 38, 3) := by decide +kernel
theorem dX11_heaps_10 : decode cX11_heaps 10 = .ok (.iload_n 2, 1) := by decide +kernel
theorem dX11_heaps_11 : decode cX11_heaps 11 = .ok (.iconst 0, 1) := by decide +kernel
theorem dX11_heaps_12 : decode cX11_heaps 12 = .ok (.sipush 600, 3) := by decide +kernel
theorem dX11_heaps_15 : decode cX11_heaps 15 = .ok (.invokestatic 107, 3) := by decide +kernel
theorem dX11_heaps_18 : decode cX11_heaps 18 = .ok (.ifCond .eq 27, 3) := by decide +kernel
theorem dX11_heaps_21 : decode cX11_heaps 21 = .ok (.iload_n 3, 1) := by decide +kernel
theorem dX11_heaps_22 : decode cX11_heaps 22 = .ok (.iconst 0, 1) := by decide +kernel
theorem dX11_heaps_23 : decode cX11_heaps 23 = .ok (.iconst 1, 1) := by decide +kernel
theorem dX11_heaps_24 : decode cX11_heaps 24 = .ok (.invokestatic 107, 3) := by decide +kernel
theorem dX11_heaps_27 : decode cX11_heaps 27 = .ok (.ifCond .eq 18, 3) := by decide +kernel
theorem dX11_heaps_30 : decode cX11_heaps 30 = .ok (.aload_n 0, 1) := by decide +kernel
theorem dX11_heaps_31 : decode cX11_heaps 31 = .ok (.getfield 37, 3) := by decide +kernel
theorem dX11_heaps_34 : decode cX11_heaps 34 = .ok (.getfield 49, 3) := by decide +kernel
theorem dX11_heaps_37 : decode cX11_heaps 37 = .ok (.bipush 6, 2) := by decide +kernel
theorem dX11_heaps_39 : decode cX11_heaps 39 = .ok (.iadd, 1) := by decide +kernel
theorem dX11_heaps_40 : decode cX11_heaps 40 = .ok (.bipush 24, 2) := by decide +kernel
theorem dX11_heaps_42 : decode cX11_heaps 42 = .ok (.if_icmp .le 5, 3) := by decide +kernel
theorem dX11_heaps_45 : decode cX11_heaps 45 = .ok (.iconst (-1), 1) := by decide +kernel
theorem dX11_heaps_46 : decode cX11_heaps 46 = .ok (.ireturn, 1) := by decide +kernel
theorem dX11_heaps_47 : decode cX11_heaps 47 = .ok (.aload_n 0, 1) := by decide +kernel
theorem dX11_heaps_48 : decode cX11_heaps 48 = .ok (.getfield 79, 3) := by decide +kernel
theorem dX11_heaps_51 : decode cX11_heaps 51 = .ok (.iload_n 1, 1) := by decide +kernel
theorem dX11_heaps_52 : decode cX11_heaps 52 = .ok (.iload_n 2, 1) := by decide +kernel
theorem dX11_heaps_53 : decode cX11_heaps 53 = .ok (.invokevirtual 228, 3) := by decide +kernel
theorem dX11_heaps_56 : decode cX11_heaps 56 = .ok (.istore 4, 2) := by decide +kernel
theorem dX11_heaps_58 : decode cX11_heaps 58 = .ok (.iload_n 3, 1) := by decide +kernel
theorem dX11_heaps_59 : decode cX11_heaps 59 = .ok (.ifCond .ne 8, 3) := by decide +kernel
theorem dX11_heaps_62 : decode cX11_heaps 62 = .ok (.iload 4, 2) := by decide +kernel
theorem dX11_heaps_64 : decode cX11_heaps 64 = .ok (.goto 10, 3) := by decide +kernel
theorem dX11_heaps_67 : decode cX11_heaps 67 = .ok (.aload_n 0, 1) := by decide +kernel
theorem dX11_heaps_68 : decode cX11_heaps 68 = .ok (.getfield 79, 3) := by decide +kernel
theorem dX11_heaps_71 : decode cX11_heaps 71 = .ok (.getfield 232, 3) := by decide +kernel
theorem dX11_heaps_74 : decode cX11_heaps 74 = .ok (.ireturn, 1) := by decide +kernel
def wq_c_X11_heaps : List Cond := Cond.code yX11_heaps cX11_heaps 5 (some .int) :: (([Cond.methodLink RX11 107 yX11_within, Cond.static yX11_within, Cond.initialized RX11, Cond.code yX11_within cX11_within 3 (some .boolean), Cond.fieldLink RX11 37 "CrowToll" "stand" "LCrowToll$Stand;", Cond.fieldLink RX11 49 "CrowToll$Stand" "carts" "I", Cond.fieldLink RX11 79 "CrowToll" "drivers" "LCrowToll$Drivers;", Cond.methodLink RX11 228 yX2_bestHeaps, Cond.instanceMethod yX2_bestHeaps, Cond.selects RX2 yX2_bestHeaps yX2_bestHeaps, Cond.initialized RX2, Cond.code yX2_bestHeaps cX2_bestHeaps 6 (some .int), Cond.methodLink RX2 48 yX2_putInOrder, Cond.instanceMethod yX2_putInOrder, Cond.selects RX2 yX2_putInOrder yX2_putInOrder, Cond.code yX2_putInOrder cX2_putInOrder 1 none, Cond.fieldLink RX2 31 "CrowToll$Drivers" "stand" "LCrowToll$Stand;", Cond.fieldLink RX2 9 "CrowToll$Drivers" "order" "[I", Cond.methodLink RX2 65 yX9_coming, Cond.instanceMethod yX9_coming, Cond.selects RX9 yX9_coming yX9_coming, Cond.initialized RX9, Cond.code yX9_coming cX9_coming 4 (some .int), Cond.fieldLink RX9 21 "CrowToll$Stand" "carts" "I", Cond.fieldLink RX2 71 "CrowToll$Drivers" "going" "I", Cond.fieldLink RX2 74 "CrowToll$Stand" "minute" "[I", Cond.code yX11_putByMinutes cX11_putByMinutes 6 none, Cond.static yX11_putByMinutes, Cond.fieldLink RX2 44 "CrowToll$Drivers" "watch" "LCrowToll$Watch;", Cond.fieldLink RX2 81 "CrowToll$Stand" "counts" "[I", Cond.methodLink RX2 84 yX10_sit, Cond.instanceMethod yX10_sit, Cond.selects RX10 yX10_sit yX10_sit, Cond.initialized RX10, Cond.code yX10_sit cX10_sit 2 none, Cond.fieldLink RX10 9 "CrowToll$Watch" "limit" "[I", Cond.methodLink RX10 37 arraycopyName, Cond.native arraycopyName, Cond.static arraycopyName, Cond.initialized "java/lang/System", Cond.fieldLink RX10 33 "CrowToll$Watch" "road" "LCrowToll$Road;", Cond.fieldLink RX10 43 "CrowToll$Road" "seat" "[I", Cond.fieldLink RX10 15 "CrowToll$Watch" "seat" "[I", Cond.fieldLink RX10 46 "CrowToll$Road" "seated" "[I", Cond.fieldLink RX10 18 "CrowToll$Watch" "seated" "[I", Cond.methodLink RX10 47 yX10_begin, Cond.instanceMethod yX10_begin, Cond.selects RX10 yX10_begin yX10_begin, Cond.code yX10_begin cX10_begin 1 none, Cond.fieldLink RX10 21 "CrowToll$Watch" "count" "[I", Cond.methodLink RX10 54 yJ7_fill_53178, Cond.static yJ7_fill_53178, Cond.initialized RJ7, Cond.code yJ7_fill_53178 cJ7_fill_53178 4 none, Cond.fieldLink RX10 24 "CrowToll$Watch" "total" "[I", Cond.fieldLink RX10 27 "CrowToll$Watch" "lookedAt" "[I", Cond.fieldLink RX10 30 "CrowToll$Watch" "countedAt" "[I", Cond.methodLink RX2 51 yX2_payOfOneMore, Cond.instanceMethod yX2_payOfOneMore, Cond.selects RX2 yX2_payOfOneMore yX2_payOfOneMore, Cond.code yX2_payOfOneMore cX2_payOfOneMore 6 (some .int), Cond.methodLink RX2 88 yX10_begin, Cond.fieldLink RX2 27 "CrowToll$Drivers" "road" "LCrowToll$Road;", Cond.fieldLink RX2 91 "CrowToll$Road" "posts" "I", Cond.fieldLink RX2 61 "CrowToll$Drivers" "heapsPay" "I", Cond.fieldLink RX11 232 "CrowToll$Drivers" "heapsPay" "I"] : List Cond) ++ wsX20 ++ wsX70 ++ wsX90 ++ wsX100 ++ wsX110)
set_option maxRecDepth 20000 in
theorem gr_c_X11_heaps_c_X11_within : GoodIn wq_c_X11_heaps wq_c_X11_within := List.forall_mem_cons.mpr ⟨⟨(List.mem_of_getElem? (i := 4) rfl), good_of_word rfl⟩, (fun _ h => absurd h List.not_mem_nil)⟩
set_option maxRecDepth 20000 in
theorem gq_c_X11_heaps_c_X11_within_107 : GoodIn wq_c_X11_heaps (va_wsS RX11 107 yX11_within wq_c_X11_within) := goodIn_app (List.forall_mem_cons.mpr ⟨⟨(List.mem_of_getElem? (i := 1) rfl), good_of_word rfl⟩, List.forall_mem_cons.mpr ⟨⟨(List.mem_of_getElem? (i := 2) rfl), good_of_word rfl⟩, List.forall_mem_cons.mpr ⟨⟨(List.mem_of_getElem? (i := 3) rfl), good_of_word rfl⟩, (fun _ h => absurd h List.not_mem_nil)⟩⟩⟩) gr_c_X11_heaps_c_X11_within
set_option maxRecDepth 20000 in
theorem gr_c_X11_heaps_c_X2_bestHeaps : GoodIn wq_c_X11_heaps wq_c_X2_bestHeaps := List.forall_mem_cons.mpr ⟨⟨(List.mem_of_getElem? (i := 12) rfl), good_of_word rfl⟩, List.forall_mem_append.mpr ⟨List.forall_mem_append.mpr ⟨List.forall_mem_append.mpr ⟨List.forall_mem_append.mpr ⟨List.forall_mem_cons.mpr ⟨⟨(List.mem_of_getElem? (i := 13) rfl), good_of_word rfl⟩, List.forall_mem_cons.mpr ⟨⟨(List.mem_of_getElem? (i := 14) rfl), good_of_word rfl⟩, List.forall_mem_cons.mpr ⟨⟨(List.mem_of_getElem? (i := 15) rfl), good_of_word rfl⟩, List.forall_mem_cons.mpr ⟨⟨(List.mem_of_getElem? (i := 11) rfl), good_of_word rfl⟩, List.forall_mem_cons.mpr ⟨⟨(List.mem_of_getElem? (i := 16) rfl), good_of_word rfl⟩, List.forall_mem_cons.mpr ⟨⟨(List.mem_of_getElem? (i := 17) rfl), good_of_word rfl⟩, List.forall_mem_cons.mpr ⟨⟨(List.mem_of_getElem? (i := 18) rfl), good_of_word rfl⟩, List.forall_mem_cons.mpr ⟨⟨(List.mem_of_getElem? (i := 19) rfl), good_of_word rfl⟩, List.forall_mem_cons.mpr ⟨⟨(List.mem_of_getElem? (i := 20) rfl), good_of_word rfl⟩, List.forall_mem_cons.mpr ⟨⟨(List.mem_of_getElem? (i := 21) rfl), good_of_word rfl⟩, List.forall_mem_cons.mpr ⟨⟨(List.mem_of_getElem? (i := 22) rfl), good_of_word rfl⟩, List.forall_mem_cons.mpr ⟨⟨(List.mem_of_getElem? (i := 23) rfl), good_of_word rfl⟩, List.forall_mem_cons.mpr ⟨⟨(List.mem_of_getElem? (i := 24) rfl), good_of_word rfl⟩, List.forall_mem_cons.mpr ⟨⟨(List.mem_of_getElem? (i := 25) rfl), good_of_word rfl⟩, List.forall_mem_cons.mpr ⟨⟨(List.mem_of_getElem? (i := 26) rfl), good_of_word rfl⟩, List.forall_mem_cons.mpr ⟨⟨(List.mem_of_getElem? (i := 27) rfl), good_of_word rfl⟩, List.forall_mem_cons.mpr ⟨⟨(List.mem_of_getElem? (i := 28) rfl), good_of_word rfl⟩, List.forall_mem_cons.mpr ⟨⟨(List.mem_of_getElem? (i := 3) rfl), good_of_word rfl⟩, List.forall_mem_cons.mpr ⟨⟨(List.mem_of_getElem? (i := 29) rfl), good_of_word rfl⟩, List.forall_mem_cons.mpr ⟨⟨(List.mem_of_getElem? (i := 30) rfl), good_of_word rfl⟩, List.forall_mem_cons.mpr ⟨⟨(List.mem_of_getElem? (i := 31) rfl), good_of_word rfl⟩, List.forall_mem_cons.mpr ⟨⟨(List.mem_of_getElem? (i := 32) rfl), good_of_word rfl⟩, List.forall_mem_cons.mpr ⟨⟨(List.mem_of_getElem? (i := 33) rfl), good_of_word rfl⟩, List.forall_mem_cons.mpr ⟨⟨(List.mem_of_getElem? (i := 34) rfl), good_of_word rfl⟩, List.forall_mem_cons.mpr ⟨⟨(List.mem_of_getElem? (i := 35) rfl), good_of_word rfl⟩, List.forall_mem_cons.mpr ⟨⟨(List.mem_of_getElem? (i := 36) rfl), good_of_word rfl⟩, List.forall_mem_cons.mpr ⟨⟨(List.mem_of_getElem? (i := 37) rfl), good_of_word rfl⟩, List.forall_mem_cons.mpr ⟨⟨(List.mem_of_getElem? (i := 38) rfl), good_of_word rfl⟩, List.forall_mem_cons.mpr ⟨⟨(List.mem_of_getElem? (i := 39) rfl), good_of_word rfl⟩, List.forall_mem_cons.mpr ⟨⟨(List.mem_of_getElem? (i := 40) rfl), good_of_word rfl⟩, List.forall_mem_cons.mpr ⟨⟨(List.mem_of_getElem? (i := 41) rfl), good_of_word rfl⟩, List.forall_mem_cons.mpr ⟨⟨(List.mem_of_getElem? (i := 42) rfl), good_of_word rfl⟩, List.forall_mem_cons.mpr ⟨⟨(List.mem_of_getElem? (i := 43) rfl), good_of_word rfl⟩, List.forall_mem_cons.mpr ⟨⟨(List.mem_of_getElem? (i := 44) rfl), good_of_word rfl⟩, List.forall_mem_cons.mpr ⟨⟨(List.mem_of_getElem? (i := 45) rfl), good_of_word rfl⟩, List.forall_mem_cons.mpr ⟨⟨(List.mem_of_getElem? (i := 46) rfl), good_of_word rfl⟩, List.forall_mem_cons.mpr ⟨⟨(List.mem_of_getElem? (i := 47) rfl), good_of_word rfl⟩, List.forall_mem_cons.mpr ⟨⟨(List.mem_of_getElem? (i := 48) rfl), good_of_word rfl⟩, List.forall_mem_cons.mpr ⟨⟨(List.mem_of_getElem? (i := 49) rfl), good_of_word rfl⟩, List.forall_mem_cons.mpr ⟨⟨(List.mem_of_getElem? (i := 50) rfl), good_of_word rfl⟩, List.forall_mem_cons.mpr ⟨⟨(List.mem_of_getElem? (i := 51) rfl), good_of_word rfl⟩, List.forall_mem_cons.mpr ⟨⟨(List.mem_of_getElem? (i := 52) rfl), good_of_word rfl⟩, List.forall_mem_cons.mpr ⟨⟨(List.mem_of_getElem? (i := 53) rfl), good_of_word rfl⟩, List.forall_mem_cons.mpr ⟨⟨(List.mem_of_getElem? (i := 54) rfl), good_of_word rfl⟩, List.forall_mem_cons.mpr ⟨⟨(List.mem_of_getElem? (i := 55) rfl), good_of_word rfl⟩, List.forall_mem_cons.mpr ⟨⟨(List.mem_of_getElem? (i := 56) rfl), good_of_word rfl⟩, List.forall_mem_cons.mpr ⟨⟨(List.mem_of_getElem? (i := 57) rfl), good_of_word rfl⟩, List.forall_mem_cons.mpr ⟨⟨(List.mem_of_getElem? (i := 58) rfl), good_of_word rfl⟩, List.forall_mem_cons.mpr ⟨⟨(List.mem_of_getElem? (i := 59) rfl), good_of_word rfl⟩, List.forall_mem_cons.mpr ⟨⟨(List.mem_of_getElem? (i := 60) rfl), good_of_word rfl⟩, List.forall_mem_cons.mpr ⟨⟨(List.mem_of_getElem? (i := 61) rfl), good_of_word rfl⟩, List.forall_mem_cons.mpr ⟨⟨(List.mem_of_getElem? (i := 62) rfl), good_of_word rfl⟩, List.forall_mem_cons.mpr ⟨⟨(List.mem_of_getElem? (i := 63) rfl), good_of_word rfl⟩, List.forall_mem_cons.mpr ⟨⟨(List.mem_of_getElem? (i := 64) rfl), good_of_word rfl⟩, List.forall_mem_cons.mpr ⟨⟨(List.mem_of_getElem? (i := 65) rfl), good_of_word rfl⟩, (fun _ h => absurd h List.not_mem_nil)⟩⟩⟩⟩⟩⟩⟩⟩⟩⟩⟩⟩⟩⟩⟩⟩⟩⟩⟩⟩⟩⟩⟩⟩⟩⟩⟩⟩⟩⟩⟩⟩⟩⟩⟩⟩⟩⟩⟩⟩⟩⟩⟩⟩⟩⟩⟩⟩⟩⟩⟩⟩⟩⟩⟩, fun w h => ⟨(fun w h => List.mem_cons_of_mem _ (List.mem_append_left _ (List.mem_append_left _ (List.mem_append_left _ (List.mem_append_left _ (List.mem_append_right _ h)))))) w h, good_of_word (List.all_eq_true.mp gw_X2 w h)⟩⟩, fun w h => ⟨(fun w h => List.mem_cons_of_mem _ (List.mem_append_left _ (List.mem_append_left _ (List.mem_append_left _ (List.mem_append_right _ h))))) w h, good_of_word (List.all_eq_true.mp gw_X7 w h)⟩⟩, fun w h => ⟨(fun w h => List.mem_cons_of_mem _ (List.mem_append_left _ (List.mem_append_left _ (List.mem_append_right _ h)))) w h, good_of_word (List.all_eq_true.mp gw_X9 w h)⟩⟩, fun w h => ⟨(fun w h => List.mem_cons_of_mem _ (List.mem_append_left _ (List.mem_append_right _ h))) w h, good_of_word (List.all_eq_true.mp gw_X10 w h)⟩⟩⟩
set_option maxRecDepth 20000 in
theorem gq_c_X11_heaps_c_X2_bestHeaps_228 : GoodIn wq_c_X11_heaps (wsV RX11 228 RX2 yX2_bestHeaps wq_c_X2_bestHeaps) := goodIn_app (List.forall_mem_cons.mpr ⟨⟨(List.mem_of_getElem? (i := 8) rfl), good_of_word rfl⟩, List.forall_mem_cons.mpr ⟨⟨(List.mem_of_getElem? (i := 9) rfl), good_of_word rfl⟩, List.forall_mem_cons.mpr ⟨⟨(List.mem_of_getElem? (i := 10) rfl), good_of_word rfl⟩, List.forall_mem_cons.mpr ⟨⟨(List.mem_of_getElem? (i := 11) rfl), good_of_word rfl⟩, (fun _ h => absurd h List.not_mem_nil)⟩⟩⟩⟩) gr_c_X11_heaps_c_X2_bestHeaps
set_option maxHeartbeats 8000000 in
set_option maxRecDepth 100000 in
theorem c_X11_heaps (l : Launch) (D : va_G) (cy : Nat → ClassId) (ad : Nat → Nat) (g : Nat → va_E) {f0 : List Value} {f1 : List Value} {f2 : List Value} {f3 : List Value} {c4 : Nat → Int32} {c5 : Nat → Int32} {c6 : Nat → Int32} {c7 : Nat → Int32} {f8 : List Value} {c9 : Nat → Int32} {c10 : Nat → Int32} {c11 : Nat → Int32} {c12 : Nat → Int32} {c13 : Nat → Int32} {c14 : Nat → Int32} {c15 : Nat → Int32} {c16 : Nat → Int32} {x1 : Int32} {x2 : Int32} {x3 : Int32} (o0 : g 0 = .inr (11, f0)) (f0_4 : f0[4]? = some (.ref (ad 1))) (f0_9 : f0[9]? = some (.ref (ad 2))) (o1 : g 1 = .inr (9, f1)) (f1_0 : f1[0]? = some (.ref (ad 6))) (f1_3 : f1[3]? = some (.ref (ad 7))) (f1_4 : f1[4]? = some (.int 0)) (o2 : g 2 = .inr (2, f2)) (f2_0 : f2[0]? = some (.ref (ad 3))) (f2_1 : f2[1]? = some (.ref (ad 1))) (f2_3 : f2[3]? = some (.ref (ad 8))) (f2_4 : f2[4]? = some (.ref (ad 16))) (f2_5 : f2[5]? = some (.int 0)) (f2_10 : f2[10]? = some (.int 0)) (o3 : g 3 = .inr (7, f3)) (f3_9 : f3[9]? = some (.ref (ad 4))) (f3_10 : f3[10]? = some (.ref (ad 5))) (f3_11 : f3[11]? = some (.int 0)) (a4 : g 4 = .inl (cy 0, 20, .inl c4)) (a5 : g 5 = .inl (cy 0, 4, .inl c5)) (a6 : g 6 = .inl (cy 0, 24, .inl c6)) (a7 : g 7 = .inl (cy 0, 5, .inl c7)) (o8 : g 8 = .inr (10, f8)) (f8_0 : f8[0]? = some (.ref (ad 3))) (f8_1 : f8[1]? = some (.ref (ad 9))) (f8_2 : f8[2]? = some (.ref (ad 10))) (f8_3 : f8[3]? = some (.ref (ad 11))) (f8_4 : f8[4]? = some (.ref (ad 12))) (f8_5 : f8[5]? = some (.ref (ad 13))) (f8_6 : f8[6]? = some (.ref (ad 14))) (f8_7 : f8[7]? = some (.ref (ad 15))) (a9 : g 9 = .inl (cy 0, 5, .inl c9)) (a10 : g 10 = .inl (cy 0, 20, .inl c10)) (a11 : g 11 = .inl (cy 0, 4, .inl c11)) (a12 : g 12 = .inl (cy 0, 5, .inl c12)) (a13 : g 13 = .inl (cy 0, 5, .inl c13)) (a14 : g 14 = .inl (cy 0, 5, .inl c14)) (a15 : g 15 = .inl (cy 0, 5, .inl c15)) (a16 : g 16 = .inl (cy 0, 24, .inl c16)) : cMi l yX11_heaps wq_c_X11_heaps { frames := 5, cells := 0, slots := 0, locals := 126 } 17 0 0 0 D cy ad g [.ref (ad 0), .int x1, .int x2, .int x3] (fun r nw lu => r = ans_heaps x1 x2 x3) := by
  refine cM_of (Qc := fun A => cQi (fun r nw lu => r = ans_heaps x1 x2 x3) D 17 0 ad g A) (cc := cX11_heaps) (maxL := 5) (ret := (some .int)) (by decide) rfl (Nat.le_of_ble_eq_true rfl) ?_
  intro p e s m below meth c A hC hr hlk hnm hO ls hl
  have hC : CallFix p m c cX11_heaps 5 s [.ref (ad 0), .int x1, .int x2, .int x3].toArray wq_c_X11_heaps RX11 := hC
  obtain ⟨hx, hb, hml, hown, hts⟩ := id hC
  have hl : lv_has ls 5 [(0, .ref (ad 0)), (1, .int x1), (2, .int x2), (3, .int x3)] := hl
  have i_X10 : ∀ w ∈ wsX100, w ∈ wq_c_X11_heaps := fun w h => List.mem_cons_of_mem _ (List.mem_append_left _ (List.mem_append_right _ h))
  have i_X11 : ∀ w ∈ wsX110, w ∈ wq_c_X11_heaps := fun w h => List.mem_cons_of_mem _ (List.mem_append_right _ h)
  have i_X2 : ∀ w ∈ wsX20, w ∈ wq_c_X11_heaps := fun w h => List.mem_cons_of_mem _ (List.mem_append_left _ (List.mem_append_left _ (List.mem_append_left _ (List.mem_append_left _ (List.mem_append_right _ h)))))
  have i_X7 : ∀ w ∈ wsX70, w ∈ wq_c_X11_heaps := fun w h => List.mem_cons_of_mem _ (List.mem_append_left _ (List.mem_append_left _ (List.mem_append_left _ (List.mem_append_right _ h))))
  have i_X9 : ∀ w ∈ wsX90, w ∈ wq_c_X11_heaps := fun w h => List.mem_cons_of_mem _ (List.mem_append_left _ (List.mem_append_left _ (List.mem_append_right _ h)))
  refine lv_iload_n hx hb dX11_heaps_0 rfl (lv_at hl 1 rfl) ?_
  refine lv_iconst (v := 1) hx hb dX11_heaps_1 (by decide) ?_
  refine lv_bipush (v := 99) hx hb dX11_heaps_2 (by decide) ?_
  refine cg_Si (As := [.int x1, .int 1, .int 99]) (rest := []) (mc := 0) (ms := 0) (rm := { frames := 0, cells := 0, slots := 0, locals := 0 }) hC hl.1 hO [] rfl (c_X11_within l D cy _ _ (x := x1) (y := 1) (z := 99) ) gq_c_X11_heaps_c_X11_within_107 rfl rfl rfl 3 (by decide +kernel) ⟨Nat.le_of_ble_eq_true rfl, Nat.le_of_ble_eq_true rfl⟩ rfl rfl (Nat.le_of_ble_eq_true rfl) dX11_heaps_4 ⟨Nat.le_of_ble_eq_true rfl, Nat.le_of_ble_eq_true rfl⟩ (fun r_4_3 nw_4_1 l_4_2 H locs hw hO => ?_)
  rcases hw with hw | hw
  · obtain ⟨hr_4_4, rfl, rfl⟩ := hw
    have hO : cO D cy A s.heap s 17 ad (cup [] g) _ _ := hO
    refine lv_if_eq (tgt := 45) hx hb dX11_heaps_7 (by decide) (fun h => absurd h (by decide)) (fun _ => ?_)
    refine lv_iload_n hx hb dX11_heaps_10 rfl (lv_at hl 2 rfl) ?_
    refine lv_iconst (v := 0) hx hb dX11_heaps_11 (by decide) ?_
    refine lv_sipush (v := 600) hx hb dX11_heaps_12 (by decide) ?_
    refine cg_Si (As := [.int x2, .int 0, .int 600]) (rest := []) (mc := 0) (ms := 0) (rm := { frames := 0, cells := 0, slots := 0, locals := 0 }) hC hl.1 hO [] rfl (c_X11_within l D cy _ _ (x := x2) (y := 0) (z := 600) ) gq_c_X11_heaps_c_X11_within_107 rfl rfl rfl 3 (by decide +kernel) ⟨Nat.le_of_ble_eq_true rfl, Nat.le_of_ble_eq_true rfl⟩ rfl rfl (Nat.le_of_ble_eq_true rfl) dX11_heaps_15 ⟨Nat.le_of_ble_eq_true rfl, Nat.le_of_ble_eq_true rfl⟩ (fun r_15_7 nw_15_5 l_15_6 H locs hw hO => ?_)
    rcases hw with hw | hw
    · obtain ⟨hr_15_8, rfl, rfl⟩ := hw
      have hO : cO D cy A s.heap s 17 ad (cup [] g) _ _ := hO
      refine lv_if_eq (tgt := 45) hx hb dX11_heaps_18 (by decide) (fun h => absurd h (by decide)) (fun _ => ?_)
      refine lv_iload_n hx hb dX11_heaps_21 rfl (lv_at hl 3 rfl) ?_
      refine lv_iconst (v := 0) hx hb dX11_heaps_22 (by decide) ?_
      refine lv_iconst (v := 1) hx hb dX11_heaps_23 (by decide) ?_
      refine cg_Si (As := [.int x3, .int 0, .int 1]) (rest := []) (mc := 0) (ms := 0) (rm := { frames := 0, cells := 0, slots := 0, locals := 0 }) hC hl.1 hO [] rfl (c_X11_within l D cy _ _ (x := x3) (y := 0) (z := 1) ) gq_c_X11_heaps_c_X11_within_107 rfl rfl rfl 3 (by decide +kernel) ⟨Nat.le_of_ble_eq_true rfl, Nat.le_of_ble_eq_true rfl⟩ rfl rfl (Nat.le_of_ble_eq_true rfl) dX11_heaps_24 ⟨Nat.le_of_ble_eq_true rfl, Nat.le_of_ble_eq_true rfl⟩ (fun r_24_11 nw_24_9 l_24_10 H locs hw hO => ?_)
      rcases hw with hw | hw
      · obtain ⟨hr_24_12, rfl, rfl⟩ := hw
        have hO : cO D cy A s.heap s 17 ad (cup [] g) _ _ := hO
        refine lv_if_eq (tgt := 45) hx hb dX11_heaps_27 (by decide) (fun h => absurd h (by decide)) (fun _ => ?_)
        refine lv_aload_n hx hb dX11_heaps_30 rfl (lv_at hl 0 rfl) ?_
        refine cg_get hC hO 0 (by decide) o0 rfl i_X11 4 (by decide) (List.mem_of_getElem? (i := 5) rfl) f0_4 dX11_heaps_31 ?_
        refine cg_get hC hO 1 (by decide) o1 rfl i_X9 4 (by decide) (List.mem_of_getElem? (i := 6) rfl) f1_4 dX11_heaps_34 ?_
        refine lv_bipush (v := 6) hx hb dX11_heaps_37 (by decide) ?_
        refine lv_iadd hx hb dX11_heaps_39 ?_
        refine cg_ev (v := 6) (by decide) ?_
        refine lv_bipush (v := 24) hx hb dX11_heaps_40 (by decide) ?_
        refine lv_icmp_le (tgt := 47) hx hb dX11_heaps_42 (by decide) (fun _ => ?_) (fun h => absurd h (by decide))
        refine lv_aload_n hx hb dX11_heaps_47 rfl (lv_at hl 0 rfl) ?_
        refine cg_get hC hO 0 (by decide) o0 rfl i_X11 9 (by decide) (List.mem_of_getElem? (i := 7) rfl) f0_9 dX11_heaps_48 ?_
        refine lv_iload_n hx hb dX11_heaps_51 rfl (lv_at hl 1 rfl) ?_
        refine lv_iload_n hx hb dX11_heaps_52 rfl (lv_at hl 2 rfl) ?_
        refine cg_Vi (As := [.int x1, .int x2]) (rest := []) (mc := 0) (ms := 0) (rm := { frames := 4, cells := 0, slots := 0, locals := 101 }) hC hl.1 hO [2, 1, 6, 7, 8, 3, 4, 5, 9, 10, 11, 12, 13, 14, 15, 16] rfl (c_X2_bestHeaps l D cy _ _ (f0 := f2) (f5 := f3) (c6 := c4) (c7 := c5) (f1 := f1) (c2 := c6) (c3 := c7) (f4 := f8) (c8 := c9) (c9 := c10) (c10 := c11) (c11 := c12) (c12 := c13) (c13 := c14) (c14 := c15) (c15 := c16) (s1 := x1) (mi := x2) o2 f2_0 f2_1 f2_3 f2_4 f2_5 f2_10 o1 f1_0 f1_3 f1_4 a6 a7 o8 f8_0 f8_1 f8_2 f8_3 f8_4 f8_5 f8_6 f8_7 o3 f3_9 f3_10 f3_11 a4 a5 a9 a10 a11 a12 a13 a14 a15 a16 (hr_4_4)) gq_c_X11_heaps_c_X2_bestHeaps_228 rfl rfl rfl 2 (by decide +kernel) ⟨Nat.le_of_ble_eq_true rfl, Nat.le_of_ble_eq_true rfl⟩ rfl (by decide) o2 rfl rfl (Nat.le_of_ble_eq_true rfl) dX11_heaps_53 ⟨Nat.le_of_ble_eq_true rfl, Nat.le_of_ble_eq_true rfl⟩ (fun r_53_15 nw_53_13 l_53_14 H locs hw hO => ?_)
        obtain ⟨c2_53_16, c5_53_17, c7_53_18, cz_53_19, cz_53_20, cz_53_21, cz_53_22, rfl, rfl⟩ := hw
        have hO : cO D cy A s.heap s 17 ad (cup [(2, .inr (2, ((f2.set 5 (.int 0)).set 10 (.int 0)))), (12, .inl (cy 0, 5, .inl cz_53_22)), (13, .inl (cy 0, 5, .inl cz_53_21)), (14, .inl (cy 0, 5, .inl cz_53_20)), (15, .inl (cy 0, 5, .inl cz_53_19)), (11, .inl (cy 0, 4, .inl c7_53_18)), (10, .inl (cy 0, 20, .inl c5_53_17)), (9, .inl (cy 0, 5, .inl c2_53_16))] g) _ _ := hO
        refine lv_istore (lv' := [(4, .int 1), (0, .ref (ad 0)), (1, .int x1), (2, .int x2), (3, .int x3)]) hx hb dX11_heaps_56 hl (by decide) rfl (fun ls hl => ?_)
        refine lv_iload_n hx hb dX11_heaps_58 rfl (lv_at hl 4 rfl) ?_
        refine lv_if_ne (tgt := 67) hx hb dX11_heaps_59 (by decide) (fun h_59_23 => ?_) (fun h_59_23 => ?_)
        · refine lv_aload_n hx hb dX11_heaps_67 rfl (lv_at hl 1 rfl) ?_
          refine cg_get hC hO 0 (by decide) o0 rfl i_X11 9 (by decide) (List.mem_of_getElem? (i := 7) rfl) f0_9 dX11_heaps_68 ?_
          refine cg_get hC hO 2 (by decide) rfl rfl i_X2 10 (by decide) (List.mem_of_getElem? (i := 66) rfl) (fs_eq (fs_ne (by decide) f2_10)) dX11_heaps_71 ?_
          exact cg_iret (nw := fun _ => 0) hC hr hlk hO.same rfl (Nat.le_of_ble_eq_true rfl) (Nat.le_of_ble_eq_true rfl) (by rw [ans_heaps, if_pos ⟨hr_4_4, hr_15_8, hr_24_12⟩]; simp [h_59_23]) dX11_heaps_74
        · refine lv_iload hx hb dX11_heaps_62 (lv_at hl 0 rfl) ?_
          refine lv_goto (tgt := 74) hx hb dX11_heaps_64 (by decide) ?_
          exact cg_iret (nw := fun _ => 0) hC hr hlk hO.same rfl (Nat.le_of_ble_eq_true rfl) (Nat.le_of_ble_eq_true rfl) (by rw [ans_heaps, if_pos ⟨hr_4_4, hr_15_8, hr_24_12⟩]; simp [h_59_23]) dX11_heaps_74
      · obtain ⟨hr_24_24, rfl, rfl⟩ := hw
        have hO : cO D cy A s.heap s 17 ad (cup [] g) _ _ := hO
        refine lv_if_eq (tgt := 45) hx hb dX11_heaps_27 (by decide) (fun _ => ?_) (fun h => absurd h (by decide))
        refine lv_iconst (v := (-1)) hx hb dX11_heaps_45 (by decide) ?_
        exact cg_iret (nw := fun _ => 0) hC hr hlk hO.same rfl (Nat.le_of_ble_eq_true rfl) (Nat.le_of_ble_eq_true rfl) ((if_neg (fun z => hr_24_24 z.2.2)).symm) dX11_heaps_46
    · obtain ⟨hr_15_25, rfl, rfl⟩ := hw
      have hO : cO D cy A s.heap s 17 ad (cup [] g) _ _ := hO
      refine lv_if_eq (tgt := 45) hx hb dX11_heaps_18 (by decide) (fun _ => ?_) (fun h => absurd h (by decide))
      refine lv_iconst (v := (-1)) hx hb dX11_heaps_45 (by decide) ?_
      exact cg_iret (nw := fun _ => 0) hC hr hlk hO.same rfl (Nat.le_of_ble_eq_true rfl) (Nat.le_of_ble_eq_true rfl) ((if_neg (fun z => hr_15_25 z.2.1)).symm) dX11_heaps_46
  · obtain ⟨hr_4_26, rfl, rfl⟩ := hw
    have hO : cO D cy A s.heap s 17 ad (cup [] g) _ _ := hO
    refine lv_if_eq (tgt := 45) hx hb dX11_heaps_7 (by decide) (fun _ => ?_) (fun h => absurd h (by decide))
    refine lv_iconst (v := (-1)) hx hb dX11_heaps_45 (by decide) ?_
    exact cg_iret (nw := fun _ => 0) hC hr hlk hO.same rfl (Nat.le_of_ble_eq_true rfl) (Nat.le_of_ble_eq_true rfl) ((if_neg (fun z => hr_4_26 z.1)).symm) dX11_heaps_46

theorem dX2_turnOfAll_0 : decode cX2_turnOfAll 0 = .ok (.iconst 0, 1) := by decide +kernel
theorem dX2_turnOfAll_1 : decode cX2_turnOfAll 1 = .ok (.istore_n 1, 1) := by decide +kernel
theorem dX2_turnOfAll_2 : decode cX2_turnOfAll 2 = .ok (.iconst 0, 1) := by decide +kernel
theorem dX2_turnOfAll_3 : decode cX2_turnOfAll 3 = .ok (.istore_n 2, 1) := by decide +kernel
theorem dX2_turnOfAll_4 : decode cX2_turnOfAll 4 = .ok (.iload_n 2, 1) := by decide +kernel
theorem dX2_turnOfAll_5 : decode cX2_turnOfAll 5 = .ok (.aload_n 0, 1) := by decide +kernel
theorem dX2_turnOfAll_6 : decode cX2_turnOfAll 6 = .ok (.getfield 71, 3) := by decide +kernel
theorem dX2_turnOfAll_9 : decode cX2_turnOfAll 9 = .ok (.if_icmp .ge 70, 3) := by decide +kernel
theorem dX2_turnOfAll_79 : decode cX2_turnOfAll 79 = .ok (.iload_n 1, 1) := by decide +kernel
theorem dX2_turnOfAll_80 : decode cX2_turnOfAll 80 = .ok (.ireturn, 1) := by decide +kernel
def wq_c_X2_turnOfAll : List Cond := Cond.code yX2_turnOfAll cX2_turnOfAll 5 (some .boolean) :: (([Cond.fieldLink RX2 71 "CrowToll$Drivers" "going" "I"] : List Cond) ++ wsX20)
set_option maxHeartbeats 8000000 in
set_option maxRecDepth 100000 in
theorem c_X2_turnOfAll (l : Launch) (D : va_G) (cy : Nat → ClassId) (ad : Nat → Nat) (g : Nat → va_E) {f0 : List Value} (o0 : g 0 = .inr (2, f0)) (f0_5 : f0[5]? = some (.int 0)) : cMi l yX2_turnOfAll wq_c_X2_turnOfAll { frames := 0, cells := 0, slots := 0, locals := 0 } 1 0 0 0 D cy ad g [.ref (ad 0)] (fun r nw lu => (r = 0) ∧ (lu = [])) := by
  refine cM_of (Qc := fun A => cQi (fun r nw lu => (r = 0) ∧ (lu = [])) D 1 0 ad g A) (cc := cX2_turnOfAll) (maxL := 5) (ret := (some .boolean)) (by decide) rfl (Nat.le_of_ble_eq_true rfl) ?_
  intro p e s m below meth c A hC hr hlk hnm hO ls hl
  have hC : CallFix p m c cX2_turnOfAll 5 s [.ref (ad 0)].toArray wq_c_X2_turnOfAll RX2 := hC
  obtain ⟨hx, hb, hml, hown, hts⟩ := id hC
  have hl : lv_has ls 5 [(0, .ref (ad 0))] := hl
  have i_X2 : ∀ w ∈ wsX20, w ∈ wq_c_X2_turnOfAll := fun w h => List.mem_cons_of_mem _ (List.mem_append_right _ h)
  refine lv_iconst (v := 0) hx hb dX2_turnOfAll_0 (by decide) ?_
  refine lv_istore_n (lv' := [(1, .int 0), (0, .ref (ad 0))]) hx hb dX2_turnOfAll_1 rfl hl (by decide) rfl (fun ls hl => ?_)
  refine lv_iconst (v := 0) hx hb dX2_turnOfAll_2 (by decide) ?_
  refine lv_istore_n (lv' := [(2, .int 0), (1, .int 0), (0, .ref (ad 0))]) hx hb dX2_turnOfAll_3 rfl hl (by decide) rfl (fun ls hl => ?_)
  refine lv_iload_n hx hb dX2_turnOfAll_4 rfl (lv_at hl 0 rfl) ?_
  refine lv_aload_n hx hb dX2_turnOfAll_5 rfl (lv_at hl 2 rfl) ?_
  refine cg_get hC hO 0 (by decide) o0 rfl i_X2 5 (by decide) (List.mem_of_getElem? (i := 1) rfl) f0_5 dX2_turnOfAll_6 ?_
  refine lv_icmp_ge (tgt := 79) hx hb dX2_turnOfAll_9 (by decide) (fun _ => ?_) (fun h => absurd h (by decide))
  refine lv_iload_n hx hb dX2_turnOfAll_79 rfl (lv_at hl 1 rfl) ?_
  exact cg_iret (nw := fun _ => 0) hC hr hlk hO.same rfl (Nat.le_of_ble_eq_true rfl) (Nat.le_of_ble_eq_true rfl) (⟨rfl, rfl⟩) dX2_turnOfAll_80

theorem dX2_turnsTillRest_0 : decode cX2_turnsTillRest 0 = .ok (.aload_n 0, 1) := by decide +kernel
theorem dX2_turnsTillRest_1 : decode cX2_turnsTillRest 1 = .ok (.aload_n 0, 1) := by decide +kernel
theorem dX2_turnsTillRest_2 : decode cX2_turnsTillRest 2 = .ok (.getfield 31, 3) := by decide +kernel
theorem dX2_turnsTillRest_5 : decode cX2_turnsTillRest 5 = .ok (.aload_n 0, 1) := by decide +kernel
theorem dX2_turnsTillRest_6 : decode cX2_turnsTillRest 6 = .ok (.getfield 15, 3) := by decide +kernel
theorem dX2_turnsTillRest_9 : decode cX2_turnsTillRest 9 = .ok (.invokevirtual 65, 3) := by decide +kernel
theorem dX2_turnsTillRest_12 : decode cX2_turnsTillRest 12 = .ok (.putfield 71, 3) := by decide +kernel
theorem dX2_turnsTillRest_15 : decode cX2_turnsTillRest 15 = .ok (.aload_n 0, 1) := by decide +kernel
theorem dX2_turnsTillRest_16 : decode cX2_turnsTillRest 16 = .ok (.getfield 71, 3) := by decide +kernel
theorem dX2_turnsTillRest_19 : decode cX2_turnsTillRest 19 = .ok (.bipush 8, 2) := by decide +kernel
theorem dX2_turnsTillRest_21 : decode cX2_turnsTillRest 21 = .ok (.if_icmp .le 5, 3) := by decide +kernel
theorem dX2_turnsTillRest_26 : decode cX2_turnsTillRest 26 = .ok (.aload_n 0, 1) := by decide +kernel
theorem dX2_turnsTillRest_27 : decode cX2_turnsTillRest 27 = .ok (.getfield 24, 3) := by decide +kernel
theorem dX2_turnsTillRest_30 : decode cX2_turnsTillRest 30 = .ok (.iconst 0, 1) := by decide +kernel
theorem dX2_turnsTillRest_31 : decode cX2_turnsTillRest 31 = .ok (.invokestatic 55, 3) := by decide +kernel
theorem dX2_turnsTillRest_34 : decode cX2_turnsTillRest 34 = .ok (.aload_n 0, 1) := by decide +kernel
theorem dX2_turnsTillRest_35 : decode cX2_turnsTillRest 35 = .ok (.getfield 31, 3) := by decide +kernel
theorem dX2_turnsTillRest_38 : decode cX2_turnsTillRest 38 = .ok (.getfield 74, 3) := by decide +kernel
theorem dX2_turnsTillRest_41 : decode cX2_turnsTillRest 41 = .ok (.iconst 0, 1) := by decide +kernel
theorem dX2_turnsTillRest_42 : decode cX2_turnsTillRest 42 = .ok (.aload_n 0, 1) := by decide +kernel
theorem dX2_turnsTillRest_43 : decode cX2_turnsTillRest 43 = .ok (.getfield 18, 3) := by decide +kernel
theorem dX2_turnsTillRest_46 : decode cX2_turnsTillRest 46 = .ok (.iconst 0, 1) := by decide +kernel
theorem dX2_turnsTillRest_47 : decode cX2_turnsTillRest 47 = .ok (.bipush 24, 2) := by decide +kernel
theorem dX2_turnsTillRest_49 : decode cX2_turnsTillRest 49 = .ok (.invokestatic 111, 3) := by decide +kernel
theorem dX2_turnsTillRest_52 : decode cX2_turnsTillRest 52 = .ok (.aload_n 0, 1) := by decide +kernel
theorem dX2_turnsTillRest_53 : decode cX2_turnsTillRest 53 = .ok (.getfield 44, 3) := by decide +kernel
theorem dX2_turnsTillRest_56 : decode cX2_turnsTillRest 56 = .ok (.aload_n 0, 1) := by decide +kernel
theorem dX2_turnsTillRest_57 : decode cX2_turnsTillRest 57 = .ok (.getfield 31, 3) := by decide +kernel
theorem dX2_turnsTillRest_60 : decode cX2_turnsTillRest 60 = .ok (.getfield 81, 3) := by decide +kernel
theorem dX2_turnsTillRest_63 : decode cX2_turnsTillRest 63 = .ok (.invokevirtual 84, 3) := by decide +kernel
theorem dX2_turnsTillRest_66 : decode cX2_turnsTillRest 66 = .ok (.iconst 1, 1) := by decide +kernel
theorem dX2_turnsTillRest_67 : decode cX2_turnsTillRest 67 = .ok (.istore_n 1, 1) := by decide +kernel
theorem dX2_turnsTillRest_68 : decode cX2_turnsTillRest 68 = .ok (.iload_n 1, 1) := by decide +kernel
theorem dX2_turnsTillRest_69 : decode cX2_turnsTillRest 69 = .ok (.bipush 20, 2) := by decide +kernel
theorem dX2_turnsTillRest_71 : decode cX2_turnsTillRest 71 = .ok (.if_icmp .gt 18, 3) := by decide +kernel
theorem dX2_turnsTillRest_74 : decode cX2_turnsTillRest 74 = .ok (.aload_n 0, 1) := by decide +kernel
theorem dX2_turnsTillRest_75 : decode cX2_turnsTillRest 75 = .ok (.invokevirtual 117, 3) := by decide +kernel
theorem dX2_turnsTillRest_78 : decode cX2_turnsTillRest 78 = .ok (.ifCond .ne 5, 3) := by decide +kernel
theorem dX2_turnsTillRest_81 : decode cX2_turnsTillRest 81 = .ok (.iload_n 1, 1) := by decide +kernel
theorem dX2_turnsTillRest_82 : decode cX2_turnsTillRest 82 = .ok (.ireturn, 1) := by decide +kernel
def wq_c_X2_turnsTillRest : List Cond := Cond.code yX2_turnsTillRest cX2_turnsTillRest 2 (some .int) :: (([Cond.fieldLink RX2 31 "CrowToll$Drivers" "stand" "LCrowToll$Stand;", Cond.fieldLink RX2 15 "CrowToll$Drivers" "who" "[I", Cond.methodLink RX2 65 yX9_coming, Cond.instanceMethod yX9_coming, Cond.selects RX9 yX9_coming yX9_coming, Cond.initialized RX9, Cond.code yX9_coming cX9_coming 4 (some .int), Cond.fieldLink RX9 21 "CrowToll$Stand" "carts" "I", Cond.fieldLink RX2 71 "CrowToll$Drivers" "going" "I", Cond.fieldLink RX2 24 "CrowToll$Drivers" "later" "[I", Cond.methodLink RX2 55 yJ7_fill_53178, Cond.static yJ7_fill_53178, Cond.initialized RJ7, Cond.code yJ7_fill_53178 cJ7_fill_53178 4 none, Cond.fieldLink RX2 74 "CrowToll$Stand" "minute" "[I", Cond.fieldLink RX2 18 "CrowToll$Drivers" "when" "[I", Cond.methodLink RX2 111 arraycopyName, Cond.native arraycopyName, Cond.static arraycopyName, Cond.initialized "java/lang/System", Cond.fieldLink RX2 44 "CrowToll$Drivers" "watch" "LCrowToll$Watch;", Cond.fieldLink RX2 81 "CrowToll$Stand" "counts" "[I", Cond.methodLink RX2 84 yX10_sit, Cond.instanceMethod yX10_sit, Cond.selects RX10 yX10_sit yX10_sit, Cond.initialized RX10, Cond.code yX10_sit cX10_sit 2 none, Cond.fieldLink RX10 9 "CrowToll$Watch" "limit" "[I", Cond.methodLink RX10 37 arraycopyName, Cond.fieldLink RX10 33 "CrowToll$Watch" "road" "LCrowToll$Road;", Cond.fieldLink RX10 43 "CrowToll$Road" "seat" "[I", Cond.fieldLink RX10 15 "CrowToll$Watch" "seat" "[I", Cond.fieldLink RX10 46 "CrowToll$Road" "seated" "[I", Cond.fieldLink RX10 18 "CrowToll$Watch" "seated" "[I", Cond.methodLink RX10 47 yX10_begin, Cond.instanceMethod yX10_begin, Cond.selects RX10 yX10_begin yX10_begin, Cond.code yX10_begin cX10_begin 1 none, Cond.fieldLink RX10 21 "CrowToll$Watch" "count" "[I", Cond.methodLink RX10 54 yJ7_fill_53178, Cond.fieldLink RX10 24 "CrowToll$Watch" "total" "[I", Cond.fieldLink RX10 27 "CrowToll$Watch" "lookedAt" "[I", Cond.fieldLink RX10 30 "CrowToll$Watch" "countedAt" "[I", Cond.methodLink RX2 117 yX2_turnOfAll, Cond.instanceMethod yX2_turnOfAll, Cond.selects RX2 yX2_turnOfAll yX2_turnOfAll, Cond.initialized RX2, Cond.code yX2_turnOfAll cX2_turnOfAll 5 (some .boolean)] : List Cond) ++ wsX20 ++ wsX70 ++ wsX90 ++ wsX100)
set_option maxRecDepth 20000 in
theorem gr_c_X2_turnsTillRest_c_coming0 : GoodIn wq_c_X2_turnsTillRest wq_c_coming0 := List.forall_mem_cons.mpr ⟨⟨(List.mem_of_getElem? (i := 7) rfl), good_of_word rfl⟩, List.forall_mem_append.mpr ⟨List.forall_mem_cons.mpr ⟨⟨(List.mem_of_getElem? (i := 8) rfl), good_of_word rfl⟩, (fun _ h => absurd h List.not_mem_nil)⟩, fun w h => ⟨(fun w h => List.mem_cons_of_mem _ (List.mem_append_left _ (List.mem_append_right _ h))) w h, good_of_word (List.all_eq_true.mp gw_X9 w h)⟩⟩⟩
set_option maxRecDepth 20000 in
theorem gq_c_X2_turnsTillRest_c_coming0_65 : GoodIn wq_c_X2_turnsTillRest (wsV RX2 65 RX9 yX9_coming wq_c_coming0) := goodIn_app (List.forall_mem_cons.mpr ⟨⟨(List.mem_of_getElem? (i := 3) rfl), good_of_word rfl⟩, List.forall_mem_cons.mpr ⟨⟨(List.mem_of_getElem? (i := 4) rfl), good_of_word rfl⟩, List.forall_mem_cons.mpr ⟨⟨(List.mem_of_getElem? (i := 5) rfl), good_of_word rfl⟩, List.forall_mem_cons.mpr ⟨⟨(List.mem_of_getElem? (i := 6) rfl), good_of_word rfl⟩, (fun _ h => absurd h List.not_mem_nil)⟩⟩⟩⟩) gr_c_X2_turnsTillRest_c_coming0
set_option maxRecDepth 20000 in
theorem gr_c_X2_turnsTillRest_c_J7_fill_53178 : GoodIn wq_c_X2_turnsTillRest wq_c_J7_fill_53178 := List.forall_mem_cons.mpr ⟨⟨(List.mem_of_getElem? (i := 14) rfl), good_of_word rfl⟩, (fun _ h => absurd h List.not_mem_nil)⟩
set_option maxRecDepth 20000 in
theorem gq_c_X2_turnsTillRest_c_J7_fill_53178_55 : GoodIn wq_c_X2_turnsTillRest (va_wsS RX2 55 yJ7_fill_53178 wq_c_J7_fill_53178) := goodIn_app (List.forall_mem_cons.mpr ⟨⟨(List.mem_of_getElem? (i := 11) rfl), good_of_word rfl⟩, List.forall_mem_cons.mpr ⟨⟨(List.mem_of_getElem? (i := 12) rfl), good_of_word rfl⟩, List.forall_mem_cons.mpr ⟨⟨(List.mem_of_getElem? (i := 13) rfl), good_of_word rfl⟩, (fun _ h => absurd h List.not_mem_nil)⟩⟩⟩) gr_c_X2_turnsTillRest_c_J7_fill_53178
set_option maxRecDepth 20000 in
theorem gr_c_X2_turnsTillRest_c_X10_sit : GoodIn wq_c_X2_turnsTillRest wq_c_X10_sit := List.forall_mem_cons.mpr ⟨⟨(List.mem_of_getElem? (i := 27) rfl), good_of_word rfl⟩, List.forall_mem_append.mpr ⟨List.forall_mem_append.mpr ⟨List.forall_mem_cons.mpr ⟨⟨(List.mem_of_getElem? (i := 28) rfl), good_of_word rfl⟩, List.forall_mem_cons.mpr ⟨⟨(List.mem_of_getElem? (i := 29) rfl), good_of_word rfl⟩, List.forall_mem_cons.mpr ⟨⟨(List.mem_of_getElem? (i := 18) rfl), good_of_word rfl⟩, List.forall_mem_cons.mpr ⟨⟨(List.mem_of_getElem? (i := 19) rfl), good_of_word rfl⟩, List.forall_mem_cons.mpr ⟨⟨(List.mem_of_getElem? (i := 20) rfl), good_of_word rfl⟩, List.forall_mem_cons.mpr ⟨⟨(List.mem_of_getElem? (i := 30) rfl), good_of_word rfl⟩, List.forall_mem_cons.mpr ⟨⟨(List.mem_of_getElem? (i := 31) rfl), good_of_word rfl⟩, List.forall_mem_cons.mpr ⟨⟨(List.mem_of_getElem? (i := 32) rfl), good_of_word rfl⟩, List.forall_mem_cons.mpr ⟨⟨(List.mem_of_getElem? (i := 33) rfl), good_of_word rfl⟩, List.forall_mem_cons.mpr ⟨⟨(List.mem_of_getElem? (i := 34) rfl), good_of_word rfl⟩, List.forall_mem_cons.mpr ⟨⟨(List.mem_of_getElem? (i := 35) rfl), good_of_word rfl⟩, List.forall_mem_cons.mpr ⟨⟨(List.mem_of_getElem? (i := 36) rfl), good_of_word rfl⟩, List.forall_mem_cons.mpr ⟨⟨(List.mem_of_getElem? (i := 37) rfl), good_of_word rfl⟩, List.forall_mem_cons.mpr ⟨⟨(List.mem_of_getElem? (i := 26) rfl), good_of_word rfl⟩, List.forall_mem_cons.mpr ⟨⟨(List.mem_of_getElem? (i := 38) rfl), good_of_word rfl⟩, List.forall_mem_cons.mpr ⟨⟨(List.mem_of_getElem? (i := 39) rfl), good_of_word rfl⟩, List.forall_mem_cons.mpr ⟨⟨(List.mem_of_getElem? (i := 40) rfl), good_of_word rfl⟩, List.forall_mem_cons.mpr ⟨⟨(List.mem_of_getElem? (i := 12) rfl), good_of_word rfl⟩, List.forall_mem_cons.mpr ⟨⟨(List.mem_of_getElem? (i := 13) rfl), good_of_word rfl⟩, List.forall_mem_cons.mpr ⟨⟨(List.mem_of_getElem? (i := 14) rfl), good_of_word rfl⟩, List.forall_mem_cons.mpr ⟨⟨(List.mem_of_getElem? (i := 41) rfl), good_of_word rfl⟩, List.forall_mem_cons.mpr ⟨⟨(List.mem_of_getElem? (i := 42) rfl), good_of_word rfl⟩, List.forall_mem_cons.mpr ⟨⟨(List.mem_of_getElem? (i := 43) rfl), good_of_word rfl⟩, (fun _ h => absurd h List.not_mem_nil)⟩⟩⟩⟩⟩⟩⟩⟩⟩⟩⟩⟩⟩⟩⟩⟩⟩⟩⟩⟩⟩⟩⟩, fun w h => ⟨(fun w h => List.mem_cons_of_mem _ (List.mem_append_left _ (List.mem_append_left _ (List.mem_append_right _ h)))) w h, good_of_word (List.all_eq_true.mp gw_X7 w h)⟩⟩, fun w h => ⟨(fun w h => List.mem_cons_of_mem _ (List.mem_append_right _ h)) w h, good_of_word (List.all_eq_true.mp gw_X10 w h)⟩⟩⟩
set_option maxRecDepth 20000 in
theorem gq_c_X2_turnsTillRest_c_X10_sit_84 : GoodIn wq_c_X2_turnsTillRest (wsV RX2 84 RX10 yX10_sit wq_c_X10_sit) := goodIn_app (List.forall_mem_cons.mpr ⟨⟨(List.mem_of_getElem? (i := 23) rfl), good_of_word rfl⟩, List.forall_mem_cons.mpr ⟨⟨(List.mem_of_getElem? (i := 24) rfl), good_of_word rfl⟩, List.forall_mem_cons.mpr ⟨⟨(List.mem_of_getElem? (i := 25) rfl), good_of_word rfl⟩, List.forall_mem_cons.mpr ⟨⟨(List.mem_of_getElem? (i := 26) rfl), good_of_word rfl⟩, (fun _ h => absurd h List.not_mem_nil)⟩⟩⟩⟩) gr_c_X2_turnsTillRest_c_X10_sit
set_option maxRecDepth 20000 in
theorem gr_c_X2_turnsTillRest_c_X2_turnOfAll : GoodIn wq_c_X2_turnsTillRest wq_c_X2_turnOfAll := List.forall_mem_cons.mpr ⟨⟨(List.mem_of_getElem? (i := 48) rfl), good_of_word rfl⟩, List.forall_mem_append.mpr ⟨List.forall_mem_cons.mpr ⟨⟨(List.mem_of_getElem? (i := 9) rfl), good_of_word rfl⟩, (fun _ h => absurd h List.not_mem_nil)⟩, fun w h => ⟨(fun w h => List.mem_cons_of_mem _ (List.mem_append_left _ (List.mem_append_left _ (List.mem_append_left _ (List.mem_append_right _ h))))) w h, good_of_word (List.all_eq_true.mp gw_X2 w h)⟩⟩⟩
set_option maxRecDepth 20000 in
theorem gq_c_X2_turnsTillRest_c_X2_turnOfAll_117 : GoodIn wq_c_X2_turnsTillRest (wsV RX2 117 RX2 yX2_turnOfAll wq_c_X2_turnOfAll) := goodIn_app (List.forall_mem_cons.mpr ⟨⟨(List.mem_of_getElem? (i := 44) rfl), good_of_word rfl⟩, List.forall_mem_cons.mpr ⟨⟨(List.mem_of_getElem? (i := 45) rfl), good_of_word rfl⟩, List.forall_mem_cons.mpr ⟨⟨(List.mem_of_getElem? (i := 46) rfl), good_of_word rfl⟩, List.forall_mem_cons.mpr ⟨⟨(List.mem_of_getElem? (i := 47) rfl), good_of_word rfl⟩, (fun _ h => absurd h List.not_mem_nil)⟩⟩⟩⟩) gr_c_X2_turnsTillRest_c_X2_turnOfAll
set_option maxHeartbeats 8000000 in
set_option maxRecDepth 100000 in
theorem c_X2_turnsTillRest (l : Launch) (D : va_G) (cy : Nat → ClassId) (ad : Nat → Nat) (g : Nat → va_E) {f0 : List Value} {f1 : List Value} {c2 : Nat → Int32} {c3 : Nat → Int32} {c4 : Nat → Int32} {c5 : Nat → Int32} {f6 : List Value} {f7 : List Value} {c8 : Nat → Int32} {c9 : Nat → Int32} {c10 : Nat → Int32} {c11 : Nat → Int32} {c12 : Nat → Int32} {c13 : Nat → Int32} {c14 : Nat → Int32} {c15 : Nat → Int32} {c16 : Nat → Int32} {c17 : Nat → Int32} (o0 : g 0 = .inr (2, f0)) (f0_1 : f0[1]? = some (.ref (ad 1))) (f0_3 : f0[3]? = some (.ref (ad 6))) (f0_5 : f0[5]? = some (.int 0)) (f0_6 : f0[6]? = some (.ref (ad 2))) (f0_7 : f0[7]? = some (.ref (ad 5))) (f0_9 : f0[9]? = some (.ref (ad 3))) (o1 : g 1 = .inr (9, f1)) (f1_0 : f1[0]? = some (.ref (ad 4))) (f1_3 : f1[3]? = some (.ref (ad 17))) (f1_4 : f1[4]? = some (.int 0)) (a2 : g 2 = .inl (cy 0, 24, .inl c2)) (a3 : g 3 = .inl (cy 0, 24, .inl c3)) (a4 : g 4 = .inl (cy 0, 24, .inl c4)) (a5 : g 5 = .inl (cy 0, 24, .inl c5)) (o6 : g 6 = .inr (10, f6)) (f6_0 : f6[0]? = some (.ref (ad 7))) (f6_1 : f6[1]? = some (.ref (ad 10))) (f6_2 : f6[2]? = some (.ref (ad 11))) (f6_3 : f6[3]? = some (.ref (ad 12))) (f6_4 : f6[4]? = some (.ref (ad 13))) (f6_5 : f6[5]? = some (.ref (ad 14))) (f6_6 : f6[6]? = some (.ref (ad 15))) (f6_7 : f6[7]? = some (.ref (ad 16))) (o7 : g 7 = .inr (7, f7)) (f7_9 : f7[9]? = some (.ref (ad 8))) (f7_10 : f7[10]? = some (.ref (ad 9))) (a8 : g 8 = .inl (cy 0, 20, .inl c8)) (a9 : g 9 = .inl (cy 0, 4, .inl c9)) (a10 : g 10 = .inl (cy 0, 5, .inl c10)) (a11 : g 11 = .inl (cy 0, 20, .inl c11)) (a12 : g 12 = .inl (cy 0, 4, .inl c12)) (a13 : g 13 = .inl (cy 0, 5, .inl c13)) (a14 : g 14 = .inl (cy 0, 5, .inl c14)) (a15 : g 15 = .inl (cy 0, 5, .inl c15)) (a16 : g 16 = .inl (cy 0, 5, .inl c16)) (a17 : g 17 = .inl (cy 0, 5, .inl c17)) : cMi l yX2_turnsTillRest wq_c_X2_turnsTillRest { frames := 3, cells := 0, slots := 0, locals := 81 } 18 0 0 0 D cy ad g [.ref (ad 0)] (fun r nw lu => ∃ (cz_31_7 : Nat → Int32) (c5_49_8 : Nat → Int32) (c2_63_12 : Nat → Int32) (c5_63_13 : Nat → Int32) (c7_63_14 : Nat → Int32) (cz_63_15 : Nat → Int32) (cz_63_16 : Nat → Int32) (cz_63_17 : Nat → Int32) (cz_63_18 : Nat → Int32), (r = 1) ∧ (lu = [(0, .inr (2, (f0.set 5 (.int 0)))), (3, .inl (cy 0, 24, .inl cz_31_7)), (5, .inl (cy 0, 24, .inl c5_49_8)), (13, .inl (cy 0, 5, .inl cz_63_15)), (14, .inl (cy 0, 5, .inl cz_63_16)), (15, .inl (cy 0, 5, .inl cz_63_17)), (16, .inl (cy 0, 5, .inl cz_63_18)), (12, .inl (cy 0, 4, .inl c7_63_14)), (11, .inl (cy 0, 20, .inl c5_63_13)), (10, .inl (cy 0, 5, .inl c2_63_12))])) := by
  refine cM_of (Qc := fun A => cQi (fun r nw lu => ∃ (cz_31_7 : Nat → Int32) (c5_49_8 : Nat → Int32) (c2_63_12 : Nat → Int32) (c5_63_13 : Nat → Int32) (c7_63_14 : Nat → Int32) (cz_63_15 : Nat → Int32) (cz_63_16 : Nat → Int32) (cz_63_17 : Nat → Int32) (cz_63_18 : Nat → Int32), (r = 1) ∧ (lu = [(0, .inr (2, (f0.set 5 (.int 0)))), (3, .inl (cy 0, 24, .inl cz_31_7)), (5, .inl (cy 0, 24, .inl c5_49_8)), (13, .inl (cy 0, 5, .inl cz_63_15)), (14, .inl (cy 0, 5, .inl cz_63_16)), (15, .inl (cy 0, 5, .inl cz_63_17)), (16, .inl (cy 0, 5, .inl cz_63_18)), (12, .inl (cy 0, 4, .inl c7_63_14)), (11, .inl (cy 0, 20, .inl c5_63_13)), (10, .inl (cy 0, 5, .inl c2_63_12))])) D 18 0 ad g A) (cc := cX2_turnsTillRest) (maxL := 2) (ret := (some .int)) (by decide) rfl (Nat.le_of_ble_eq_true rfl) ?_
  intro p e s m below meth c A hC hr hlk hnm hO ls hl
  have hC : CallFix p m c cX2_turnsTillRest 2 s [.ref (ad 0)].toArray wq_c_X2_turnsTillRest RX2 := hC
  obtain ⟨hx, hb, hml, hown, hts⟩ := id hC
  have hl : lv_has ls 2 [(0, .ref (ad 0))] := hl
  have i_X10 : ∀ w ∈ wsX100, w ∈ wq_c_X2_turnsTillRest := fun w h => List.mem_cons_of_mem _ (List.mem_append_right _ h)
  have i_X2 : ∀ w ∈ wsX20, w ∈ wq_c_X2_turnsTillRest := fun w h => List.mem_cons_of_mem _ (List.mem_append_left _ (List.mem_append_left _ (List.mem_append_left _ (List.mem_append_right _ h))))
  have i_X7 : ∀ w ∈ wsX70, w ∈ wq_c_X2_turnsTillRest := fun w h => List.mem_cons_of_mem _ (List.mem_append_left _ (List.mem_append_left _ (List.mem_append_right _ h)))
  have i_X9 : ∀ w ∈ wsX90, w ∈ wq_c_X2_turnsTillRest := fun w h => List.mem_cons_of_mem _ (List.mem_append_left _ (List.mem_append_right _ h))
  refine lv_aload_n hx hb dX2_turnsTillRest_0 rfl (lv_at hl 0 rfl) ?_
  refine lv_aload_n hx hb dX2_turnsTillRest_1 rfl (lv_at hl 0 rfl) ?_
  refine cg_get hC hO 0 (by decide) o0 rfl i_X2 1 (by decide) (List.mem_of_getElem? (i := 1) rfl) f0_1 dX2_turnsTillRest_2 ?_
  refine lv_aload_n hx hb dX2_turnsTillRest_5 rfl (lv_at hl 0 rfl) ?_
  refine cg_get hC hO 0 (by decide) o0 rfl i_X2 6 (by decide) (List.mem_of_getElem? (i := 2) rfl) f0_6 dX2_turnsTillRest_6 ?_
  refine cg_Vi (As := [.ref (ad 2)]) (rest := [.ref (ad 0)]) (mc := 0) (ms := 0) (rm := { frames := 0, cells := 0, slots := 0, locals := 0 }) hC hl.1 hO [1, 2] rfl (c_coming0 l D cy _ _ (f0 := f1) (c1 := c2) o1 f1_4 a2) gq_c_X2_turnsTillRest_c_coming0_65 rfl rfl rfl 1 (by decide +kernel) ⟨Nat.le_of_ble_eq_true rfl, Nat.le_of_ble_eq_true rfl⟩ rfl (by decide) o1 rfl rfl (Nat.le_of_ble_eq_true rfl) dX2_turnsTillRest_9 ⟨Nat.le_of_ble_eq_true rfl, Nat.le_of_ble_eq_true rfl⟩ (fun r_9_3 nw_9_1 l_9_2 H locs hw hO => ?_)
  obtain ⟨rfl, rfl⟩ := hw
  have hO : cO D cy A s.heap s 18 ad (cup [] g) _ _ := hO
  refine cg_put hC hO 0 (by decide) o0 rfl i_X2 tyX2_ok nmX2 5 (by decide) (List.mem_of_getElem? (i := 9) rfl) rfl rfl rfl (fs_lt f0_5) dX2_turnsTillRest_12 (fun H locs hO => ?_)
  have hO : cO D cy A s.heap s 18 ad (cup [(0, .inr (2, (f0.set 5 (.int 0))))] g) _ _ := hO
  refine lv_aload_n hx hb dX2_turnsTillRest_15 rfl (lv_at hl 0 rfl) ?_
  refine cg_get hC hO 0 (by decide) rfl rfl i_X2 5 (by decide) (List.mem_of_getElem? (i := 9) rfl) (fs_eq f0_5) dX2_turnsTillRest_16 ?_
  refine lv_bipush (v := 8) hx hb dX2_turnsTillRest_19 (by decide) ?_
  refine lv_icmp_le (tgt := 26) hx hb dX2_turnsTillRest_21 (by decide) (fun _ => ?_) (fun h => absurd h (by decide))
  refine lv_aload_n hx hb dX2_turnsTillRest_26 rfl (lv_at hl 0 rfl) ?_
  refine cg_get hC hO 0 (by decide) rfl rfl i_X2 9 (by decide) (List.mem_of_getElem? (i := 10) rfl) (fs_ne (by decide) f0_9) dX2_turnsTillRest_27 ?_
  refine lv_iconst (v := 0) hx hb dX2_turnsTillRest_30 (by decide) ?_
  refine cg_Sv (As := [.ref (ad 3), .int 0]) (rest := []) (mc := 0) (ms := 0) (rm := { frames := 0, cells := 0, slots := 0, locals := 0 }) hC hl.1 hO [3] rfl (c_J7_fill_53178 l D cy _ _ (n := 24) (c0 := c3) (x := 0) a3 (by decide)) gq_c_X2_turnsTillRest_c_J7_fill_53178_55 rfl rfl rfl 2 (by decide +kernel) ⟨Nat.le_of_ble_eq_true rfl, Nat.le_of_ble_eq_true rfl⟩ rfl rfl (Nat.le_of_ble_eq_true rfl) dX2_turnsTillRest_31 ⟨Nat.le_of_ble_eq_true rfl, Nat.le_of_ble_eq_true rfl⟩ (fun nw_31_4 l_31_5 H locs hw hO => ?_)
  obtain ⟨cz_31_7, rfl⟩ := hw
  have hO : cO D cy A s.heap s 18 ad (cup [(0, .inr (2, (f0.set 5 (.int 0)))), (3, .inl (cy 0, 24, .inl cz_31_7))] g) _ _ := hO
  refine lv_aload_n hx hb dX2_turnsTillRest_34 rfl (lv_at hl 0 rfl) ?_
  refine cg_get hC hO 0 (by decide) rfl rfl i_X2 1 (by decide) (List.mem_of_getElem? (i := 1) rfl) (fs_ne (by decide) f0_1) dX2_turnsTillRest_35 ?_
  refine cg_get hC hO 1 (by decide) o1 rfl i_X9 0 (by decide) (List.mem_of_getElem? (i := 15) rfl) f1_0 dX2_turnsTillRest_38 ?_
  refine lv_iconst (v := 0) hx hb dX2_turnsTillRest_41 (by decide) ?_
  refine lv_aload_n hx hb dX2_turnsTillRest_42 rfl (lv_at hl 0 rfl) ?_
  refine cg_get hC hO 0 (by decide) rfl rfl i_X2 7 (by decide) (List.mem_of_getElem? (i := 16) rfl) (fs_ne (by decide) f0_7) dX2_turnsTillRest_43 ?_
  refine lv_iconst (v := 0) hx hb dX2_turnsTillRest_46 (by decide) ?_
  refine lv_bipush (v := 24) hx hb dX2_turnsTillRest_47 (by decide) ?_
  refine cg_copy hC hl.1 hO (List.mem_of_getElem? (i := 17) rfl) (List.mem_of_getElem? (i := 18) rfl) (List.mem_of_getElem? (i := 19) rfl) (List.mem_of_getElem? (i := 20) rfl) 4 5 (by decide) (by decide) a4 a5 (by decide) (by decide) (by decide) (by decide) (by decide) (Nat.le_of_ble_eq_true rfl) (Nat.le_of_ble_eq_true rfl) dX2_turnsTillRest_49 (fun H locs hO => ?_)
  have hO : cO D cy A s.heap s 18 ad (cup [(0, .inr (2, (f0.set 5 (.int 0)))), (3, .inl (cy 0, 24, .inl cz_31_7)), (5, .inl (cy 0, 24, .inl (va_cpy c4 c5 (0 : Int32).toNatClampNeg (0 : Int32).toNatClampNeg (24 : Int32).toNatClampNeg)))] g) _ _ := hO
  obtain ⟨c5_49_8, ec5_49_8⟩ : ∃ z, z = (va_cpy c4 c5 (0 : Int32).toNatClampNeg (0 : Int32).toNatClampNeg (24 : Int32).toNatClampNeg) := ⟨_, rfl⟩
  rw [← ec5_49_8] at hO
  have hO : cO D cy A s.heap s 18 ad (cup [(0, .inr (2, (f0.set 5 (.int 0)))), (3, .inl (cy 0, 24, .inl cz_31_7)), (5, .inl (cy 0, 24, .inl c5_49_8))] g) _ _ := hO
  refine lv_aload_n hx hb dX2_turnsTillRest_52 rfl (lv_at hl 0 rfl) ?_
  refine cg_get hC hO 0 (by decide) rfl rfl i_X2 3 (by decide) (List.mem_of_getElem? (i := 21) rfl) (fs_ne (by decide) f0_3) dX2_turnsTillRest_53 ?_
  refine lv_aload_n hx hb dX2_turnsTillRest_56 rfl (lv_at hl 0 rfl) ?_
  refine cg_get hC hO 0 (by decide) rfl rfl i_X2 1 (by decide) (List.mem_of_getElem? (i := 1) rfl) (fs_ne (by decide) f0_1) dX2_turnsTillRest_57 ?_
  refine cg_get hC hO 1 (by decide) o1 rfl i_X9 3 (by decide) (List.mem_of_getElem? (i := 22) rfl) f1_3 dX2_turnsTillRest_60 ?_
  refine cg_Vv (As := [.ref (ad 17)]) (rest := []) (mc := 0) (ms := 0) (rm := { frames := 2, cells := 0, slots := 0, locals := 60 }) hC hl.1 hO [6, 17, 10, 7, 8, 11, 9, 12, 13, 14, 15, 16] rfl (c_X10_sit l D cy _ _ (f0 := f6) (f3 := f7) (c4 := c8) (c6 := c9) (c2 := c10) (c5 := c11) (c7 := c12) (c8 := c13) (c9 := c14) (c10 := c15) (c11 := c16) (c1 := c17) o6 f6_0 f6_1 f6_2 f6_3 f6_4 f6_5 f6_6 f6_7 a17 a10 o7 f7_9 f7_10 a8 a11 a9 a12 a13 a14 a15 a16) gq_c_X2_turnsTillRest_c_X10_sit_84 rfl rfl rfl 1 (by decide +kernel) ⟨Nat.le_of_ble_eq_true rfl, Nat.le_of_ble_eq_true rfl⟩ rfl (by decide) o6 rfl rfl (Nat.le_of_ble_eq_true rfl) dX2_turnsTillRest_63 ⟨Nat.le_of_ble_eq_true rfl, Nat.le_of_ble_eq_true rfl⟩ (fun nw_63_9 l_63_10 H locs hw hO => ?_)
  obtain ⟨c2_63_12, c5_63_13, c7_63_14, cz_63_15, cz_63_16, cz_63_17, cz_63_18, rfl⟩ := hw
  have hO : cO D cy A s.heap s 18 ad (cup [(0, .inr (2, (f0.set 5 (.int 0)))), (3, .inl (cy 0, 24, .inl cz_31_7)), (5, .inl (cy 0, 24, .inl c5_49_8)), (13, .inl (cy 0, 5, .inl cz_63_15)), (14, .inl (cy 0, 5, .inl cz_63_16)), (15, .inl (cy 0, 5, .inl cz_63_17)), (16, .inl (cy 0, 5, .inl cz_63_18)), (12, .inl (cy 0, 4, .inl c7_63_14)), (11, .inl (cy 0, 20, .inl c5_63_13)), (10, .inl (cy 0, 5, .inl c2_63_12))] g) _ _ := hO
  refine lv_iconst (v := 1) hx hb dX2_turnsTillRest_66 (by decide) ?_
  refine lv_istore_n (lv' := [(1, .int 1), (0, .ref (ad 0))]) hx hb dX2_turnsTillRest_67 rfl hl (by decide) rfl (fun ls hl => ?_)
  refine lv_iload_n hx hb dX2_turnsTillRest_68 rfl (lv_at hl 0 rfl) ?_
  refine lv_bipush (v := 20) hx hb dX2_turnsTillRest_69 (by decide) ?_
  refine lv_icmp_gt (tgt := 89) hx hb dX2_turnsTillRest_71 (by decide) (fun h => absurd h (by decide)) (fun _ => ?_)
  refine lv_aload_n hx hb dX2_turnsTillRest_74 rfl (lv_at hl 1 rfl) ?_
  refine cg_Vi (As := []) (rest := []) (mc := 0) (ms := 0) (rm := { frames := 0, cells := 0, slots := 0, locals := 0 }) hC hl.1 hO [0] rfl (c_X2_turnOfAll l D cy _ _ (f0 := (f0.set 5 (.int 0))) rfl (fs_eq f0_5)) gq_c_X2_turnsTillRest_c_X2_turnOfAll_117 rfl rfl rfl 0 (by decide +kernel) ⟨Nat.le_of_ble_eq_true rfl, Nat.le_of_ble_eq_true rfl⟩ rfl (by decide) rfl rfl rfl (Nat.le_of_ble_eq_true rfl) dX2_turnsTillRest_75 ⟨Nat.le_of_ble_eq_true rfl, Nat.le_of_ble_eq_true rfl⟩ (fun r_75_21 nw_75_19 l_75_20 H locs hw hO => ?_)
  obtain ⟨rfl, rfl⟩ := hw
  have hO : cO D cy A s.heap s 18 ad (cup [(0, .inr (2, (f0.set 5 (.int 0)))), (3, .inl (cy 0, 24, .inl cz_31_7)), (5, .inl (cy 0, 24, .inl c5_49_8)), (13, .inl (cy 0, 5, .inl cz_63_15)), (14, .inl (cy 0, 5, .inl cz_63_16)), (15, .inl (cy 0, 5, .inl cz_63_17)), (16, .inl (cy 0, 5, .inl cz_63_18)), (12, .inl (cy 0, 4, .inl c7_63_14)), (11, .inl (cy 0, 20, .inl c5_63_13)), (10, .inl (cy 0, 5, .inl c2_63_12))] g) _ _ := hO
  refine lv_if_ne (tgt := 83) hx hb dX2_turnsTillRest_78 (by decide) (fun h => absurd h (by decide)) (fun _ => ?_)
  refine lv_iload_n hx hb dX2_turnsTillRest_81 rfl (lv_at hl 0 rfl) ?_
  exact cg_iret (nw := fun _ => 0) hC hr hlk hO.same rfl (Nat.le_of_ble_eq_true rfl) (Nat.le_of_ble_eq_true rfl) (⟨cz_31_7, c5_49_8, c2_63_12, c5_63_13, c7_63_14, cz_63_15, cz_63_16, cz_63_17, cz_63_18, rfl, rfl⟩) dX2_turnsTillRest_82

theorem dX11_rest_0 : decode cX11_rest 0 = .ok (.aload_n 0, 1) := by decide +kernel
theorem dX11_rest_1 : decode cX11_rest 1 = .ok (.iconst 0, 1) := by decide +kernel
theorem dX11_rest_2 : decode cX11_rest 2 = .ok (.putfield 100, 3) := by decide +kernel
theorem dX11_rest_5 : decode cX11_rest 5 = .ok (.aload_n 0, 1) := by decide +kernel
theorem dX11_rest_6 : decode cX11_rest 6 = .ok (.getfield 79, 3) := by decide +kernel
theorem dX11_rest_9 : decode cX11_rest 9 = .ok (.invokevirtual 235, 3) := by decide +kernel
theorem dX11_rest_12 : decode cX11_rest 12 = .ok (.istore_n 1, 1) := by decide +kernel
theorem dX11_rest_13 : decode cX11_rest 13 = .ok (.iload_n 1, 1) := by decide +kernel
theorem dX11_rest_14 : decode cX11_rest 14 = .ok (.iconst (-1), 1) := by decide +kernel
theorem dX11_rest_15 : decode cX11_rest 15 = .ok (.if_icmp .eq 21, 3) := by decide +kernel
theorem dX11_rest_18 : decode cX11_rest 18 = .ok (.aload_n 0, 1) := by decide +kernel
theorem dX11_rest_19 : decode cX11_rest 19 = .ok (.aload_n 0, 1) := by decide +kernel
theorem dX11_rest_20 : decode cX11_rest 20 = .ok (.getfield 79, 3) := by decide +kernel
theorem dX11_rest_23 : decode cX11_rest 23 = .ok (.getfield 238, 3) := by decide +kernel
theorem dX11_rest_26 : decode cX11_rest 26 = .ok (.aload_n 0, 1) := by decide +kernel
theorem dX11_rest_27 : decode cX11_rest 27 = .ok (.getfield 37, 3) := by decide +kernel
theorem dX11_rest_30 : decode cX11_rest 30 = .ok (.getfield 49, 3) := by decide +kernel
theorem dX11_rest_33 : decode cX11_rest 33 = .ok (.invokevirtual 224, 3) := by decide +kernel
theorem dX11_rest_36 : decode cX11_rest 36 = .ok (.iload_n 1, 1) := by decide +kernel
theorem dX11_rest_37 : decode cX11_rest 37 = .ok (.ireturn, 1) := by decide +kernel
def wq_c_X11_rest : List Cond := Cond.code yX11_rest cX11_rest 2 (some .int) :: (([Cond.fieldLink RX11 100 "CrowToll" "lyingThere" "I", Cond.fieldLink RX11 79 "CrowToll" "drivers" "LCrowToll$Drivers;", Cond.methodLink RX11 235 yX2_turnsTillRest, Cond.instanceMethod yX2_turnsTillRest, Cond.selects RX2 yX2_turnsTillRest yX2_turnsTillRest, Cond.initialized RX2, Cond.code yX2_turnsTillRest cX2_turnsTillRest 2 (some .int), Cond.fieldLink RX2 31 "CrowToll$Drivers" "stand" "LCrowToll$Stand;", Cond.fieldLink RX2 15 "CrowToll$Drivers" "who" "[I", Cond.methodLink RX2 65 yX9_coming, Cond.instanceMethod yX9_coming, Cond.selects RX9 yX9_coming yX9_coming, Cond.initialized RX9, Cond.code yX9_coming cX9_coming 4 (some .int), Cond.fieldLink RX9 21 "CrowToll$Stand" "carts" "I", Cond.fieldLink RX2 71 "CrowToll$Drivers" "going" "I", Cond.fieldLink RX2 24 "CrowToll$Drivers" "later" "[I", Cond.methodLink RX2 55 yJ7_fill_53178, Cond.static yJ7_fill_53178, Cond.initialized RJ7, Cond.code yJ7_fill_53178 cJ7_fill_53178 4 none, Cond.fieldLink RX2 74 "CrowToll$Stand" "minute" "[I", Cond.fieldLink RX2 18 "CrowToll$Drivers" "when" "[I", Cond.methodLink RX2 111 arraycopyName, Cond.native arraycopyName, Cond.static arraycopyName, Cond.initialized "java/lang/System", Cond.fieldLink RX2 44 "CrowToll$Drivers" "watch" "LCrowToll$Watch;", Cond.fieldLink RX2 81 "CrowToll$Stand" "counts" "[I", Cond.methodLink RX2 84 yX10_sit, Cond.instanceMethod yX10_sit, Cond.selects RX10 yX10_sit yX10_sit, Cond.initialized RX10, Cond.code yX10_sit cX10_sit 2 none, Cond.fieldLink RX10 9 "CrowToll$Watch" "limit" "[I", Cond.methodLink RX10 37 arraycopyName, Cond.fieldLink RX10 33 "CrowToll$Watch" "road" "LCrowToll$Road;", Cond.fieldLink RX10 43 "CrowToll$Road" "seat" "[I", Cond.fieldLink RX10 15 "CrowToll$Watch" "seat" "[I", Cond.fieldLink RX10 46 "CrowToll$Road" "seated" "[I", Cond.fieldLink RX10 18 "CrowToll$Watch" "seated" "[I", Cond.methodLink RX10 47 yX10_begin, Cond.instanceMethod yX10_begin, Cond.selects RX10 yX10_begin yX10_begin, Cond.code yX10_begin cX10_begin 1 none, Cond.fieldLink RX10 21 "CrowToll$Watch" "count" "[I", Cond.methodLink RX10 54 yJ7_fill_53178, Cond.fieldLink RX10 24 "CrowToll$Watch" "total" "[I", Cond.fieldLink RX10 27 "CrowToll$Watch" "lookedAt" "[I", Cond.fieldLink RX10 30 "CrowToll$Watch" "countedAt" "[I", Cond.methodLink RX2 117 yX2_turnOfAll, Cond.instanceMethod yX2_turnOfAll, Cond.selects RX2 yX2_turnOfAll yX2_turnOfAll, Cond.code yX2_turnOfAll cX2_turnOfAll 5 (some .boolean), Cond.fieldLink RX11 238 "CrowToll$Drivers" "later" "[I", Cond.fieldLink RX11 37 "CrowToll" "stand" "LCrowToll$Stand;", Cond.fieldLink RX11 49 "CrowToll$Stand" "carts" "I", Cond.methodLink RX11 224 yX11_layThere, Cond.instanceMethod yX11_layThere, Cond.selects RX11 yX11_layThere yX11_layThere, Cond.initialized RX11, Cond.code yX11_layThere cX11_layThere 3 none, Cond.fieldLink RX11 97 "CrowToll" "lying" "[I", Cond.methodLink RX11 297 Lib.Math.min.name, Cond.static Lib.Math.min.name, Cond.initialized "java/lang/Math", Cond.code Lib.Math.min.name Lib.Math.min.code 2 (some .int), Cond.methodLink RX11 302 arraycopyName] : List Cond) ++ wsX20 ++ wsX70 ++ wsX90 ++ wsX100 ++ wsX110)
set_option maxRecDepth 20000 in
theorem gr_c_X11_rest_c_X2_turnsTillRest : GoodIn wq_c_X11_rest wq_c_X2_turnsTillRest := List.forall_mem_cons.mpr ⟨⟨(List.mem_of_getElem? (i := 7) rfl), good_of_word rfl⟩, List.forall_mem_append.mpr ⟨List.forall_mem_append.mpr ⟨List.forall_mem_append.mpr ⟨List.forall_mem_append.mpr ⟨List.forall_mem_cons.mpr ⟨⟨(List.mem_of_getElem? (i := 8) rfl), good_of_word rfl⟩, List.forall_mem_cons.mpr ⟨⟨(List.mem_of_getElem? (i := 9) rfl), good_of_word rfl⟩, List.forall_mem_cons.mpr ⟨⟨(List.mem_of_getElem? (i := 10) rfl), good_of_word rfl⟩, List.forall_mem_cons.mpr ⟨⟨(List.mem_of_getElem? (i := 11) rfl), good_of_word rfl⟩, List.forall_mem_cons.mpr ⟨⟨(List.mem_of_getElem? (i := 12) rfl), good_of_word rfl⟩, List.forall_mem_cons.mpr ⟨⟨(List.mem_of_getElem? (i := 13) rfl), good_of_word rfl⟩, List.forall_mem_cons.mpr ⟨⟨(List.mem_of_getElem? (i := 14) rfl), good_of_word rfl⟩, List.forall_mem_cons.mpr ⟨⟨(List.mem_of_getElem? (i := 15) rfl), good_of_word rfl⟩, List.forall_mem_cons.mpr ⟨⟨(List.mem_of_getElem? (i := 16) rfl), good_of_word rfl⟩, List.forall_mem_cons.mpr ⟨⟨(List.mem_of_getElem? (i := 17) rfl), good_of_word rfl⟩, List.forall_mem_cons.mpr ⟨⟨(List.mem_of_getElem? (i := 18) rfl), good_of_word rfl⟩, List.forall_mem_cons.mpr ⟨⟨(List.mem_of_getElem? (i := 19) rfl), good_of_word rfl⟩, List.forall_mem_cons.mpr ⟨⟨(List.mem_of_getElem? (i := 20) rfl), good_of_word rfl⟩, List.forall_mem_cons.mpr ⟨⟨(List.mem_of_getElem? (i := 21) rfl), good_of_word rfl⟩, List.forall_mem_cons.mpr ⟨⟨(List.mem_of_getElem? (i := 22) rfl), good_of_word rfl⟩, List.forall_mem_cons.mpr ⟨⟨(List.mem_of_getElem? (i := 23) rfl), good_of_word rfl⟩, List.forall_mem_cons.mpr ⟨⟨(List.mem_of_getElem? (i := 24) rfl), good_of_word rfl⟩, List.forall_mem_cons.mpr ⟨⟨(List.mem_of_getElem? (i := 25) rfl), good_of_word rfl⟩, List.forall_mem_cons.mpr ⟨⟨(List.mem_of_getElem? (i := 26) rfl), good_of_word rfl⟩, List.forall_mem_cons.mpr ⟨⟨(List.mem_of_getElem? (i := 27) rfl), good_of_word rfl⟩, List.forall_mem_cons.mpr ⟨⟨(List.mem_of_getElem? (i := 28) rfl), good_of_word rfl⟩, List.forall_mem_cons.mpr ⟨⟨(List.mem_of_getElem? (i := 29) rfl), good_of_word rfl⟩, List.forall_mem_cons.mpr ⟨⟨(List.mem_of_getElem? (i := 30) rfl), good_of_word rfl⟩, List.forall_mem_cons.mpr ⟨⟨(List.mem_of_getElem? (i := 31) rfl), good_of_word rfl⟩, List.forall_mem_cons.mpr ⟨⟨(List.mem_of_getElem? (i := 32) rfl), good_of_word rfl⟩, List.forall_mem_cons.mpr ⟨⟨(List.mem_of_getElem? (i := 33) rfl), good_of_word rfl⟩, List.forall_mem_cons.mpr ⟨⟨(List.mem_of_getElem? (i := 34) rfl), good_of_word rfl⟩, List.forall_mem_cons.mpr ⟨⟨(List.mem_of_getElem? (i := 35) rfl), good_of_word rfl⟩, List.forall_mem_cons.mpr ⟨⟨(List.mem_of_getElem? (i := 36) rfl), good_of_word rfl⟩, List.forall_mem_cons.mpr ⟨⟨(List.mem_of_getElem? (i := 37) rfl), good_of_word rfl⟩, List.forall_mem_cons.mpr ⟨⟨(List.mem_of_getElem? (i := 38) rfl), good_of_word rfl⟩, List.forall_mem_cons.mpr ⟨⟨(List.mem_of_getElem? (i := 39) rfl), good_of_word rfl⟩, List.forall_mem_cons.mpr ⟨⟨(List.mem_of_getElem? (i := 40) rfl), good_of_word rfl⟩, List.forall_mem_cons.mpr ⟨⟨(List.mem_of_getElem? (i := 41) rfl), good_of_word rfl⟩, List.forall_mem_cons.mpr ⟨⟨(List.mem_of_getElem? (i := 42) rfl), good_of_word rfl⟩, List.forall_mem_cons.mpr ⟨⟨(List.mem_of_getElem? (i := 43) rfl), good_of_word rfl⟩, List.forall_mem_cons.mpr ⟨⟨(List.mem_of_getElem? (i := 44) rfl), good_of_word rfl⟩, List.forall_mem_cons.mpr ⟨⟨(List.mem_of_getElem? (i := 45) rfl), good_of_word rfl⟩, List.forall_mem_cons.mpr ⟨⟨(List.mem_of_getElem? (i := 46) rfl), good_of_word rfl⟩, List.forall_mem_cons.mpr ⟨⟨(List.mem_of_getElem? (i := 47) rfl), good_of_word rfl⟩, List.forall_mem_cons.mpr ⟨⟨(List.mem_of_getElem? (i := 48) rfl), good_of_word rfl⟩, List.forall_mem_cons.mpr ⟨⟨(List.mem_of_getElem? (i := 49) rfl), good_of_word rfl⟩, List.forall_mem_cons.mpr ⟨⟨(List.mem_of_getElem? (i := 50) rfl), good_of_word rfl⟩, List.forall_mem_cons.mpr ⟨⟨(List.mem_of_getElem? (i := 51) rfl), good_of_word rfl⟩, List.forall_mem_cons.mpr ⟨⟨(List.mem_of_getElem? (i := 52) rfl), good_of_word rfl⟩, List.forall_mem_cons.mpr ⟨⟨(List.mem_of_getElem? (i := 53) rfl), good_of_word rfl⟩, List.forall_mem_cons.mpr ⟨⟨(List.mem_of_getElem? (i := 6) rfl), good_of_word rfl⟩, List.forall_mem_cons.mpr ⟨⟨(List.mem_of_getElem? (i := 54) rfl), good_of_word rfl⟩, (fun _ h => absurd h List.not_mem_nil)⟩⟩⟩⟩⟩⟩⟩⟩⟩⟩⟩⟩⟩⟩⟩⟩⟩⟩⟩⟩⟩⟩⟩⟩⟩⟩⟩⟩⟩⟩⟩⟩⟩⟩⟩⟩⟩⟩⟩⟩⟩⟩⟩⟩⟩⟩⟩⟩, fun w h => ⟨(fun w h => List.mem_cons_of_mem _ (List.mem_append_left _ (List.mem_append_left _ (List.mem_append_left _ (List.mem_append_left _ (List.mem_append_right _ h)))))) w h, good_of_word (List.all_eq_true.mp gw_X2 w h)⟩⟩, fun w h => ⟨(fun w h => List.mem_cons_of_mem _ (List.mem_append_left _ (List.mem_append_left _ (List.mem_append_left _ (List.mem_append_right _ h))))) w h, good_of_word (List.all_eq_true.mp gw_X7 w h)⟩⟩, fun w h => ⟨(fun w h => List.mem_cons_of_mem _ (List.mem_append_left _ (List.mem_append_left _ (List.mem_append_right _ h)))) w h, good_of_word (List.all_eq_true.mp gw_X9 w h)⟩⟩, fun w h => ⟨(fun w h => List.mem_cons_of_mem _ (List.mem_append_left _ (List.mem_append_right _ h))) w h, good_of_word (List.all_eq_true.mp gw_X10 w h)⟩⟩⟩
set_option maxRecDepth 20000 in
theorem gq_c_X11_rest_c_X2_turnsTillRest_235 : GoodIn wq_c_X11_rest (wsV RX11 235 RX2 yX2_turnsTillRest wq_c_X2_turnsTillRest) := goodIn_app (List.forall_mem_cons.mpr ⟨⟨(List.mem_of_getElem? (i := 3) rfl), good_of_word rfl⟩, List.forall_mem_cons.mpr ⟨⟨(List.mem_of_getElem? (i := 4) rfl), good_of_word rfl⟩, List.forall_mem_cons.mpr ⟨⟨(List.mem_of_getElem? (i := 5) rfl), good_of_word rfl⟩, List.forall_mem_cons.mpr ⟨⟨(List.mem_of_getElem? (i := 6) rfl), good_of_word rfl⟩, (fun _ h => absurd h List.not_mem_nil)⟩⟩⟩⟩) gr_c_X11_rest_c_X2_turnsTillRest
set_option maxRecDepth 20000 in
theorem gr_c_X11_rest_c_X11_layThere : GoodIn wq_c_X11_rest wq_c_X11_layThere := List.forall_mem_cons.mpr ⟨⟨(List.mem_of_getElem? (i := 62) rfl), good_of_word rfl⟩, List.forall_mem_append.mpr ⟨List.forall_mem_cons.mpr ⟨⟨(List.mem_of_getElem? (i := 63) rfl), good_of_word rfl⟩, List.forall_mem_cons.mpr ⟨⟨(List.mem_of_getElem? (i := 64) rfl), good_of_word rfl⟩, List.forall_mem_cons.mpr ⟨⟨(List.mem_of_getElem? (i := 65) rfl), good_of_word rfl⟩, List.forall_mem_cons.mpr ⟨⟨(List.mem_of_getElem? (i := 66) rfl), good_of_word rfl⟩, List.forall_mem_cons.mpr ⟨⟨(List.mem_of_getElem? (i := 67) rfl), good_of_word rfl⟩, List.forall_mem_cons.mpr ⟨⟨(List.mem_of_getElem? (i := 1) rfl), good_of_word rfl⟩, List.forall_mem_cons.mpr ⟨⟨(List.mem_of_getElem? (i := 68) rfl), good_of_word rfl⟩, List.forall_mem_cons.mpr ⟨⟨(List.mem_of_getElem? (i := 25) rfl), good_of_word rfl⟩, List.forall_mem_cons.mpr ⟨⟨(List.mem_of_getElem? (i := 26) rfl), good_of_word rfl⟩, List.forall_mem_cons.mpr ⟨⟨(List.mem_of_getElem? (i := 27) rfl), good_of_word rfl⟩, (fun _ h => absurd h List.not_mem_nil)⟩⟩⟩⟩⟩⟩⟩⟩⟩⟩, fun w h => ⟨(fun w h => List.mem_cons_of_mem _ (List.mem_append_right _ h)) w h, good_of_word (List.all_eq_true.mp gw_X11 w h)⟩⟩⟩
set_option maxRecDepth 20000 in
theorem gq_c_X11_rest_c_X11_layThere_224 : GoodIn wq_c_X11_rest (wsV RX11 224 RX11 yX11_layThere wq_c_X11_layThere) := goodIn_app (List.forall_mem_cons.mpr ⟨⟨(List.mem_of_getElem? (i := 58) rfl), good_of_word rfl⟩, List.forall_mem_cons.mpr ⟨⟨(List.mem_of_getElem? (i := 59) rfl), good_of_word rfl⟩, List.forall_mem_cons.mpr ⟨⟨(List.mem_of_getElem? (i := 60) rfl), good_of_word rfl⟩, List.forall_mem_cons.mpr ⟨⟨(List.mem_of_getElem? (i := 61) rfl), good_of_word rfl⟩, (fun _ h => absurd h List.not_mem_nil)⟩⟩⟩⟩) gr_c_X11_rest_c_X11_layThere
set_option maxHeartbeats 8000000 in
set_option maxRecDepth 100000 in
theorem c_X11_rest (l : Launch) (D : va_G) (cy : Nat → ClassId) (ad : Nat → Nat) (g : Nat → va_E) {f0 : List Value} {f1 : List Value} {f2 : List Value} {c3 : Nat → Int32} {c4 : Nat → Int32} {f5 : List Value} {f6 : List Value} {c7 : Nat → Int32} {c8 : Nat → Int32} {c9 : Nat → Int32} {c10 : Nat → Int32} {c11 : Nat → Int32} {c12 : Nat → Int32} {c13 : Nat → Int32} {c14 : Nat → Int32} {c15 : Nat → Int32} {c16 : Nat → Int32} {c17 : Nat → Int32} {c18 : Nat → Int32} {c19 : Nat → Int32} (o0 : g 0 = .inr (11, f0)) (f0_4 : f0[4]? = some (.ref (ad 2))) (f0_9 : f0[9]? = some (.ref (ad 1))) (f0_12 : f0[12]? = some (.ref (ad 19))) (f0_13 : f0[13]? = some (.int 0)) (o1 : g 1 = .inr (2, f1)) (f1_1 : f1[1]? = some (.ref (ad 2))) (f1_3 : f1[3]? = some (.ref (ad 5))) (f1_5 : f1[5]? = some (.int 0)) (f1_6 : f1[6]? = some (.ref (ad 16))) (f1_7 : f1[7]? = some (.ref (ad 17))) (f1_9 : f1[9]? = some (.ref (ad 18))) (o2 : g 2 = .inr (9, f2)) (f2_0 : f2[0]? = some (.ref (ad 3))) (f2_3 : f2[3]? = some (.ref (ad 4))) (f2_4 : f2[4]? = some (.int 0)) (a3 : g 3 = .inl (cy 0, 24, .inl c3)) (a4 : g 4 = .inl (cy 0, 5, .inl c4)) (o5 : g 5 = .inr (10, f5)) (f5_0 : f5[0]? = some (.ref (ad 6))) (f5_1 : f5[1]? = some (.ref (ad 9))) (f5_2 : f5[2]? = some (.ref (ad 10))) (f5_3 : f5[3]? = some (.ref (ad 11))) (f5_4 : f5[4]? = some (.ref (ad 12))) (f5_5 : f5[5]? = some (.ref (ad 13))) (f5_6 : f5[6]? = some (.ref (ad 14))) (f5_7 : f5[7]? = some (.ref (ad 15))) (o6 : g 6 = .inr (7, f6)) (f6_9 : f6[9]? = some (.ref (ad 7))) (f6_10 : f6[10]? = some (.ref (ad 8))) (a7 : g 7 = .inl (cy 0, 20, .inl c7)) (a8 : g 8 = .inl (cy 0, 4, .inl c8)) (a9 : g 9 = .inl (cy 0, 5, .inl c9)) (a10 : g 10 = .inl (cy 0, 20, .inl c10)) (a11 : g 11 = .inl (cy 0, 4, .inl c11)) (a12 : g 12 = .inl (cy 0, 5, .inl c12)) (a13 : g 13 = .inl (cy 0, 5, .inl c13)) (a14 : g 14 = .inl (cy 0, 5, .inl c14)) (a15 : g 15 = .inl (cy 0, 5, .inl c15)) (a16 : g 16 = .inl (cy 0, 24, .inl c16)) (a17 : g 17 = .inl (cy 0, 24, .inl c17)) (a18 : g 18 = .inl (cy 0, 24, .inl c18)) (a19 : g 19 = .inl (cy 0, 24, .inl c19)) : cMi l yX11_rest wq_c_X11_rest { frames := 4, cells := 0, slots := 0, locals := 102 } 20 0 0 0 D cy ad g [.ref (ad 0)] (fun r nw lu => r = 1) := by
  refine cM_of (Qc := fun A => cQi (fun r nw lu => r = 1) D 20 0 ad g A) (cc := cX11_rest) (maxL := 2) (ret := (some .int)) (by decide) rfl (Nat.le_of_ble_eq_true rfl) ?_
  intro p e s m below meth c A hC hr hlk hnm hO ls hl
  have hC : CallFix p m c cX11_rest 2 s [.ref (ad 0)].toArray wq_c_X11_rest RX11 := hC
  obtain ⟨hx, hb, hml, hown, hts⟩ := id hC
  have hl : lv_has ls 2 [(0, .ref (ad 0))] := hl
  have i_X10 : ∀ w ∈ wsX100, w ∈ wq_c_X11_rest := fun w h => List.mem_cons_of_mem _ (List.mem_append_left _ (List.mem_append_right _ h))
  have i_X11 : ∀ w ∈ wsX110, w ∈ wq_c_X11_rest := fun w h => List.mem_cons_of_mem _ (List.mem_append_right _ h)
  have i_X2 : ∀ w ∈ wsX20, w ∈ wq_c_X11_rest := fun w h => List.mem_cons_of_mem _ (List.mem_append_left _ (List.mem_append_left _ (List.mem_append_left _ (List.mem_append_left _ (List.mem_append_right _ h)))))
  have i_X7 : ∀ w ∈ wsX70, w ∈ wq_c_X11_rest := fun w h => List.mem_cons_of_mem _ (List.mem_append_left _ (List.mem_append_left _ (List.mem_append_left _ (List.mem_append_right _ h))))
  have i_X9 : ∀ w ∈ wsX90, w ∈ wq_c_X11_rest := fun w h => List.mem_cons_of_mem _ (List.mem_append_left _ (List.mem_append_left _ (List.mem_append_right _ h)))
  refine lv_aload_n hx hb dX11_rest_0 rfl (lv_at hl 0 rfl) ?_
  refine lv_iconst (v := 0) hx hb dX11_rest_1 (by decide) ?_
  refine cg_put hC hO 0 (by decide) o0 rfl i_X11 tyX11_ok nmX11 13 (by decide) (List.mem_of_getElem? (i := 1) rfl) rfl rfl rfl (fs_lt f0_13) dX11_rest_2 (fun H locs hO => ?_)
  have hO : cO D cy A s.heap s 20 ad (cup [(0, .inr (11, (f0.set 13 (.int 0))))] g) _ _ := hO
  refine lv_aload_n hx hb dX11_rest_5 rfl (lv_at hl 0 rfl) ?_
  refine cg_get hC hO 0 (by decide) rfl rfl i_X11 9 (by decide) (List.mem_of_getElem? (i := 2) rfl) (fs_ne (by decide) f0_9) dX11_rest_6 ?_
  refine cg_Vi (As := []) (rest := []) (mc := 0) (ms := 0) (rm := { frames := 3, cells := 0, slots := 0, locals := 81 }) hC hl.1 hO [1, 2, 16, 18, 3, 17, 5, 6, 7, 8, 9, 10, 11, 12, 13, 14, 15, 4] rfl (c_X2_turnsTillRest l D cy _ _ (f0 := f1) (f1 := f2) (c4 := c3) (c17 := c4) (f6 := f5) (f7 := f6) (c8 := c7) (c9 := c8) (c10 := c9) (c11 := c10) (c12 := c11) (c13 := c12) (c14 := c13) (c15 := c14) (c16 := c15) (c2 := c16) (c5 := c17) (c3 := c18) o1 f1_1 f1_3 f1_5 f1_6 f1_7 f1_9 o2 f2_0 f2_3 f2_4 a16 a18 a3 a17 o5 f5_0 f5_1 f5_2 f5_3 f5_4 f5_5 f5_6 f5_7 o6 f6_9 f6_10 a7 a8 a9 a10 a11 a12 a13 a14 a15 a4) gq_c_X11_rest_c_X2_turnsTillRest_235 rfl rfl rfl 0 (by decide +kernel) ⟨Nat.le_of_ble_eq_true rfl, Nat.le_of_ble_eq_true rfl⟩ rfl (by decide) o1 rfl rfl (Nat.le_of_ble_eq_true rfl) dX11_rest_9 ⟨Nat.le_of_ble_eq_true rfl, Nat.le_of_ble_eq_true rfl⟩ (fun r_9_3 nw_9_1 l_9_2 H locs hw hO => ?_)
  obtain ⟨cz_9_4, c5_9_5, c2_9_6, c5_9_7, c7_9_8, cz_9_9, cz_9_10, cz_9_11, cz_9_12, rfl, rfl⟩ := hw
  have hO : cO D cy A s.heap s 20 ad (cup [(0, .inr (11, (f0.set 13 (.int 0)))), (9, .inl (cy 0, 5, .inl c2_9_6)), (10, .inl (cy 0, 20, .inl c5_9_7)), (11, .inl (cy 0, 4, .inl c7_9_8)), (15, .inl (cy 0, 5, .inl cz_9_12)), (14, .inl (cy 0, 5, .inl cz_9_11)), (13, .inl (cy 0, 5, .inl cz_9_10)), (12, .inl (cy 0, 5, .inl cz_9_9)), (17, .inl (cy 0, 24, .inl c5_9_5)), (18, .inl (cy 0, 24, .inl cz_9_4)), (1, .inr (2, (f1.set 5 (.int 0))))] g) _ _ := hO
  refine lv_istore_n (lv' := [(1, .int 1), (0, .ref (ad 0))]) hx hb dX11_rest_12 rfl hl (by decide) rfl (fun ls hl => ?_)
  refine lv_iload_n hx hb dX11_rest_13 rfl (lv_at hl 0 rfl) ?_
  refine lv_iconst (v := (-1)) hx hb dX11_rest_14 (by decide) ?_
  refine lv_icmp_eq (tgt := 36) hx hb dX11_rest_15 (by decide) (fun h => absurd h (by decide)) (fun _ => ?_)
  refine lv_aload_n hx hb dX11_rest_18 rfl (lv_at hl 1 rfl) ?_
  refine lv_aload_n hx hb dX11_rest_19 rfl (lv_at hl 1 rfl) ?_
  refine cg_get hC hO 0 (by decide) rfl rfl i_X11 9 (by decide) (List.mem_of_getElem? (i := 2) rfl) (fs_ne (by decide) f0_9) dX11_rest_20 ?_
  refine cg_get hC hO 1 (by decide) rfl rfl i_X2 9 (by decide) (List.mem_of_getElem? (i := 55) rfl) (fs_ne (by decide) f1_9) dX11_rest_23 ?_
  refine lv_aload_n hx hb dX11_rest_26 rfl (lv_at hl 1 rfl) ?_
  refine cg_get hC hO 0 (by decide) rfl rfl i_X11 4 (by decide) (List.mem_of_getElem? (i := 56) rfl) (fs_ne (by decide) f0_4) dX11_rest_27 ?_
  refine cg_get hC hO 2 (by decide) o2 rfl i_X9 4 (by decide) (List.mem_of_getElem? (i := 57) rfl) f2_4 dX11_rest_30 ?_
  refine cg_Vv (As := [.ref (ad 18), .int 0]) (rest := []) (mc := 0) (ms := 0) (rm := { frames := 1, cells := 0, slots := 0, locals := 60 }) hC hl.1 hO [0, 19, 18] rfl (c_X11_layThere l D cy _ _ (f0 := (f0.set 13 (.int 0))) (c1 := c19) (x := 0) (q := 24) (c2 := cz_9_4) (n := 0) rfl (fs_ne (by decide) f0_12) (fs_eq f0_13) a19 rfl (by omega) (by omega)) gq_c_X11_rest_c_X11_layThere_224 rfl rfl rfl 2 (by decide +kernel) ⟨Nat.le_of_ble_eq_true rfl, Nat.le_of_ble_eq_true rfl⟩ rfl (by decide) rfl rfl rfl (Nat.le_of_ble_eq_true rfl) dX11_rest_33 ⟨Nat.le_of_ble_eq_true rfl, Nat.le_of_ble_eq_true rfl⟩ (fun nw_33_13 l_33_14 H locs hw hO => ?_)
  obtain ⟨c1_33_16, rfl⟩ := hw
  have hO : cO D cy A s.heap s 20 ad (cup [(0, .inr (11, ((f0.set 13 (.int 0)).set 13 (.int 0)))), (9, .inl (cy 0, 5, .inl c2_9_6)), (10, .inl (cy 0, 20, .inl c5_9_7)), (11, .inl (cy 0, 4, .inl c7_9_8)), (15, .inl (cy 0, 5, .inl cz_9_12)), (14, .inl (cy 0, 5, .inl cz_9_11)), (13, .inl (cy 0, 5, .inl cz_9_10)), (12, .inl (cy 0, 5, .inl cz_9_9)), (17, .inl (cy 0, 24, .inl c5_9_5)), (18, .inl (cy 0, 24, .inl cz_9_4)), (1, .inr (2, (f1.set 5 (.int 0)))), (19, .inl (cy 0, 24, .inl c1_33_16))] g) _ _ := hO
  refine lv_iload_n hx hb dX11_rest_36 rfl (lv_at hl 0 rfl) ?_
  exact cg_iret (nw := fun _ => 0) hC hr hlk hO.same rfl (Nat.le_of_ble_eq_true rfl) (Nat.le_of_ble_eq_true rfl) rfl dX11_rest_37

theorem dX3_begin_0 : decode cX3_begin 0 = .ok (.aload_n 0, 1) := by decide +kernel
theorem dX3_begin_1 : decode cX3_begin 1 = .ok (.aload_n 0, 1) := by decide +kernel
theorem dX3_begin_2 : decode cX3_begin 2 = .ok (.getfield 28, 3) := by decide +kernel
theorem dX3_begin_5 : decode cX3_begin 5 = .ok (.aload_n 0, 1) := by decide +kernel
theorem dX3_begin_6 : decode cX3_begin 6 = .ok (.getfield 9, 3) := by decide +kernel
theorem dX3_begin_9 : decode cX3_begin 9 = .ok (.invokevirtual 96, 3) := by decide +kernel
theorem dX3_begin_12 : decode cX3_begin 12 = .ok (.putfield 100, 3) := by decide +kernel
theorem dX3_begin_15 : decode cX3_begin 15 = .ok (.aload_n 0, 1) := by decide +kernel
theorem dX3_begin_16 : decode cX3_begin 16 = .ok (.getfield 9, 3) := by decide +kernel
theorem dX3_begin_19 : decode cX3_begin 19 = .ok (.aload_n 0, 1) := by decide +kernel
theorem dX3_begin_20 : decode cX3_begin 20 = .ok (.getfield 100, 3) := by decide +kernel
theorem dX3_begin_23 : decode cX3_begin 23 = .ok (.aload_n 0, 1) := by decide +kernel
theorem dX3_begin_24 : decode cX3_begin 24 = .ok (.getfield 28, 3) := by decide +kernel
theorem dX3_begin_27 : decode cX3_begin 27 = .ok (.getfield 103, 3) := by decide +kernel
theorem dX3_begin_30 : decode cX3_begin 30 = .ok (.invokestatic 106, 3) := by decide +kernel
theorem dX3_begin_33 : decode cX3_begin 33 = .ok (.aload_n 0, 1) := by decide +kernel
theorem dX3_begin_34 : decode cX3_begin 34 = .ok (.getfield 41, 3) := by decide +kernel
theorem dX3_begin_37 : decode cX3_begin 37 = .ok (.aload_n 0, 1) := by decide +kernel
theorem dX3_begin_38 : decode cX3_begin 38 = .ok (.getfield 28, 3) := by decide +kernel
theorem dX3_begin_41 : decode cX3_begin 41 = .ok (.getfield 73, 3) := by decide +kernel
theorem dX3_begin_44 : decode cX3_begin 44 = .ok (.invokevirtual 110, 3) := by decide +kernel
theorem dX3_begin_47 : decode cX3_begin 47 = .ok (.return_, 1) := by decide +kernel
def wq_c_X3_begin : List Cond := Cond.code yX3_begin cX3_begin 1 none :: (([Cond.fieldLink RX3 28 "CrowToll$Keepers" "stand" "LCrowToll$Stand;", Cond.fieldLink RX3 9 "CrowToll$Keepers" "order" "[I", Cond.methodLink RX3 96 yX9_coming, Cond.instanceMethod yX9_coming, Cond.selects RX9 yX9_coming yX9_coming, Cond.initialized RX9, Cond.code yX9_coming cX9_coming 4 (some .int), Cond.fieldLink RX9 21 "CrowToll$Stand" "carts" "I", Cond.fieldLink RX3 100 "CrowToll$Keepers" "going" "I", Cond.fieldLink RX3 103 "CrowToll$Stand" "minute" "[I", Cond.code yX11_putByMinutes cX11_putByMinutes 6 none, Cond.static yX11_putByMinutes, Cond.initialized RX11, Cond.fieldLink RX3 41 "CrowToll$Keepers" "watch" "LCrowToll$Watch;", Cond.fieldLink RX3 73 "CrowToll$Stand" "counts" "[I", Cond.methodLink RX3 110 yX10_sit, Cond.instanceMethod yX10_sit, Cond.selects RX10 yX10_sit yX10_sit, Cond.initialized RX10, Cond.code yX10_sit cX10_sit 2 none, Cond.fieldLink RX10 9 "CrowToll$Watch" "limit" "[I", Cond.methodLink RX10 37 arraycopyName, Cond.native arraycopyName, Cond.static arraycopyName, Cond.initialized "java/lang/System", Cond.fieldLink RX10 33 "CrowToll$Watch" "road" "LCrowToll$Road;", Cond.fieldLink RX10 43 "CrowToll$Road" "seat" "[I", Cond.fieldLink RX10 15 "CrowToll$Watch" "seat" "[I", Cond.fieldLink RX10 46 "CrowToll$Road" "seated" "[I", Cond.fieldLink RX10 18 "CrowToll$Watch" "seated" "[I", Cond.methodLink RX10 47 yX10_begin, Cond.instanceMethod yX10_begin, Cond.selects RX10 yX10_begin yX10_begin, Cond.code yX10_begin cX10_begin 1 none, Cond.fieldLink RX10 21 "CrowToll$Watch" "count" "[I", Cond.methodLink RX10 54 yJ7_fill_53178, Cond.static yJ7_fill_53178, Cond.initialized RJ7, Cond.code yJ7_fill_53178 cJ7_fill_53178 4 none, Cond.fieldLink RX10 24 "CrowToll$Watch" "total" "[I", Cond.fieldLink RX10 27 "CrowToll$Watch" "lookedAt" "[I", Cond.fieldLink RX10 30 "CrowToll$Watch" "countedAt" "[I"] : List Cond) ++ wsX30 ++ wsX70 ++ wsX90 ++ wsX100)
set_option maxRecDepth 20000 in
theorem gr_c_X3_begin_c_coming0 : GoodIn wq_c_X3_begin wq_c_coming0 := List.forall_mem_cons.mpr ⟨⟨(List.mem_of_getElem? (i := 7) rfl), good_of_word rfl⟩, List.forall_mem_append.mpr ⟨List.forall_mem_cons.mpr ⟨⟨(List.mem_of_getElem? (i := 8) rfl), good_of_word rfl⟩, (fun _ h => absurd h List.not_mem_nil)⟩, fun w h => ⟨(fun w h => List.mem_cons_of_mem _ (List.mem_append_left _ (List.mem_append_right _ h))) w h, good_of_word (List.all_eq_true.mp gw_X9 w h)⟩⟩⟩
set_option maxRecDepth 20000 in
theorem gq_c_X3_begin_c_coming0_96 : GoodIn wq_c_X3_begin (wsV RX3 96 RX9 yX9_coming wq_c_coming0) := goodIn_app (List.forall_mem_cons.mpr ⟨⟨(List.mem_of_getElem? (i := 3) rfl), good_of_word rfl⟩, List.forall_mem_cons.mpr ⟨⟨(List.mem_of_getElem? (i := 4) rfl), good_of_word rfl⟩, List.forall_mem_cons.mpr ⟨⟨(List.mem_of_getElem? (i := 5) rfl), good_of_word rfl⟩, List.forall_mem_cons.mpr ⟨⟨(List.mem_of_getElem? (i := 6) rfl), good_of_word rfl⟩, (fun _ h => absurd h List.not_mem_nil)⟩⟩⟩⟩) gr_c_X3_begin_c_coming0
set_option maxRecDepth 20000 in
theorem gr_c_X3_begin_c_pbm0 : GoodIn wq_c_X3_begin wq_c_pbm0 := List.forall_mem_cons.mpr ⟨⟨(List.mem_of_getElem? (i := 11) rfl), good_of_word rfl⟩, (fun _ h => absurd h List.not_mem_nil)⟩
theorem gq_c_X3_begin_c_pbm0 : GoodIn wq_c_X3_begin wq_c_pbm0 := gr_c_X3_begin_c_pbm0
set_option maxRecDepth 20000 in
theorem gr_c_X3_begin_c_X10_sit : GoodIn wq_c_X3_begin wq_c_X10_sit := List.forall_mem_cons.mpr ⟨⟨(List.mem_of_getElem? (i := 20) rfl), good_of_word rfl⟩, List.forall_mem_append.mpr ⟨List.forall_mem_append.mpr ⟨List.forall_mem_cons.mpr ⟨⟨(List.mem_of_getElem? (i := 21) rfl), good_of_word rfl⟩, List.forall_mem_cons.mpr ⟨⟨(List.mem_of_getElem? (i := 22) rfl), good_of_word rfl⟩, List.forall_mem_cons.mpr ⟨⟨(List.mem_of_getElem? (i := 23) rfl), good_of_word rfl⟩, List.forall_mem_cons.mpr ⟨⟨(List.mem_of_getElem? (i := 24) rfl), good_of_word rfl⟩, List.forall_mem_cons.mpr ⟨⟨(List.mem_of_getElem? (i := 25) rfl), good_of_word rfl⟩, List.forall_mem_cons.mpr ⟨⟨(List.mem_of_getElem? (i := 26) rfl), good_of_word rfl⟩, List.forall_mem_cons.mpr ⟨⟨(List.mem_of_getElem? (i := 27) rfl), good_of_word rfl⟩, List.forall_mem_cons.mpr ⟨⟨(List.mem_of_getElem? (i := 28) rfl), good_of_word rfl⟩, List.forall_mem_cons.mpr ⟨⟨(List.mem_of_getElem? (i := 29) rfl), good_of_word rfl⟩, List.forall_mem_cons.mpr ⟨⟨(List.mem_of_getElem? (i := 30) rfl), good_of_word rfl⟩, List.forall_mem_cons.mpr ⟨⟨(List.mem_of_getElem? (i := 31) rfl), good_of_word rfl⟩, List.forall_mem_cons.mpr ⟨⟨(List.mem_of_getElem? (i := 32) rfl), good_of_word rfl⟩, List.forall_mem_cons.mpr ⟨⟨(List.mem_of_getElem? (i := 33) rfl), good_of_word rfl⟩, List.forall_mem_cons.mpr ⟨⟨(List.mem_of_getElem? (i := 19) rfl), good_of_word rfl⟩, List.forall_mem_cons.mpr ⟨⟨(List.mem_of_getElem? (i := 34) rfl), good_of_word rfl⟩, List.forall_mem_cons.mpr ⟨⟨(List.mem_of_getElem? (i := 35) rfl), good_of_word rfl⟩, List.forall_mem_cons.mpr ⟨⟨(List.mem_of_getElem? (i := 36) rfl), good_of_word rfl⟩, List.forall_mem_cons.mpr ⟨⟨(List.mem_of_getElem? (i := 37) rfl), good_of_word rfl⟩, List.forall_mem_cons.mpr ⟨⟨(List.mem_of_getElem? (i := 38) rfl), good_of_word rfl⟩, List.forall_mem_cons.mpr ⟨⟨(List.mem_of_getElem? (i := 39) rfl), good_of_word rfl⟩, List.forall_mem_cons.mpr ⟨⟨(List.mem_of_getElem? (i := 40) rfl), good_of_word rfl⟩, List.forall_mem_cons.mpr ⟨⟨(List.mem_of_getElem? (i := 41) rfl), good_of_word rfl⟩, List.forall_mem_cons.mpr ⟨⟨(List.mem_of_getElem? (i := 42) rfl), good_of_word rfl⟩, (fun _ h => absurd h List.not_mem_nil)⟩⟩⟩⟩⟩⟩⟩⟩⟩⟩⟩⟩⟩⟩⟩⟩⟩⟩⟩⟩⟩⟩⟩, fun w h => ⟨(fun w h => List.mem_cons_of_mem _ (List.mem_append_left _ (List.mem_append_left _ (List.mem_append_right _ h)))) w h, good_of_word (List.all_eq_true.mp gw_X7 w h)⟩⟩, fun w h => ⟨(fun w h => List.mem_cons_of_mem _ (List.mem_append_right _ h)) w h, good_of_word (List.all_eq_true.mp gw_X10 w h)⟩⟩⟩
set_option maxRecDepth 20000 in
theorem gq_c_X3_begin_c_X10_sit_110 : GoodIn wq_c_X3_begin (wsV RX3 110 RX10 yX10_sit wq_c_X10_sit) := goodIn_app (List.forall_mem_cons.mpr ⟨⟨(List.mem_of_getElem? (i := 16) rfl), good_of_word rfl⟩, List.forall_mem_cons.mpr ⟨⟨(List.mem_of_getElem? (i := 17) rfl), good_of_word rfl⟩, List.forall_mem_cons.mpr ⟨⟨(List.mem_of_getElem? (i := 18) rfl), good_of_word rfl⟩, List.forall_mem_cons.mpr ⟨⟨(List.mem_of_getElem? (i := 19) rfl), good_of_word rfl⟩, (fun _ h => absurd h List.not_mem_nil)⟩⟩⟩⟩) gr_c_X3_begin_c_X10_sit
set_option maxHeartbeats 8000000 in
set_option maxRecDepth 100000 in
theorem c_X3_begin (l : Launch) (D : va_G) (cy : Nat → ClassId) (ad : Nat → Nat) (g : Nat → va_E) {f0 : List Value} {f1 : List Value} {c2 : Nat → Int32} {c3 : Nat → Int32} {f4 : List Value} {f5 : List Value} {c6 : Nat → Int32} {c7 : Nat → Int32} {c8 : Nat → Int32} {c9 : Nat → Int32} {c10 : Nat → Int32} {c11 : Nat → Int32} {c12 : Nat → Int32} {c13 : Nat → Int32} {c14 : Nat → Int32} {c15 : Nat → Int32} (o0 : g 0 = .inr (3, f0)) (f0_1 : f0[1]? = some (.ref (ad 1))) (f0_3 : f0[3]? = some (.ref (ad 4))) (f0_4 : f0[4]? = some (.ref (ad 2))) (f0_5 : f0[5]? = some (.int 0)) (o1 : g 1 = .inr (9, f1)) (f1_0 : f1[0]? = some (.ref (ad 3))) (f1_3 : f1[3]? = some (.ref (ad 15))) (f1_4 : f1[4]? = some (.int 0)) (a2 : g 2 = .inl (cy 0, 24, .inl c2)) (a3 : g 3 = .inl (cy 0, 24, .inl c3)) (o4 : g 4 = .inr (10, f4)) (f4_0 : f4[0]? = some (.ref (ad 5))) (f4_1 : f4[1]? = some (.ref (ad 8))) (f4_2 : f4[2]? = some (.ref (ad 9))) (f4_3 : f4[3]? = some (.ref (ad 10))) (f4_4 : f4[4]? = some (.ref (ad 11))) (f4_5 : f4[5]? = some (.ref (ad 12))) (f4_6 : f4[6]? = some (.ref (ad 13))) (f4_7 : f4[7]? = some (.ref (ad 14))) (o5 : g 5 = .inr (7, f5)) (f5_9 : f5[9]? = some (.ref (ad 6))) (f5_10 : f5[10]? = some (.ref (ad 7))) (a6 : g 6 = .inl (cy 0, 20, .inl c6)) (a7 : g 7 = .inl (cy 0, 4, .inl c7)) (a8 : g 8 = .inl (cy 0, 5, .inl c8)) (a9 : g 9 = .inl (cy 0, 20, .inl c9)) (a10 : g 10 = .inl (cy 0, 4, .inl c10)) (a11 : g 11 = .inl (cy 0, 5, .inl c11)) (a12 : g 12 = .inl (cy 0, 5, .inl c12)) (a13 : g 13 = .inl (cy 0, 5, .inl c13)) (a14 : g 14 = .inl (cy 0, 5, .inl c14)) (a15 : g 15 = .inl (cy 0, 5, .inl c15)) : cMv l yX3_begin wq_c_X3_begin { frames := 3, cells := 0, slots := 0, locals := 81 } 16 0 0 0 D cy ad g [.ref (ad 0)] (fun nw lu => ∃ (c2_44_10 : Nat → Int32) (c5_44_11 : Nat → Int32) (c7_44_12 : Nat → Int32) (cz_44_13 : Nat → Int32) (cz_44_14 : Nat → Int32) (cz_44_15 : Nat → Int32) (cz_44_16 : Nat → Int32), lu = [(0, .inr (3, (f0.set 5 (.int 0)))), (11, .inl (cy 0, 5, .inl cz_44_13)), (12, .inl (cy 0, 5, .inl cz_44_14)), (13, .inl (cy 0, 5, .inl cz_44_15)), (14, .inl (cy 0, 5, .inl cz_44_16)), (10, .inl (cy 0, 4, .inl c7_44_12)), (9, .inl (cy 0, 20, .inl c5_44_11)), (8, .inl (cy 0, 5, .inl c2_44_10))]) := by
  refine cM_of (Qc := fun A => cQv (fun nw lu => ∃ (c2_44_10 : Nat → Int32) (c5_44_11 : Nat → Int32) (c7_44_12 : Nat → Int32) (cz_44_13 : Nat → Int32) (cz_44_14 : Nat → Int32) (cz_44_15 : Nat → Int32) (cz_44_16 : Nat → Int32), lu = [(0, .inr (3, (f0.set 5 (.int 0)))), (11, .inl (cy 0, 5, .inl cz_44_13)), (12, .inl (cy 0, 5, .inl cz_44_14)), (13, .inl (cy 0, 5, .inl cz_44_15)), (14, .inl (cy 0, 5, .inl cz_44_16)), (10, .inl (cy 0, 4, .inl c7_44_12)), (9, .inl (cy 0, 20, .inl c5_44_11)), (8, .inl (cy 0, 5, .inl c2_44_10))]) D 16 0 ad g A) (cc := cX3_begin) (maxL := 1) (ret := none) (by decide) rfl (Nat.le_of_ble_eq_true rfl) ?_
  intro p e s m below meth c A hC hr hlk hnm hO ls hl
  have hC : CallFix p m c cX3_begin 1 s [.ref (ad 0)].toArray wq_c_X3_begin RX3 := hC
  obtain ⟨hx, hb, hml, hown, hts⟩ := id hC
  have hl : lv_has ls 1 [(0, .ref (ad 0))] := hl
  have i_X10 : ∀ w ∈ wsX100, w ∈ wq_c_X3_begin := fun w h => List.mem_cons_of_mem _ (List.mem_append_right _ h)
  have i_X3 : ∀ w ∈ wsX30, w ∈ wq_c_X3_begin := fun w h => List.mem_cons_of_mem _ (List.mem_append_left _ (List.mem_append_left _ (List.mem_append_left _ (List.mem_append_right _ h))))
  have i_X7 : ∀ w ∈ wsX70, w ∈ wq_c_X3_begin := fun w h => List.mem_cons_of_mem _ (List.mem_append_left _ (List.mem_append_left _ (List.mem_append_right _ h)))
  have i_X9 : ∀ w ∈ wsX90, w ∈ wq_c_X3_begin := fun w h => List.mem_cons_of_mem _ (List.mem_append_left _ (List.mem_append_right _ h))
  refine lv_aload_n hx hb dX3_begin_0 rfl (lv_at hl 0 rfl) ?_
  refine lv_aload_n hx hb dX3_begin_1 rfl (lv_at hl 0 rfl) ?_
  refine cg_get hC hO 0 (by decide) o0 rfl i_X3 1 (by decide) (List.mem_of_getElem? (i := 1) rfl) f0_1 dX3_begin_2 ?_
  refine lv_aload_n hx hb dX3_begin_5 rfl (lv_at hl 0 rfl) ?_
  refine cg_get hC hO 0 (by decide) o0 rfl i_X3 4 (by decide) (List.mem_of_getElem? (i := 2) rfl) f0_4 dX3_begin_6 ?_
  refine cg_Vi (As := [.ref (ad 2)]) (rest := [.ref (ad 0)]) (mc := 0) (ms := 0) (rm := { frames := 0, cells := 0, slots := 0, locals := 0 }) hC hl.1 hO [1, 2] rfl (c_coming0 l D cy _ _ (f0 := f1) (c1 := c2) o1 f1_4 a2) gq_c_X3_begin_c_coming0_96 rfl rfl rfl 1 (by decide +kernel) ⟨Nat.le_of_ble_eq_true rfl, Nat.le_of_ble_eq_true rfl⟩ rfl (by decide) o1 rfl rfl (Nat.le_of_ble_eq_true rfl) dX3_begin_9 ⟨Nat.le_of_ble_eq_true rfl, Nat.le_of_ble_eq_true rfl⟩ (fun r_9_3 nw_9_1 l_9_2 H locs hw hO => ?_)
  obtain ⟨rfl, rfl⟩ := hw
  have hO : cO D cy A s.heap s 16 ad (cup [] g) _ _ := hO
  refine cg_put hC hO 0 (by decide) o0 rfl i_X3 tyX3_ok nmX3 5 (by decide) (List.mem_of_getElem? (i := 9) rfl) rfl rfl rfl (fs_lt f0_5) dX3_begin_12 (fun H locs hO => ?_)
  have hO : cO D cy A s.heap s 16 ad (cup [(0, .inr (3, (f0.set 5 (.int 0))))] g) _ _ := hO
  refine lv_aload_n hx hb dX3_begin_15 rfl (lv_at hl 0 rfl) ?_
  refine cg_get hC hO 0 (by decide) rfl rfl i_X3 4 (by decide) (List.mem_of_getElem? (i := 2) rfl) (fs_ne (by decide) f0_4) dX3_begin_16 ?_
  refine lv_aload_n hx hb dX3_begin_19 rfl (lv_at hl 0 rfl) ?_
  refine cg_get hC hO 0 (by decide) rfl rfl i_X3 5 (by decide) (List.mem_of_getElem? (i := 9) rfl) (fs_eq f0_5) dX3_begin_20 ?_
  refine lv_aload_n hx hb dX3_begin_23 rfl (lv_at hl 0 rfl) ?_
  refine cg_get hC hO 0 (by decide) rfl rfl i_X3 1 (by decide) (List.mem_of_getElem? (i := 1) rfl) (fs_ne (by decide) f0_1) dX3_begin_24 ?_
  refine cg_get hC hO 1 (by decide) o1 rfl i_X9 0 (by decide) (List.mem_of_getElem? (i := 10) rfl) f1_0 dX3_begin_27 ?_
  refine cg_Nv (As := [.ref (ad 2), .int 0, .ref (ad 3)]) (rest := []) (mc := 0) (ms := 0) (rm := { frames := 0, cells := 0, slots := 0, locals := 0 }) hC hl.1 hO [2, 3] rfl (c_pbm0 l D cy _ _ (n0 := 24) (c0 := c2) (n1 := 24) (c1 := c3) a2 a3) gq_c_X3_begin_c_pbm0 rfl rfl rfl (host := "CrowToll") (nestL_mem_10) (List.mem_of_getElem? (i := 12) rfl) (List.mem_of_getElem? (i := 13) rfl) 3 (by decide +kernel) ⟨Nat.le_of_ble_eq_true rfl, Nat.le_of_ble_eq_true rfl⟩ rfl rfl (Nat.le_of_ble_eq_true rfl) dX3_begin_30 ⟨Nat.le_of_ble_eq_true rfl, Nat.le_of_ble_eq_true rfl⟩ (fun nw_30_4 l_30_5 H locs hw hO => ?_)
  obtain rfl := hw
  have hO : cO D cy A s.heap s 16 ad (cup [(0, .inr (3, (f0.set 5 (.int 0))))] g) _ _ := hO
  refine lv_aload_n hx hb dX3_begin_33 rfl (lv_at hl 0 rfl) ?_
  refine cg_get hC hO 0 (by decide) rfl rfl i_X3 3 (by decide) (List.mem_of_getElem? (i := 14) rfl) (fs_ne (by decide) f0_3) dX3_begin_34 ?_
  refine lv_aload_n hx hb dX3_begin_37 rfl (lv_at hl 0 rfl) ?_
  refine cg_get hC hO 0 (by decide) rfl rfl i_X3 1 (by decide) (List.mem_of_getElem? (i := 1) rfl) (fs_ne (by decide) f0_1) dX3_begin_38 ?_
  refine cg_get hC hO 1 (by decide) o1 rfl i_X9 3 (by decide) (List.mem_of_getElem? (i := 15) rfl) f1_3 dX3_begin_41 ?_
  refine cg_Vv (As := [.ref (ad 15)]) (rest := []) (mc := 0) (ms := 0) (rm := { frames := 2, cells := 0, slots := 0, locals := 60 }) hC hl.1 hO [4, 15, 8, 5, 6, 9, 7, 10, 11, 12, 13, 14] rfl (c_X10_sit l D cy _ _ (f0 := f4) (f3 := f5) (c4 := c6) (c6 := c7) (c2 := c8) (c5 := c9) (c7 := c10) (c8 := c11) (c9 := c12) (c10 := c13) (c11 := c14) (c1 := c15) o4 f4_0 f4_1 f4_2 f4_3 f4_4 f4_5 f4_6 f4_7 a15 a8 o5 f5_9 f5_10 a6 a9 a7 a10 a11 a12 a13 a14) gq_c_X3_begin_c_X10_sit_110 rfl rfl rfl 1 (by decide +kernel) ⟨Nat.le_of_ble_eq_true rfl, Nat.le_of_ble_eq_true rfl⟩ rfl (by decide) o4 rfl rfl (Nat.le_of_ble_eq_true rfl) dX3_begin_44 ⟨Nat.le_of_ble_eq_true rfl, Nat.le_of_ble_eq_true rfl⟩ (fun nw_44_7 l_44_8 H locs hw hO => ?_)
  obtain ⟨c2_44_10, c5_44_11, c7_44_12, cz_44_13, cz_44_14, cz_44_15, cz_44_16, rfl⟩ := hw
  have hO : cO D cy A s.heap s 16 ad (cup [(0, .inr (3, (f0.set 5 (.int 0)))), (11, .inl (cy 0, 5, .inl cz_44_13)), (12, .inl (cy 0, 5, .inl cz_44_14)), (13, .inl (cy 0, 5, .inl cz_44_15)), (14, .inl (cy 0, 5, .inl cz_44_16)), (10, .inl (cy 0, 4, .inl c7_44_12)), (9, .inl (cy 0, 20, .inl c5_44_11)), (8, .inl (cy 0, 5, .inl c2_44_10))] g) _ _ := hO
  exact cg_vret (nw := fun _ => 0) hC hr hlk hO.same (Nat.le_of_ble_eq_true rfl) (Nat.le_of_ble_eq_true rfl) (⟨c2_44_10, c5_44_11, c7_44_12, cz_44_13, cz_44_14, cz_44_15, cz_44_16, rfl⟩) dX3_begin_47

theorem dX11_power_0 : decode cX11_power 0 = .ok (.iconst 1, 1) := by decide +kernel
theorem dX11_power_1 : decode cX11_power 1 = .ok (.istore_n 2, 1) := by decide +kernel
theorem dX11_power_2 : decode cX11_power 2 = .ok (.iconst 0, 1) := by decide +kernel
theorem dX11_power_3 : decode cX11_power 3 = .ok (.istore_n 3, 1) := by decide +kernel
theorem dX11_power_4 : decode cX11_power 4 = .ok (.iload_n 3, 1) := by decide +kernel
theorem dX11_power_5 : decode cX11_power 5 = .ok (.iload_n 1, 1) := by decide +kernel
theorem dX11_power_6 : decode cX11_power 6 = .ok (.if_icmp .ge 13, 3) := by decide +kernel
theorem dX11_power_19 : decode cX11_power 19 = .ok (.iload_n 2, 1) := by decide +kernel
theorem dX11_power_20 : decode cX11_power 20 = .ok (.ireturn, 1) := by decide +kernel
def wq_c_X11_power : List Cond := Cond.code yX11_power cX11_power 4 (some .int) :: (([] : List Cond))
set_option maxHeartbeats 8000000 in
set_option maxRecDepth 100000 in
theorem c_X11_power (l : Launch) (D : va_G) (cy : Nat → ClassId) (ad : Nat → Nat) (g : Nat → va_E) {x : Int32}  : cMi l yX11_power wq_c_X11_power { frames := 0, cells := 0, slots := 0, locals := 0 } 0 0 0 0 D cy ad g [.int x, .int 0] (fun r nw lu => (r = 1) ∧ (lu = [])) := by
  refine cM_of (Qc := fun A => cQi (fun r nw lu => (r = 1) ∧ (lu = [])) D 0 0 ad g A) (cc := cX11_power) (maxL := 4) (ret := (some .int)) (by decide) rfl (Nat.le_of_ble_eq_true rfl) ?_
  intro p e s m below meth c A hC hr hlk hnm hO ls hl
  have hC : CallFix p m c cX11_power 4 s [.int x, .int 0].toArray wq_c_X11_power RX11 := hC
  obtain ⟨hx, hb, hml, hown, hts⟩ := id hC
  have hl : lv_has ls 4 [(0, .int x), (1, .int 0)] := hl
  refine lv_iconst (v := 1) hx hb dX11_power_0 (by decide) ?_
  refine lv_istore_n (lv' := [(2, .int 1), (0, .int x), (1, .int 0)]) hx hb dX11_power_1 rfl hl (by decide) rfl (fun ls hl => ?_)
  refine lv_iconst (v := 0) hx hb dX11_power_2 (by decide) ?_
  refine lv_istore_n (lv' := [(3, .int 0), (2, .int 1), (0, .int x), (1, .int 0)]) hx hb dX11_power_3 rfl hl (by decide) rfl (fun ls hl => ?_)
  refine lv_iload_n hx hb dX11_power_4 rfl (lv_at hl 0 rfl) ?_
  refine lv_iload_n hx hb dX11_power_5 rfl (lv_at hl 3 rfl) ?_
  refine lv_icmp_ge (tgt := 19) hx hb dX11_power_6 (by decide) (fun _ => ?_) (fun h => absurd h (by decide))
  refine lv_iload_n hx hb dX11_power_19 rfl (lv_at hl 1 rfl) ?_
  exact cg_iret (nw := fun _ => 0) hC hr hlk hO.same rfl (Nat.le_of_ble_eq_true rfl) (Nat.le_of_ble_eq_true rfl) (⟨rfl, rfl⟩) dX11_power_20

theorem dX11_spread_0 : decode cX11_spread 0 = .ok (.iload_n 0, 1) := by decide +kernel
theorem dX11_spread_1 : decode cX11_spread 1 = .ok (.istore 4, 2) := by decide +kernel
theorem dX11_spread_3 : decode cX11_spread 3 = .ok (.iload_n 2, 1) := by decide +kernel
theorem dX11_spread_4 : decode cX11_spread 4 = .ok (.iconst 1, 1) := by decide +kernel
theorem dX11_spread_5 : decode cX11_spread 5 = .ok (.isub, 1) := by decide +kernel
theorem dX11_spread_6 : decode cX11_spread 6 = .ok (.istore 5, 2) := by decide +kernel
theorem dX11_spread_8 : decode cX11_spread 8 = .ok (.iload 5, 2) := by decide +kernel
theorem dX11_spread_10 : decode cX11_spread 10 = .ok (.ifCond .lt 27, 3) := by decide +kernel
theorem dX11_spread_37 : decode cX11_spread 37 = .ok (.return_, 1) := by decide +kernel
def wq_c_X11_spread : List Cond := Cond.code yX11_spread cX11_spread 6 none :: (([] : List Cond))
set_option maxHeartbeats 8000000 in
set_option maxRecDepth 100000 in
theorem c_X11_spread (l : Launch) (D : va_G) (cy : Nat → ClassId) (ad : Nat → Nat) (g : Nat → va_E) {q : Nat} {c0 : Nat → Int32} {x : Int32} (a0 : g 0 = .inl (cy 0, q, .inl c0)) : cMv l yX11_spread wq_c_X11_spread { frames := 0, cells := 0, slots := 0, locals := 0 } 1 0 0 0 D cy ad g [.int 0, .int x, .int 0, .ref (ad 0)] (fun nw lu => lu = []) := by
  refine cM_of (Qc := fun A => cQv (fun nw lu => lu = []) D 1 0 ad g A) (cc := cX11_spread) (maxL := 6) (ret := none) (by decide) rfl (Nat.le_of_ble_eq_true rfl) ?_
  intro p e s m below meth c A hC hr hlk hnm hO ls hl
  have hC : CallFix p m c cX11_spread 6 s [.int 0, .int x, .int 0, .ref (ad 0)].toArray wq_c_X11_spread RX11 := hC
  obtain ⟨hx, hb, hml, hown, hts⟩ := id hC
  have hl : lv_has ls 6 [(0, .int 0), (1, .int x), (2, .int 0), (3, .ref (ad 0))] := hl
  refine lv_iload_n hx hb dX11_spread_0 rfl (lv_at hl 0 rfl) ?_
  refine lv_istore (lv' := [(4, .int 0), (0, .int 0), (1, .int x), (2, .int 0), (3, .ref (ad 0))]) hx hb dX11_spread_1 hl (by decide) rfl (fun ls hl => ?_)
  refine lv_iload_n hx hb dX11_spread_3 rfl (lv_at hl 3 rfl) ?_
  refine lv_iconst (v := 1) hx hb dX11_spread_4 (by decide) ?_
  refine lv_isub hx hb dX11_spread_5 ?_
  refine cg_ev (v := (-1)) (by decide) ?_
  refine lv_istore (lv' := [(5, .int (-1)), (4, .int 0), (0, .int 0), (1, .int x), (2, .int 0), (3, .ref (ad 0))]) hx hb dX11_spread_6 hl (by decide) rfl (fun ls hl => ?_)
  refine lv_iload hx hb dX11_spread_8 (lv_at hl 0 rfl) ?_
  refine lv_if_lt (tgt := 37) hx hb dX11_spread_10 (by decide) (fun _ => ?_) (fun h => absurd h (by decide))
  exact cg_vret (nw := fun _ => 0) hC hr hlk hO.same (Nat.le_of_ble_eq_true rfl) (Nat.le_of_ble_eq_true rfl) rfl dX11_spread_37

theorem dX3_canTeach_0 : decode cX3_canTeach 0 = .ok (.iconst 0, 1) := by decide +kernel
theorem dX3_canTeach_1 : decode cX3_canTeach 1 = .ok (.istore_n 2, 1) := by decide +kernel
theorem dX3_canTeach_2 : decode cX3_canTeach 2 = .ok (.iconst 0, 1) := by decide +kernel
theorem dX3_canTeach_3 : decode cX3_canTeach 3 = .ok (.istore_n 3, 1) := by decide +kernel
theorem dX3_canTeach_4 : decode cX3_canTeach 4 = .ok (.iload_n 3, 1) := by decide +kernel
theorem dX3_canTeach_5 : decode cX3_canTeach 5 = .ok (.aload_n 0, 1) := by decide +kernel
theorem dX3_canTeach_6 : decode cX3_canTeach 6 = .ok (.getfield 24, 3) := by decide +kernel
theorem dX3_canTeach_9 : decode cX3_canTeach 9 = .ok (.getfield 48, 3) := by decide +kernel
theorem dX3_canTeach_12 : decode cX3_canTeach 12 = .ok (.if_icmp .ge 41, 3) := by decide +kernel
theorem dX3_canTeach_53 : decode cX3_canTeach 53 = .ok (.iload_n 2, 1) := by decide +kernel
theorem dX3_canTeach_54 : decode cX3_canTeach 54 = .ok (.iload_n 1, 1) := by decide +kernel
theorem dX3_canTeach_55 : decode cX3_canTeach 55 = .ok (.if_icmp .ne 7, 3) := by decide +kernel
theorem dX3_canTeach_58 : decode cX3_canTeach 58 = .ok (.iconst 1, 1) := by decide +kernel
theorem dX3_canTeach_59 : decode cX3_canTeach 59 = .ok (.goto 4, 3) := by decide +kernel
theorem dX3_canTeach_62 : decode cX3_canTeach 62 = .ok (.iconst 0, 1) := by decide +kernel
theorem dX3_canTeach_63 : decode cX3_canTeach 63 = .ok (.ireturn, 1) := by decide +kernel
def wq_c_X3_canTeach : List Cond := Cond.code yX3_canTeach cX3_canTeach 4 (some .boolean) :: (([Cond.fieldLink RX3 24 "CrowToll$Keepers" "road" "LCrowToll$Road;", Cond.fieldLink RX3 48 "CrowToll$Road" "birds" "I"] : List Cond) ++ wsX30 ++ wsX70)
set_option maxHeartbeats 8000000 in
set_option maxRecDepth 100000 in
theorem c_X3_canTeach (l : Launch) (D : va_G) (cy : Nat → ClassId) (ad : Nat → Nat) (g : Nat → va_E) {f0 : List Value} {f1 : List Value} {n : Int32} (o0 : g 0 = .inr (3, f0)) (f0_0 : f0[0]? = some (.ref (ad 1))) (o1 : g 1 = .inr (7, f1)) (f1_5 : f1[5]? = some (.int 0)) : cMi l yX3_canTeach wq_c_X3_canTeach { frames := 0, cells := 0, slots := 0, locals := 0 } 2 0 0 0 D cy ad g [.ref (ad 0), .int n] (fun r nw lu => ((¬ 0 = n) ∧ (r = 0) ∧ (lu = [])) ∨ ((0 = n) ∧ (r = 1) ∧ (lu = []))) := by
  refine cM_of (Qc := fun A => cQi (fun r nw lu => ((¬ 0 = n) ∧ (r = 0) ∧ (lu = [])) ∨ ((0 = n) ∧ (r = 1) ∧ (lu = []))) D 2 0 ad g A) (cc := cX3_canTeach) (maxL := 4) (ret := (some .boolean)) (by decide) rfl (Nat.le_of_ble_eq_true rfl) ?_
  intro p e s m below meth c A hC hr hlk hnm hO ls hl
  have hC : CallFix p m c cX3_canTeach 4 s [.ref (ad 0), .int n].toArray wq_c_X3_canTeach RX3 := hC
  obtain ⟨hx, hb, hml, hown, hts⟩ := id hC
  have hl : lv_has ls 4 [(0, .ref (ad 0)), (1, .int n)] := hl
  have i_X3 : ∀ w ∈ wsX30, w ∈ wq_c_X3_canTeach := fun w h => List.mem_cons_of_mem _ (List.mem_append_left _ (List.mem_append_right _ h))
  have i_X7 : ∀ w ∈ wsX70, w ∈ wq_c_X3_canTeach := fun w h => List.mem_cons_of_mem _ (List.mem_append_right _ h)
  refine lv_iconst (v := 0) hx hb dX3_canTeach_0 (by decide) ?_
  refine lv_istore_n (lv' := [(2, .int 0), (0, .ref (ad 0)), (1, .int n)]) hx hb dX3_canTeach_1 rfl hl (by decide) rfl (fun ls hl => ?_)
  refine lv_iconst (v := 0) hx hb dX3_canTeach_2 (by decide) ?_
  refine lv_istore_n (lv' := [(3, .int 0), (2, .int 0), (0, .ref (ad 0)), (1, .int n)]) hx hb dX3_canTeach_3 rfl hl (by decide) rfl (fun ls hl => ?_)
  refine lv_iload_n hx hb dX3_canTeach_4 rfl (lv_at hl 0 rfl) ?_
  refine lv_aload_n hx hb dX3_canTeach_5 rfl (lv_at hl 2 rfl) ?_
  refine cg_get hC hO 0 (by decide) o0 rfl i_X3 0 (by decide) (List.mem_of_getElem? (i := 1) rfl) f0_0 dX3_canTeach_6 ?_
  refine cg_get hC hO 1 (by decide) o1 rfl i_X7 5 (by decide) (List.mem_of_getElem? (i := 2) rfl) f1_5 dX3_canTeach_9 ?_
  refine lv_icmp_ge (tgt := 53) hx hb dX3_canTeach_12 (by decide) (fun _ => ?_) (fun h => absurd h (by decide))
  refine lv_iload_n hx hb dX3_canTeach_53 rfl (lv_at hl 1 rfl) ?_
  refine lv_iload_n hx hb dX3_canTeach_54 rfl (lv_at hl 3 rfl) ?_
  refine lv_icmp_ne (tgt := 62) hx hb dX3_canTeach_55 (by decide) (fun h_55_1 => ?_) (fun h_55_1 => ?_)
  · refine lv_iconst (v := 0) hx hb dX3_canTeach_62 (by decide) ?_
    exact cg_iret (nw := fun _ => 0) hC hr hlk hO.same rfl (Nat.le_of_ble_eq_true rfl) (Nat.le_of_ble_eq_true rfl) (Or.inl ⟨h_55_1, rfl, rfl⟩) dX3_canTeach_63
  · refine lv_iconst (v := 1) hx hb dX3_canTeach_58 (by decide) ?_
    refine lv_goto (tgt := 63) hx hb dX3_canTeach_59 (by decide) ?_
    exact cg_iret (nw := fun _ => 0) hC hr hlk hO.same rfl (Nat.le_of_ble_eq_true rfl) (Nat.le_of_ble_eq_true rfl) (Or.inr ⟨h_55_1, rfl, rfl⟩) dX3_canTeach_63

theorem dX3_takenWhenTaught_0 : decode cX3_takenWhenTaught 0 = .ok (.iconst 0, 1) := by decide +kernel
theorem dX3_takenWhenTaught_1 : decode cX3_takenWhenTaught 1 = .ok (.istore_n 1, 1) := by decide +kernel
theorem dX3_takenWhenTaught_2 : decode cX3_takenWhenTaught 2 = .ok (.iload_n 1, 1) := by decide +kernel
theorem dX3_takenWhenTaught_3 : decode cX3_takenWhenTaught 3 = .ok (.aload_n 0, 1) := by decide +kernel
theorem dX3_takenWhenTaught_4 : decode cX3_takenWhenTaught 4 = .ok (.getfield 24, 3) := by decide +kernel
theorem dX3_takenWhenTaught_7 : decode cX3_takenWhenTaught 7 = .ok (.getfield 48, 3) := by decide +kernel
theorem dX3_takenWhenTaught_10 : decode cX3_takenWhenTaught 10 = .ok (.if_icmp .ge 34, 3) := by decide +kernel
theorem dX3_takenWhenTaught_44 : decode cX3_takenWhenTaught 44 = .ok (.aload_n 0, 1) := by decide +kernel
theorem dX3_takenWhenTaught_45 : decode cX3_takenWhenTaught 45 = .ok (.getfield 41, 3) := by decide +kernel
theorem dX3_takenWhenTaught_48 : decode cX3_takenWhenTaught 48 = .ok (.invokevirtual 81, 3) := by decide +kernel
theorem dX3_takenWhenTaught_51 : decode cX3_takenWhenTaught 51 = .ok (.iconst 0, 1) := by decide +kernel
theorem dX3_takenWhenTaught_52 : decode cX3_takenWhenTaught 52 = .ok (.istore_n 1, 1) := by decide +kernel
theorem dX3_takenWhenTaught_53 : decode cX3_takenWhenTaught 53 = .ok (.iconst 0, 1) := by decide +kernel
theorem dX3_takenWhenTaught_54 : decode cX3_takenWhenTaught 54 = .ok (.istore_n 2, 1) := by decide +kernel
theorem dX3_takenWhenTaught_55 : decode cX3_takenWhenTaught 55 = .ok (.iload_n 2, 1) := by decide +kernel
theorem dX3_takenWhenTaught_56 : decode cX3_takenWhenTaught 56 = .ok (.aload_n 0, 1) := by decide +kernel
theorem dX3_takenWhenTaught_57 : decode cX3_takenWhenTaught 57 = .ok (.getfield 24, 3) := by decide +kernel
theorem dX3_takenWhenTaught_60 : decode cX3_takenWhenTaught 60 = .ok (.getfield 82, 3) := by decide +kernel
theorem dX3_takenWhenTaught_63 : decode cX3_takenWhenTaught 63 = .ok (.if_icmp .ge 17, 3) := by decide +kernel
theorem dX3_takenWhenTaught_80 : decode cX3_takenWhenTaught 80 = .ok (.iload_n 1, 1) := by decide +kernel
theorem dX3_takenWhenTaught_81 : decode cX3_takenWhenTaught 81 = .ok (.ireturn, 1) := by decide +kernel
def wq_c_X3_takenWhenTaught : List Cond := Cond.code yX3_takenWhenTaught cX3_takenWhenTaught 3 (some .int) :: (([Cond.fieldLink RX3 24 "CrowToll$Keepers" "road" "LCrowToll$Road;", Cond.fieldLink RX3 48 "CrowToll$Road" "birds" "I", Cond.fieldLink RX3 41 "CrowToll$Keepers" "watch" "LCrowToll$Watch;", Cond.methodLink RX3 81 yX10_begin, Cond.instanceMethod yX10_begin, Cond.selects RX10 yX10_begin yX10_begin, Cond.initialized RX10, Cond.code yX10_begin cX10_begin 1 none, Cond.fieldLink RX10 21 "CrowToll$Watch" "count" "[I", Cond.methodLink RX10 54 yJ7_fill_53178, Cond.static yJ7_fill_53178, Cond.initialized RJ7, Cond.code yJ7_fill_53178 cJ7_fill_53178 4 none, Cond.fieldLink RX10 24 "CrowToll$Watch" "total" "[I", Cond.fieldLink RX10 27 "CrowToll$Watch" "lookedAt" "[I", Cond.fieldLink RX10 30 "CrowToll$Watch" "countedAt" "[I", Cond.fieldLink RX3 82 "CrowToll$Road" "posts" "I"] : List Cond) ++ wsX30 ++ wsX70 ++ wsX100)
set_option maxRecDepth 20000 in
theorem gr_c_X3_takenWhenTaught_c_X10_begin : GoodIn wq_c_X3_takenWhenTaught wq_c_X10_begin := List.forall_mem_cons.mpr ⟨⟨(List.mem_of_getElem? (i := 8) rfl), good_of_word rfl⟩, List.forall_mem_append.mpr ⟨List.forall_mem_cons.mpr ⟨⟨(List.mem_of_getElem? (i := 9) rfl), good_of_word rfl⟩, List.forall_mem_cons.mpr ⟨⟨(List.mem_of_getElem? (i := 10) rfl), good_of_word rfl⟩, List.forall_mem_cons.mpr ⟨⟨(List.mem_of_getElem? (i := 11) rfl), good_of_word rfl⟩, List.forall_mem_cons.mpr ⟨⟨(List.mem_of_getElem? (i := 12) rfl), good_of_word rfl⟩, List.forall_mem_cons.mpr ⟨⟨(List.mem_of_getElem? (i := 13) rfl), good_of_word rfl⟩, List.forall_mem_cons.mpr ⟨⟨(List.mem_of_getElem? (i := 14) rfl), good_of_word rfl⟩, List.forall_mem_cons.mpr ⟨⟨(List.mem_of_getElem? (i := 15) rfl), good_of_word rfl⟩, List.forall_mem_cons.mpr ⟨⟨(List.mem_of_getElem? (i := 16) rfl), good_of_word rfl⟩, (fun _ h => absurd h List.not_mem_nil)⟩⟩⟩⟩⟩⟩⟩⟩, fun w h => ⟨(fun w h => List.mem_cons_of_mem _ (List.mem_append_right _ h)) w h, good_of_word (List.all_eq_true.mp gw_X10 w h)⟩⟩⟩
set_option maxRecDepth 20000 in
theorem gq_c_X3_takenWhenTaught_c_X10_begin_81 : GoodIn wq_c_X3_takenWhenTaught (wsV RX3 81 RX10 yX10_begin wq_c_X10_begin) := goodIn_app (List.forall_mem_cons.mpr ⟨⟨(List.mem_of_getElem? (i := 4) rfl), good_of_word rfl⟩, List.forall_mem_cons.mpr ⟨⟨(List.mem_of_getElem? (i := 5) rfl), good_of_word rfl⟩, List.forall_mem_cons.mpr ⟨⟨(List.mem_of_getElem? (i := 6) rfl), good_of_word rfl⟩, List.forall_mem_cons.mpr ⟨⟨(List.mem_of_getElem? (i := 7) rfl), good_of_word rfl⟩, (fun _ h => absurd h List.not_mem_nil)⟩⟩⟩⟩) gr_c_X3_takenWhenTaught_c_X10_begin
set_option maxHeartbeats 8000000 in
set_option maxRecDepth 100000 in
theorem c_X3_takenWhenTaught (l : Launch) (D : va_G) (cy : Nat → ClassId) (ad : Nat → Nat) (g : Nat → va_E) {f0 : List Value} {f1 : List Value} {f2 : List Value} {c3 : Nat → Int32} {c4 : Nat → Int32} {c5 : Nat → Int32} {c6 : Nat → Int32} (o0 : g 0 = .inr (3, f0)) (f0_0 : f0[0]? = some (.ref (ad 1))) (f0_3 : f0[3]? = some (.ref (ad 2))) (o1 : g 1 = .inr (7, f1)) (f1_5 : f1[5]? = some (.int 0)) (f1_11 : f1[11]? = some (.int 0)) (o2 : g 2 = .inr (10, f2)) (f2_4 : f2[4]? = some (.ref (ad 3))) (f2_5 : f2[5]? = some (.ref (ad 4))) (f2_6 : f2[6]? = some (.ref (ad 5))) (f2_7 : f2[7]? = some (.ref (ad 6))) (a3 : g 3 = .inl (cy 0, 5, .inl c3)) (a4 : g 4 = .inl (cy 0, 5, .inl c4)) (a5 : g 5 = .inl (cy 0, 5, .inl c5)) (a6 : g 6 = .inl (cy 0, 5, .inl c6)) : cMi l yX3_takenWhenTaught wq_c_X3_takenWhenTaught { frames := 2, cells := 0, slots := 0, locals := 43 } 7 0 0 0 D cy ad g [.ref (ad 0)] (fun r nw lu => ∃ (cz_48_4 : Nat → Int32) (cz_48_5 : Nat → Int32) (cz_48_6 : Nat → Int32) (cz_48_7 : Nat → Int32), (r = 0) ∧ (lu = [(6, .inl (cy 0, 5, .inl cz_48_7)), (5, .inl (cy 0, 5, .inl cz_48_6)), (4, .inl (cy 0, 5, .inl cz_48_5)), (3, .inl (cy 0, 5, .inl cz_48_4))])) := by
  refine cM_of (Qc := fun A => cQi (fun r nw lu => ∃ (cz_48_4 : Nat → Int32) (cz_48_5 : Nat → Int32) (cz_48_6 : Nat → Int32) (cz_48_7 : Nat → Int32), (r = 0) ∧ (lu = [(6, .inl (cy 0, 5, .inl cz_48_7)), (5, .inl (cy 0, 5, .inl cz_48_6)), (4, .inl (cy 0, 5, .inl cz_48_5)), (3, .inl (cy 0, 5, .inl cz_48_4))])) D 7 0 ad g A) (cc := cX3_takenWhenTaught) (maxL := 3) (ret := (some .int)) (by decide) rfl (Nat.le_of_ble_eq_true rfl) ?_
  intro p e s m below meth c A hC hr hlk hnm hO ls hl
  have hC : CallFix p m c cX3_takenWhenTaught 3 s [.ref (ad 0)].toArray wq_c_X3_takenWhenTaught RX3 := hC
  obtain ⟨hx, hb, hml, hown, hts⟩ := id hC
  have hl : lv_has ls 3 [(0, .ref (ad 0))] := hl
  have i_X10 : ∀ w ∈ wsX100, w ∈ wq_c_X3_takenWhenTaught := fun w h => List.mem_cons_of_mem _ (List.mem_append_right _ h)
  have i_X3 : ∀ w ∈ wsX30, w ∈ wq_c_X3_takenWhenTaught := fun w h => List.mem_cons_of_mem _ (List.mem_append_left _ (List.mem_append_left _ (List.mem_append_right _ h)))
  have i_X7 : ∀ w ∈ wsX70, w ∈ wq_c_X3_takenWhenTaught := fun w h => List.mem_cons_of_mem _ (List.mem_append_left _ (List.mem_append_right _ h))
  refine lv_iconst (v := 0) hx hb dX3_takenWhenTaught_0 (by decide) ?_
  refine lv_istore_n (lv' := [(1, .int 0), (0, .ref (ad 0))]) hx hb dX3_takenWhenTaught_1 rfl hl (by decide) rfl (fun ls hl => ?_)
  refine lv_iload_n hx hb dX3_takenWhenTaught_2 rfl (lv_at hl 0 rfl) ?_
  refine lv_aload_n hx hb dX3_takenWhenTaught_3 rfl (lv_at hl 1 rfl) ?_
  refine cg_get hC hO 0 (by decide) o0 rfl i_X3 0 (by decide) (List.mem_of_getElem? (i := 1) rfl) f0_0 dX3_takenWhenTaught_4 ?_
  refine cg_get hC hO 1 (by decide) o1 rfl i_X7 5 (by decide) (List.mem_of_getElem? (i := 2) rfl) f1_5 dX3_takenWhenTaught_7 ?_
  refine lv_icmp_ge (tgt := 44) hx hb dX3_takenWhenTaught_10 (by decide) (fun _ => ?_) (fun h => absurd h (by decide))
  refine lv_aload_n hx hb dX3_takenWhenTaught_44 rfl (lv_at hl 1 rfl) ?_
  refine cg_get hC hO 0 (by decide) o0 rfl i_X3 3 (by decide) (List.mem_of_getElem? (i := 3) rfl) f0_3 dX3_takenWhenTaught_45 ?_
  refine cg_Vv (As := []) (rest := []) (mc := 0) (ms := 0) (rm := { frames := 1, cells := 0, slots := 0, locals := 23 }) hC hl.1 hO [2, 3, 4, 5, 6] rfl (c_X10_begin l D cy _ _ (f0 := f2) (c1 := c3) (c2 := c4) (c3 := c5) (c4 := c6) o2 f2_4 f2_5 f2_6 f2_7 a3 a4 a5 a6) gq_c_X3_takenWhenTaught_c_X10_begin_81 rfl rfl rfl 0 (by decide +kernel) ⟨Nat.le_of_ble_eq_true rfl, Nat.le_of_ble_eq_true rfl⟩ rfl (by decide) o2 rfl rfl (Nat.le_of_ble_eq_true rfl) dX3_takenWhenTaught_48 ⟨Nat.le_of_ble_eq_true rfl, Nat.le_of_ble_eq_true rfl⟩ (fun nw_48_1 l_48_2 H locs hw hO => ?_)
  obtain ⟨cz_48_4, cz_48_5, cz_48_6, cz_48_7, rfl⟩ := hw
  have hO : cO D cy A s.heap s 7 ad (cup [(6, .inl (cy 0, 5, .inl cz_48_7)), (5, .inl (cy 0, 5, .inl cz_48_6)), (4, .inl (cy 0, 5, .inl cz_48_5)), (3, .inl (cy 0, 5, .inl cz_48_4))] g) _ _ := hO
  refine lv_iconst (v := 0) hx hb dX3_takenWhenTaught_51 (by decide) ?_
  refine lv_istore_n (lv' := [(1, .int 0), (0, .ref (ad 0))]) hx hb dX3_takenWhenTaught_52 rfl hl (by decide) rfl (fun ls hl => ?_)
  refine lv_iconst (v := 0) hx hb dX3_takenWhenTaught_53 (by decide) ?_
  refine lv_istore_n (lv' := [(2, .int 0), (1, .int 0), (0, .ref (ad 0))]) hx hb dX3_takenWhenTaught_54 rfl hl (by decide) rfl (fun ls hl => ?_)
  refine lv_iload_n hx hb dX3_takenWhenTaught_55 rfl (lv_at hl 0 rfl) ?_
  refine lv_aload_n hx hb dX3_takenWhenTaught_56 rfl (lv_at hl 2 rfl) ?_
  refine cg_get hC hO 0 (by decide) o0 rfl i_X3 0 (by decide) (List.mem_of_getElem? (i := 1) rfl) f0_0 dX3_takenWhenTaught_57 ?_
  refine cg_get hC hO 1 (by decide) o1 rfl i_X7 11 (by decide) (List.mem_of_getElem? (i := 17) rfl) f1_11 dX3_takenWhenTaught_60 ?_
  refine lv_icmp_ge (tgt := 80) hx hb dX3_takenWhenTaught_63 (by decide) (fun _ => ?_) (fun h => absurd h (by decide))
  refine lv_iload_n hx hb dX3_takenWhenTaught_80 rfl (lv_at hl 1 rfl) ?_
  exact cg_iret (nw := fun _ => 0) hC hr hlk hO.same rfl (Nat.le_of_ble_eq_true rfl) (Nat.le_of_ble_eq_true rfl) (⟨cz_48_4, cz_48_5, cz_48_6, cz_48_7, rfl, rfl⟩) dX3_takenWhenTaught_81

theorem dX3_better_0 : decode cX3_better 0 = .ok (.iload_n 1, 1) := by decide +kernel
theorem dX3_better_1 : decode cX3_better 1 = .ok (.iload_n 2, 1) := by decide +kernel
theorem dX3_better_2 : decode cX3_better 2 = .ok (.if_icmp .gt 5, 3) := by decide +kernel
theorem dX3_better_7 : decode cX3_better 7 = .ok (.aload_n 0, 1) := by decide +kernel
theorem dX3_better_8 : decode cX3_better 8 = .ok (.getfield 15, 3) := by decide +kernel
theorem dX3_better_11 : decode cX3_better 11 = .ok (.iconst 0, 1) := by decide +kernel
theorem dX3_better_12 : decode cX3_better 12 = .ok (.aload_n 0, 1) := by decide +kernel
theorem dX3_better_13 : decode cX3_better 13 = .ok (.getfield 21, 3) := by decide +kernel
theorem dX3_better_16 : decode cX3_better 16 = .ok (.iconst 0, 1) := by decide +kernel
theorem dX3_better_17 : decode cX3_better 17 = .ok (.iconst 5, 1) := by decide +kernel
theorem dX3_better_18 : decode cX3_better 18 = .ok (.invokestatic 114, 3) := by decide +kernel
theorem dX3_better_21 : decode cX3_better 21 = .ok (.iload_n 1, 1) := by decide +kernel
theorem dX3_better_22 : decode cX3_better 22 = .ok (.ireturn, 1) := by decide +kernel
def wq_c_X3_better : List Cond := Cond.code yX3_better cX3_better 3 (some .int) :: (([Cond.fieldLink RX3 15 "CrowToll$Keepers" "way" "[I", Cond.fieldLink RX3 21 "CrowToll$Keepers" "best" "[I", Cond.methodLink RX3 114 arraycopyName, Cond.native arraycopyName, Cond.static arraycopyName, Cond.initialized "java/lang/System"] : List Cond) ++ wsX30)
set_option maxHeartbeats 8000000 in
set_option maxRecDepth 100000 in
theorem c_X3_better (l : Launch) (D : va_G) (cy : Nat → ClassId) (ad : Nat → Nat) (g : Nat → va_E) {f0 : List Value} {c1 : Nat → Int32} {c2 : Nat → Int32} (o0 : g 0 = .inr (3, f0)) (f0_6 : f0[6]? = some (.ref (ad 1))) (f0_8 : f0[8]? = some (.ref (ad 2))) (a1 : g 1 = .inl (cy 0, 5, .inl c1)) (a2 : g 2 = .inl (cy 0, 5, .inl c2)) : cMi l yX3_better wq_c_X3_better { frames := 1, cells := 0, slots := 0, locals := 60 } 3 0 0 0 D cy ad g [.ref (ad 0), .int 0, .int (-1)] (fun r nw lu => ∃ (c2_18_1 : Nat → Int32), (r = 0) ∧ (lu = [(2, .inl (cy 0, 5, .inl c2_18_1))])) := by
  refine cM_of (Qc := fun A => cQi (fun r nw lu => ∃ (c2_18_1 : Nat → Int32), (r = 0) ∧ (lu = [(2, .inl (cy 0, 5, .inl c2_18_1))])) D 3 0 ad g A) (cc := cX3_better) (maxL := 3) (ret := (some .int)) (by decide) rfl (Nat.le_of_ble_eq_true rfl) ?_
  intro p e s m below meth c A hC hr hlk hnm hO ls hl
  have hC : CallFix p m c cX3_better 3 s [.ref (ad 0), .int 0, .int (-1)].toArray wq_c_X3_better RX3 := hC
  obtain ⟨hx, hb, hml, hown, hts⟩ := id hC
  have hl : lv_has ls 3 [(0, .ref (ad 0)), (1, .int 0), (2, .int (-1))] := hl
  have i_X3 : ∀ w ∈ wsX30, w ∈ wq_c_X3_better := fun w h => List.mem_cons_of_mem _ (List.mem_append_right _ h)
  refine lv_iload_n hx hb dX3_better_0 rfl (lv_at hl 1 rfl) ?_
  refine lv_iload_n hx hb dX3_better_1 rfl (lv_at hl 2 rfl) ?_
  refine lv_icmp_gt (tgt := 7) hx hb dX3_better_2 (by decide) (fun _ => ?_) (fun h => absurd h (by decide))
  refine lv_aload_n hx hb dX3_better_7 rfl (lv_at hl 0 rfl) ?_
  refine cg_get hC hO 0 (by decide) o0 rfl i_X3 6 (by decide) (List.mem_of_getElem? (i := 1) rfl) f0_6 dX3_better_8 ?_
  refine lv_iconst (v := 0) hx hb dX3_better_11 (by decide) ?_
  refine lv_aload_n hx hb dX3_better_12 rfl (lv_at hl 0 rfl) ?_
  refine cg_get hC hO 0 (by decide) o0 rfl i_X3 8 (by decide) (List.mem_of_getElem? (i := 2) rfl) f0_8 dX3_better_13 ?_
  refine lv_iconst (v := 0) hx hb dX3_better_16 (by decide) ?_
  refine lv_iconst (v := 5) hx hb dX3_better_17 (by decide) ?_
  refine cg_copy hC hl.1 hO (List.mem_of_getElem? (i := 3) rfl) (List.mem_of_getElem? (i := 4) rfl) (List.mem_of_getElem? (i := 5) rfl) (List.mem_of_getElem? (i := 6) rfl) 1 2 (by decide) (by decide) a1 a2 (by decide) (by decide) (by decide) (by decide) (by decide) (Nat.le_of_ble_eq_true rfl) (Nat.le_of_ble_eq_true rfl) dX3_better_18 (fun H locs hO => ?_)
  have hO : cO D cy A s.heap s 3 ad (cup [(2, .inl (cy 0, 5, .inl (va_cpy c1 c2 (0 : Int32).toNatClampNeg (0 : Int32).toNatClampNeg (5 : Int32).toNatClampNeg)))] g) _ _ := hO
  obtain ⟨c2_18_1, ec2_18_1⟩ : ∃ z, z = (va_cpy c1 c2 (0 : Int32).toNatClampNeg (0 : Int32).toNatClampNeg (5 : Int32).toNatClampNeg) := ⟨_, rfl⟩
  rw [← ec2_18_1] at hO
  have hO : cO D cy A s.heap s 3 ad (cup [(2, .inl (cy 0, 5, .inl c2_18_1))] g) _ _ := hO
  refine lv_iload_n hx hb dX3_better_21 rfl (lv_at hl 1 rfl) ?_
  exact cg_iret (nw := fun _ => 0) hC hr hlk hO.same rfl (Nat.le_of_ble_eq_true rfl) (Nat.le_of_ble_eq_true rfl) (⟨c2_18_1, rfl, rfl⟩) dX3_better_22

theorem dX3_mostByTeaching_0 : decode cX3_mostByTeaching 0 = .ok (.aload_n 0, 1) := by decide +kernel
theorem dX3_mostByTeaching_1 : decode cX3_mostByTeaching 1 = .ok (.invokevirtual 45, 3) := by decide +kernel
theorem dX3_mostByTeaching_4 : decode cX3_mostByTeaching 4 = .ok (.iconst (-1), 1) := by decide +kernel
theorem dX3_mostByTeaching_5 : decode cX3_mostByTeaching 5 = .ok (.istore_n 2, 1) := by decide +kernel
theorem dX3_mostByTeaching_6 : decode cX3_mostByTeaching 6 = .ok (.iload_n 1, 1) := by decide +kernel
theorem dX3_mostByTeaching_7 : decode cX3_mostByTeaching 7 = .ok (.iconst 1, 1) := by decide +kernel
theorem dX3_mostByTeaching_8 : decode cX3_mostByTeaching 8 = .ok (.iadd, 1) := by decide +kernel
theorem dX3_mostByTeaching_9 : decode cX3_mostByTeaching 9 = .ok (.aload_n 0, 1) := by decide +kernel
theorem dX3_mostByTeaching_10 : decode cX3_mostByTeaching 10 = .ok (.getfield 24, 3) := by decide +kernel
theorem dX3_mostByTeaching_13 : decode cX3_mostByTeaching 13 = .ok (.getfield 48, 3) := by decide +kernel
theorem dX3_mostByTeaching_16 : decode cX3_mostByTeaching 16 = .ok (.invokestatic 54, 3) := by decide +kernel
theorem dX3_mostByTeaching_19 : decode cX3_mostByTeaching 19 = .ok (.istore_n 3, 1) := by decide +kernel
theorem dX3_mostByTeaching_20 : decode cX3_mostByTeaching 20 = .ok (.iconst 0, 1) := by decide +kernel
theorem dX3_mostByTeaching_21 : decode cX3_mostByTeaching 21 = .ok (.istore 4, 2) := by decide +kernel
theorem dX3_mostByTeaching_23 : decode cX3_mostByTeaching 23 = .ok (.iload 4, 2) := by decide +kernel
theorem dX3_mostByTeaching_25 : decode cX3_mostByTeaching 25 = .ok (.iload_n 3, 1) := by decide +kernel
theorem dX3_mostByTeaching_26 : decode cX3_mostByTeaching 26 = .ok (.if_icmp .ge 46, 3) := by decide +kernel
theorem dX3_mostByTeaching_29 : decode cX3_mostByTeaching 29 = .ok (.iload 4, 2) := by decide +kernel
theorem dX3_mostByTeaching_31 : decode cX3_mostByTeaching 31 = .ok (.iload_n 1, 1) := by decide +kernel
theorem dX3_mostByTeaching_32 : decode cX3_mostByTeaching 32 = .ok (.iconst 1, 1) := by decide +kernel
theorem dX3_mostByTeaching_33 : decode cX3_mostByTeaching 33 = .ok (.iadd, 1) := by decide +kernel
theorem dX3_mostByTeaching_34 : decode cX3_mostByTeaching 34 = .ok (.aload_n 0, 1) := by decide +kernel
theorem dX3_mostByTeaching_35 : decode cX3_mostByTeaching 35 = .ok (.getfield 24, 3) := by decide +kernel
theorem dX3_mostByTeaching_38 : decode cX3_mostByTeaching 38 = .ok (.getfield 48, 3) := by decide +kernel
theorem dX3_mostByTeaching_41 : decode cX3_mostByTeaching 41 = .ok (.aload_n 0, 1) := by decide +kernel
theorem dX3_mostByTeaching_42 : decode cX3_mostByTeaching 42 = .ok (.getfield 15, 3) := by decide +kernel
theorem dX3_mostByTeaching_45 : decode cX3_mostByTeaching 45 = .ok (.invokestatic 58, 3) := by decide +kernel
theorem dX3_mostByTeaching_48 : decode cX3_mostByTeaching 48 = .ok (.aload_n 0, 1) := by decide +kernel
theorem dX3_mostByTeaching_49 : decode cX3_mostByTeaching 49 = .ok (.iload_n 1, 1) := by decide +kernel
theorem dX3_mostByTeaching_50 : decode cX3_mostByTeaching 50 = .ok (.invokevirtual 62, 3) := by decide +kernel
theorem dX3_mostByTeaching_53 : decode cX3_mostByTeaching 53 = .ok (.ifCond .eq 13, 3) := by decide +kernel
theorem dX3_mostByTeaching_56 : decode cX3_mostByTeaching 56 = .ok (.aload_n 0, 1) := by decide +kernel
theorem dX3_mostByTeaching_57 : decode cX3_mostByTeaching 57 = .ok (.aload_n 0, 1) := by decide +kernel
theorem dX3_mostByTeaching_58 : decode cX3_mostByTeaching 58 = .ok (.invokevirtual 66, 3) := by decide +kernel
theorem dX3_mostByTeaching_61 : decode cX3_mostByTeaching 61 = .ok (.iload_n 2, 1) := by decide +kernel
theorem dX3_mostByTeaching_62 : decode cX3_mostByTeaching 62 = .ok (.invokevirtual 70, 3) := by decide +kernel
theorem dX3_mostByTeaching_65 : decode cX3_mostByTeaching 65 = .ok (.istore_n 2, 1) := by decide +kernel
theorem dX3_mostByTeaching_66 : decode cX3_mostByTeaching 66 = .ok (.iinc 4 1, 3) := by decide +kernel
theorem dX3_mostByTeaching_69 : decode cX3_mostByTeaching 69 = .ok (.goto (-46), 3) := by decide +kernel
theorem dX3_mostByTeaching_72 : decode cX3_mostByTeaching 72 = .ok (.iload_n 2, 1) := by decide +kernel
theorem dX3_mostByTeaching_73 : decode cX3_mostByTeaching 73 = .ok (.ireturn, 1) := by decide +kernel
def wq_c_X3_mostByTeaching : List Cond := Cond.code yX3_mostByTeaching cX3_mostByTeaching 5 (some .int) :: (([Cond.methodLink RX3 45 yX3_begin, Cond.instanceMethod yX3_begin, Cond.selects RX3 yX3_begin yX3_begin, Cond.initialized RX3, Cond.code yX3_begin cX3_begin 1 none, Cond.fieldLink RX3 28 "CrowToll$Keepers" "stand" "LCrowToll$Stand;", Cond.fieldLink RX3 9 "CrowToll$Keepers" "order" "[I", Cond.methodLink RX3 96 yX9_coming, Cond.instanceMethod yX9_coming, Cond.selects RX9 yX9_coming yX9_coming, Cond.initialized RX9, Cond.code yX9_coming cX9_coming 4 (some .int), Cond.fieldLink RX9 21 "CrowToll$Stand" "carts" "I", Cond.fieldLink RX3 100 "CrowToll$Keepers" "going" "I", Cond.fieldLink RX3 103 "CrowToll$Stand" "minute" "[I", Cond.code yX11_putByMinutes cX11_putByMinutes 6 none, Cond.static yX11_putByMinutes, Cond.initialized RX11, Cond.fieldLink RX3 41 "CrowToll$Keepers" "watch" "LCrowToll$Watch;", Cond.fieldLink RX3 73 "CrowToll$Stand" "counts" "[I", Cond.methodLink RX3 110 yX10_sit, Cond.instanceMethod yX10_sit, Cond.selects RX10 yX10_sit yX10_sit, Cond.initialized RX10, Cond.code yX10_sit cX10_sit 2 none, Cond.fieldLink RX10 9 "CrowToll$Watch" "limit" "[I", Cond.methodLink RX10 37 arraycopyName, Cond.native arraycopyName, Cond.static arraycopyName, Cond.initialized "java/lang/System", Cond.fieldLink RX10 33 "CrowToll$Watch" "road" "LCrowToll$Road;", Cond.fieldLink RX10 43 "CrowToll$Road" "seat" "[I", Cond.fieldLink RX10 15 "CrowToll$Watch" "seat" "[I", Cond.fieldLink RX10 46 "CrowToll$Road" "seated" "[I", Cond.fieldLink RX10 18 "CrowToll$Watch" "seated" "[I", Cond.methodLink RX10 47 yX10_begin, Cond.instanceMethod yX10_begin, Cond.selects RX10 yX10_begin yX10_begin, Cond.code yX10_begin cX10_begin 1 none, Cond.fieldLink RX10 21 "CrowToll$Watch" "count" "[I", Cond.methodLink RX10 54 yJ7_fill_53178, Cond.static yJ7_fill_53178, Cond.initialized RJ7, Cond.code yJ7_fill_53178 cJ7_fill_53178 4 none, Cond.fieldLink RX10 24 "CrowToll$Watch" "total" "[I", Cond.fieldLink RX10 27 "CrowToll$Watch" "lookedAt" "[I", Cond.fieldLink RX10 30 "CrowToll$Watch" "countedAt" "[I", Cond.fieldLink RX3 24 "CrowToll$Keepers" "road" "LCrowToll$Road;", Cond.fieldLink RX3 48 "CrowToll$Road" "birds" "I", Cond.code yX11_power cX11_power 4 (some .int), Cond.static yX11_power, Cond.fieldLink RX3 15 "CrowToll$Keepers" "way" "[I", Cond.code yX11_spread cX11_spread 6 none, Cond.static yX11_spread, Cond.methodLink RX3 62 yX3_canTeach, Cond.instanceMethod yX3_canTeach, Cond.selects RX3 yX3_canTeach yX3_canTeach, Cond.code yX3_canTeach cX3_canTeach 4 (some .boolean), Cond.methodLink RX3 66 yX3_takenWhenTaught, Cond.instanceMethod yX3_takenWhenTaught, Cond.selects RX3 yX3_takenWhenTaught yX3_takenWhenTaught, Cond.code yX3_takenWhenTaught cX3_takenWhenTaught 3 (some .int), Cond.methodLink RX3 81 yX10_begin, Cond.fieldLink RX3 82 "CrowToll$Road" "posts" "I", Cond.methodLink RX3 70 yX3_better, Cond.instanceMethod yX3_better, Cond.selects RX3 yX3_better yX3_better, Cond.code yX3_better cX3_better 3 (some .int), Cond.fieldLink RX3 21 "CrowToll$Keepers" "best" "[I", Cond.methodLink RX3 114 arraycopyName] : List Cond) ++ wsX30 ++ wsX70 ++ wsX90 ++ wsX100)
set_option maxRecDepth 20000 in
theorem gr_c_X3_mostByTeaching_c_X3_begin : GoodIn wq_c_X3_mostByTeaching wq_c_X3_begin := List.forall_mem_cons.mpr ⟨⟨(List.mem_of_getElem? (i := 5) rfl), good_of_word rfl⟩, List.forall_mem_append.mpr ⟨List.forall_mem_append.mpr ⟨List.forall_mem_append.mpr ⟨List.forall_mem_append.mpr ⟨List.forall_mem_cons.mpr ⟨⟨(List.mem_of_getElem? (i := 6) rfl), good_of_word rfl⟩, List.forall_mem_cons.mpr ⟨⟨(List.mem_of_getElem? (i := 7) rfl), good_of_word rfl⟩, List.forall_mem_cons.mpr ⟨⟨(List.mem_of_getElem? (i := 8) rfl), good_of_word rfl⟩, List.forall_mem_cons.mpr ⟨⟨(List.mem_of_getElem? (i := 9) rfl), good_of_word rfl⟩, List.forall_mem_cons.mpr ⟨⟨(List.mem_of_getElem? (i := 10) rfl), good_of_word rfl⟩, List.forall_mem_cons.mpr ⟨⟨(List.mem_of_getElem? (i := 11) rfl), good_of_word rfl⟩, List.forall_mem_cons.mpr ⟨⟨(List.mem_of_getElem? (i := 12) rfl), good_of_word rfl⟩, List.forall_mem_cons.mpr ⟨⟨(List.mem_of_getElem? (i := 13) rfl), good_of_word rfl⟩, List.forall_mem_cons.mpr ⟨⟨(List.mem_of_getElem? (i := 14) rfl), good_of_word rfl⟩, List.forall_mem_cons.mpr ⟨⟨(List.mem_of_getElem? (i := 15) rfl), good_of_word rfl⟩, List.forall_mem_cons.mpr ⟨⟨(List.mem_of_getElem? (i := 16) rfl), good_of_word rfl⟩, List.forall_mem_cons.mpr ⟨⟨(List.mem_of_getElem? (i := 17) rfl), good_of_word rfl⟩, List.forall_mem_cons.mpr ⟨⟨(List.mem_of_getElem? (i := 18) rfl), good_of_word rfl⟩, List.forall_mem_cons.mpr ⟨⟨(List.mem_of_getElem? (i := 19) rfl), good_of_word rfl⟩, List.forall_mem_cons.mpr ⟨⟨(List.mem_of_getElem? (i := 20) rfl), good_of_word rfl⟩, List.forall_mem_cons.mpr ⟨⟨(List.mem_of_getElem? (i := 21) rfl), good_of_word rfl⟩, List.forall_mem_cons.mpr ⟨⟨(List.mem_of_getElem? (i := 22) rfl), good_of_word rfl⟩, List.forall_mem_cons.mpr ⟨⟨(List.mem_of_getElem? (i := 23) rfl), good_of_word rfl⟩, List.forall_mem_cons.mpr ⟨⟨(List.mem_of_getElem? (i := 24) rfl), good_of_word rfl⟩, List.forall_mem_cons.mpr ⟨⟨(List.mem_of_getElem? (i := 25) rfl), good_of_word rfl⟩, List.forall_mem_cons.mpr ⟨⟨(List.mem_of_getElem? (i := 26) rfl), good_of_word rfl⟩, List.forall_mem_cons.mpr ⟨⟨(List.mem_of_getElem? (i := 27) rfl), good_of_word rfl⟩, List.forall_mem_cons.mpr ⟨⟨(List.mem_of_getElem? (i := 28) rfl), good_of_word rfl⟩, List.forall_mem_cons.mpr ⟨⟨(List.mem_of_getElem? (i := 29) rfl), good_of_word rfl⟩, List.forall_mem_cons.mpr ⟨⟨(List.mem_of_getElem? (i := 30) rfl), good_of_word rfl⟩, List.forall_mem_cons.mpr ⟨⟨(List.mem_of_getElem? (i := 31) rfl), good_of_word rfl⟩, List.forall_mem_cons.mpr ⟨⟨(List.mem_of_getElem? (i := 32) rfl), good_of_word rfl⟩, List.forall_mem_cons.mpr ⟨⟨(List.mem_of_getElem? (i := 33) rfl), good_of_word rfl⟩, List.forall_mem_cons.mpr ⟨⟨(List.mem_of_getElem? (i := 34) rfl), good_of_word rfl⟩, List.forall_mem_cons.mpr ⟨⟨(List.mem_of_getElem? (i := 35) rfl), good_of_word rfl⟩, List.forall_mem_cons.mpr ⟨⟨(List.mem_of_getElem? (i := 36) rfl), good_of_word rfl⟩, List.forall_mem_cons.mpr ⟨⟨(List.mem_of_getElem? (i := 37) rfl), good_of_word rfl⟩, List.forall_mem_cons.mpr ⟨⟨(List.mem_of_getElem? (i := 38) rfl), good_of_word rfl⟩, List.forall_mem_cons.mpr ⟨⟨(List.mem_of_getElem? (i := 39) rfl), good_of_word rfl⟩, List.forall_mem_cons.mpr ⟨⟨(List.mem_of_getElem? (i := 40) rfl), good_of_word rfl⟩, List.forall_mem_cons.mpr ⟨⟨(List.mem_of_getElem? (i := 41) rfl), good_of_word rfl⟩, List.forall_mem_cons.mpr ⟨⟨(List.mem_of_getElem? (i := 42) rfl), good_of_word rfl⟩, List.forall_mem_cons.mpr ⟨⟨(List.mem_of_getElem? (i := 43) rfl), good_of_word rfl⟩, List.forall_mem_cons.mpr ⟨⟨(List.mem_of_getElem? (i := 44) rfl), good_of_word rfl⟩, List.forall_mem_cons.mpr ⟨⟨(List.mem_of_getElem? (i := 45) rfl), good_of_word rfl⟩, List.forall_mem_cons.mpr ⟨⟨(List.mem_of_getElem? (i := 46) rfl), good_of_word rfl⟩, List.forall_mem_cons.mpr ⟨⟨(List.mem_of_getElem? (i := 47) rfl), good_of_word rfl⟩, (fun _ h => absurd h List.not_mem_nil)⟩⟩⟩⟩⟩⟩⟩⟩⟩⟩⟩⟩⟩⟩⟩⟩⟩⟩⟩⟩⟩⟩⟩⟩⟩⟩⟩⟩⟩⟩⟩⟩⟩⟩⟩⟩⟩⟩⟩⟩⟩⟩, fun w h => ⟨(fun w h => List.mem_cons_of_mem _ (List.mem_append_left _ (List.mem_append_left _ (List.mem_append_left _ (List.mem_append_right _ h))))) w h, good_of_word (List.all_eq_true.mp gw_X3 w h)⟩⟩, fun w h => ⟨(fun w h => List.mem_cons_of_mem _ (List.mem_append_left _ (List.mem_append_left _ (List.mem_append_right _ h)))) w h, good_of_word (List.all_eq_true.mp gw_X7 w h)⟩⟩, fun w h => ⟨(fun w h => List.mem_cons_of_mem _ (List.mem_append_left _ (List.mem_append_right _ h))) w h, good_of_word (List.all_eq_true.mp gw_X9 w h)⟩⟩, fun w h => ⟨(fun w h => List.mem_cons_of_mem _ (List.mem_append_right _ h)) w h, good_of_word (List.all_eq_true.mp gw_X10 w h)⟩⟩⟩
set_option maxRecDepth 20000 in
theorem gq_c_X3_mostByTeaching_c_X3_begin_45 : GoodIn wq_c_X3_mostByTeaching (wsV RX3 45 RX3 yX3_begin wq_c_X3_begin) := goodIn_app (List.forall_mem_cons.mpr ⟨⟨(List.mem_of_getElem? (i := 1) rfl), good_of_word rfl⟩, List.forall_mem_cons.mpr ⟨⟨(List.mem_of_getElem? (i := 2) rfl), good_of_word rfl⟩, List.forall_mem_cons.mpr ⟨⟨(List.mem_of_getElem? (i := 3) rfl), good_of_word rfl⟩, List.forall_mem_cons.mpr ⟨⟨(List.mem_of_getElem? (i := 4) rfl), good_of_word rfl⟩, (fun _ h => absurd h List.not_mem_nil)⟩⟩⟩⟩) gr_c_X3_mostByTeaching_c_X3_begin
set_option maxRecDepth 20000 in
theorem gr_c_X3_mostByTeaching_c_X11_power : GoodIn wq_c_X3_mostByTeaching wq_c_X11_power := List.forall_mem_cons.mpr ⟨⟨(List.mem_of_getElem? (i := 50) rfl), good_of_word rfl⟩, (fun _ h => absurd h List.not_mem_nil)⟩
theorem gq_c_X3_mostByTeaching_c_X11_power : GoodIn wq_c_X3_mostByTeaching wq_c_X11_power := gr_c_X3_mostByTeaching_c_X11_power
set_option maxRecDepth 20000 in
theorem gr_c_X3_mostByTeaching_c_X11_spread : GoodIn wq_c_X3_mostByTeaching wq_c_X11_spread := List.forall_mem_cons.mpr ⟨⟨(List.mem_of_getElem? (i := 53) rfl), good_of_word rfl⟩, (fun _ h => absurd h List.not_mem_nil)⟩
theorem gq_c_X3_mostByTeaching_c_X11_spread : GoodIn wq_c_X3_mostByTeaching wq_c_X11_spread := gr_c_X3_mostByTeaching_c_X11_spread
set_option maxRecDepth 20000 in
theorem gr_c_X3_mostByTeaching_c_X3_canTeach : GoodIn wq_c_X3_mostByTeaching wq_c_X3_canTeach := List.forall_mem_cons.mpr ⟨⟨(List.mem_of_getElem? (i := 58) rfl), good_of_word rfl⟩, List.forall_mem_append.mpr ⟨List.forall_mem_append.mpr ⟨List.forall_mem_cons.mpr ⟨⟨(List.mem_of_getElem? (i := 48) rfl), good_of_word rfl⟩, List.forall_mem_cons.mpr ⟨⟨(List.mem_of_getElem? (i := 49) rfl), good_of_word rfl⟩, (fun _ h => absurd h List.not_mem_nil)⟩⟩, fun w h => ⟨(fun w h => List.mem_cons_of_mem _ (List.mem_append_left _ (List.mem_append_left _ (List.mem_append_left _ (List.mem_append_right _ h))))) w h, good_of_word (List.all_eq_true.mp gw_X3 w h)⟩⟩, fun w h => ⟨(fun w h => List.mem_cons_of_mem _ (List.mem_append_left _ (List.mem_append_left _ (List.mem_append_right _ h)))) w h, good_of_word (List.all_eq_true.mp gw_X7 w h)⟩⟩⟩
set_option maxRecDepth 20000 in
theorem gq_c_X3_mostByTeaching_c_X3_canTeach_62 : GoodIn wq_c_X3_mostByTeaching (wsV RX3 62 RX3 yX3_canTeach wq_c_X3_canTeach) := goodIn_app (List.forall_mem_cons.mpr ⟨⟨(List.mem_of_getElem? (i := 55) rfl), good_of_word rfl⟩, List.forall_mem_cons.mpr ⟨⟨(List.mem_of_getElem? (i := 56) rfl), good_of_word rfl⟩, List.forall_mem_cons.mpr ⟨⟨(List.mem_of_getElem? (i := 57) rfl), good_of_word rfl⟩, List.forall_mem_cons.mpr ⟨⟨(List.mem_of_getElem? (i := 4) rfl), good_of_word rfl⟩, (fun _ h => absurd h List.not_mem_nil)⟩⟩⟩⟩) gr_c_X3_mostByTeaching_c_X3_canTeach
set_option maxRecDepth 20000 in
theorem gr_c_X3_mostByTeaching_c_X3_takenWhenTaught : GoodIn wq_c_X3_mostByTeaching wq_c_X3_takenWhenTaught := List.forall_mem_cons.mpr ⟨⟨(List.mem_of_getElem? (i := 62) rfl), good_of_word rfl⟩, List.forall_mem_append.mpr ⟨List.forall_mem_append.mpr ⟨List.forall_mem_append.mpr ⟨List.forall_mem_cons.mpr ⟨⟨(List.mem_of_getElem? (i := 48) rfl), good_of_word rfl⟩, List.forall_mem_cons.mpr ⟨⟨(List.mem_of_getElem? (i := 49) rfl), good_of_word rfl⟩, List.forall_mem_cons.mpr ⟨⟨(List.mem_of_getElem? (i := 19) rfl), good_of_word rfl⟩, List.forall_mem_cons.mpr ⟨⟨(List.mem_of_getElem? (i := 63) rfl), good_of_word rfl⟩, List.forall_mem_cons.mpr ⟨⟨(List.mem_of_getElem? (i := 37) rfl), good_of_word rfl⟩, List.forall_mem_cons.mpr ⟨⟨(List.mem_of_getElem? (i := 38) rfl), good_of_word rfl⟩, List.forall_mem_cons.mpr ⟨⟨(List.mem_of_getElem? (i := 24) rfl), good_of_word rfl⟩, List.forall_mem_cons.mpr ⟨⟨(List.mem_of_getElem? (i := 39) rfl), good_of_word rfl⟩, List.forall_mem_cons.mpr ⟨⟨(List.mem_of_getElem? (i := 40) rfl), good_of_word rfl⟩, List.forall_mem_cons.mpr ⟨⟨(List.mem_of_getElem? (i := 41) rfl), good_of_word rfl⟩, List.forall_mem_cons.mpr ⟨⟨(List.mem_of_getElem? (i := 42) rfl), good_of_word rfl⟩, List.forall_mem_cons.mpr ⟨⟨(List.mem_of_getElem? (i := 43) rfl), good_of_word rfl⟩, List.forall_mem_cons.mpr ⟨⟨(List.mem_of_getElem? (i := 44) rfl), good_of_word rfl⟩, List.forall_mem_cons.mpr ⟨⟨(List.mem_of_getElem? (i := 45) rfl), good_of_word rfl⟩, List.forall_mem_cons.mpr ⟨⟨(List.mem_of_getElem? (i := 46) rfl), good_of_word rfl⟩, List.forall_mem_cons.mpr ⟨⟨(List.mem_of_getElem? (i := 47) rfl), good_of_word rfl⟩, List.forall_mem_cons.mpr ⟨⟨(List.mem_of_getElem? (i := 64) rfl), good_of_word rfl⟩, (fun _ h => absurd h List.not_mem_nil)⟩⟩⟩⟩⟩⟩⟩⟩⟩⟩⟩⟩⟩⟩⟩⟩⟩, fun w h => ⟨(fun w h => List.mem_cons_of_mem _ (List.mem_append_left _ (List.mem_append_left _ (List.mem_append_left _ (List.mem_append_right _ h))))) w h, good_of_word (List.all_eq_true.mp gw_X3 w h)⟩⟩, fun w h => ⟨(fun w h => List.mem_cons_of_mem _ (List.mem_append_left _ (List.mem_append_left _ (List.mem_append_right _ h)))) w h, good_of_word (List.all_eq_true.mp gw_X7 w h)⟩⟩, fun w h => ⟨(fun w h => List.mem_cons_of_mem _ (List.mem_append_right _ h)) w h, good_of_word (List.all_eq_true.mp gw_X10 w h)⟩⟩⟩
set_option maxRecDepth 20000 in
theorem gq_c_X3_mostByTeaching_c_X3_takenWhenTaught_66 : GoodIn wq_c_X3_mostByTeaching (wsV RX3 66 RX3 yX3_takenWhenTaught wq_c_X3_takenWhenTaught) := goodIn_app (List.forall_mem_cons.mpr ⟨⟨(List.mem_of_getElem? (i := 59) rfl), good_of_word rfl⟩, List.forall_mem_cons.mpr ⟨⟨(List.mem_of_getElem? (i := 60) rfl), good_of_word rfl⟩, List.forall_mem_cons.mpr ⟨⟨(List.mem_of_getElem? (i := 61) rfl), good_of_word rfl⟩, List.forall_mem_cons.mpr ⟨⟨(List.mem_of_getElem? (i := 4) rfl), good_of_word rfl⟩, (fun _ h => absurd h List.not_mem_nil)⟩⟩⟩⟩) gr_c_X3_mostByTeaching_c_X3_takenWhenTaught
set_option maxRecDepth 20000 in
theorem gr_c_X3_mostByTeaching_c_X3_better : GoodIn wq_c_X3_mostByTeaching wq_c_X3_better := List.forall_mem_cons.mpr ⟨⟨(List.mem_of_getElem? (i := 68) rfl), good_of_word rfl⟩, List.forall_mem_append.mpr ⟨List.forall_mem_cons.mpr ⟨⟨(List.mem_of_getElem? (i := 52) rfl), good_of_word rfl⟩, List.forall_mem_cons.mpr ⟨⟨(List.mem_of_getElem? (i := 69) rfl), good_of_word rfl⟩, List.forall_mem_cons.mpr ⟨⟨(List.mem_of_getElem? (i := 70) rfl), good_of_word rfl⟩, List.forall_mem_cons.mpr ⟨⟨(List.mem_of_getElem? (i := 28) rfl), good_of_word rfl⟩, List.forall_mem_cons.mpr ⟨⟨(List.mem_of_getElem? (i := 29) rfl), good_of_word rfl⟩, List.forall_mem_cons.mpr ⟨⟨(List.mem_of_getElem? (i := 30) rfl), good_of_word rfl⟩, (fun _ h => absurd h List.not_mem_nil)⟩⟩⟩⟩⟩⟩, fun w h => ⟨(fun w h => List.mem_cons_of_mem _ (List.mem_append_left _ (List.mem_append_left _ (List.mem_append_left _ (List.mem_append_right _ h))))) w h, good_of_word (List.all_eq_true.mp gw_X3 w h)⟩⟩⟩
set_option maxRecDepth 20000 in
theorem gq_c_X3_mostByTeaching_c_X3_better_70 : GoodIn wq_c_X3_mostByTeaching (wsV RX3 70 RX3 yX3_better wq_c_X3_better) := goodIn_app (List.forall_mem_cons.mpr ⟨⟨(List.mem_of_getElem? (i := 65) rfl), good_of_word rfl⟩, List.forall_mem_cons.mpr ⟨⟨(List.mem_of_getElem? (i := 66) rfl), good_of_word rfl⟩, List.forall_mem_cons.mpr ⟨⟨(List.mem_of_getElem? (i := 67) rfl), good_of_word rfl⟩, List.forall_mem_cons.mpr ⟨⟨(List.mem_of_getElem? (i := 4) rfl), good_of_word rfl⟩, (fun _ h => absurd h List.not_mem_nil)⟩⟩⟩⟩) gr_c_X3_mostByTeaching_c_X3_better
set_option maxHeartbeats 8000000 in
set_option maxRecDepth 100000 in
theorem c_X3_mostByTeaching (l : Launch) (D : va_G) (cy : Nat → ClassId) (ad : Nat → Nat) (g : Nat → va_E) {f0 : List Value} {f1 : List Value} {c2 : Nat → Int32} {c3 : Nat → Int32} {f4 : List Value} {f5 : List Value} {c6 : Nat → Int32} {c7 : Nat → Int32} {c8 : Nat → Int32} {c9 : Nat → Int32} {c10 : Nat → Int32} {c11 : Nat → Int32} {c12 : Nat → Int32} {c13 : Nat → Int32} {c14 : Nat → Int32} {c15 : Nat → Int32} {c16 : Nat → Int32} {c17 : Nat → Int32} {n : Int32} (o0 : g 0 = .inr (3, f0)) (f0_0 : f0[0]? = some (.ref (ad 5))) (f0_1 : f0[1]? = some (.ref (ad 1))) (f0_3 : f0[3]? = some (.ref (ad 4))) (f0_4 : f0[4]? = some (.ref (ad 15))) (f0_5 : f0[5]? = some (.int 0)) (f0_6 : f0[6]? = some (.ref (ad 16))) (f0_8 : f0[8]? = some (.ref (ad 17))) (o1 : g 1 = .inr (9, f1)) (f1_0 : f1[0]? = some (.ref (ad 2))) (f1_3 : f1[3]? = some (.ref (ad 3))) (f1_4 : f1[4]? = some (.int 0)) (a2 : g 2 = .inl (cy 0, 24, .inl c2)) (a3 : g 3 = .inl (cy 0, 5, .inl c3)) (o4 : g 4 = .inr (10, f4)) (f4_0 : f4[0]? = some (.ref (ad 5))) (f4_1 : f4[1]? = some (.ref (ad 8))) (f4_2 : f4[2]? = some (.ref (ad 9))) (f4_3 : f4[3]? = some (.ref (ad 10))) (f4_4 : f4[4]? = some (.ref (ad 11))) (f4_5 : f4[5]? = some (.ref (ad 12))) (f4_6 : f4[6]? = some (.ref (ad 13))) (f4_7 : f4[7]? = some (.ref (ad 14))) (o5 : g 5 = .inr (7, f5)) (f5_5 : f5[5]? = some (.int 0)) (f5_9 : f5[9]? = some (.ref (ad 6))) (f5_10 : f5[10]? = some (.ref (ad 7))) (f5_11 : f5[11]? = some (.int 0)) (a6 : g 6 = .inl (cy 0, 20, .inl c6)) (a7 : g 7 = .inl (cy 0, 4, .inl c7)) (a8 : g 8 = .inl (cy 0, 5, .inl c8)) (a9 : g 9 = .inl (cy 0, 20, .inl c9)) (a10 : g 10 = .inl (cy 0, 4, .inl c10)) (a11 : g 11 = .inl (cy 0, 5, .inl c11)) (a12 : g 12 = .inl (cy 0, 5, .inl c12)) (a13 : g 13 = .inl (cy 0, 5, .inl c13)) (a14 : g 14 = .inl (cy 0, 5, .inl c14)) (a15 : g 15 = .inl (cy 0, 24, .inl c15)) (a16 : g 16 = .inl (cy 0, 5, .inl c16)) (a17 : g 17 = .inl (cy 0, 5, .inl c17)) : cMi l yX3_mostByTeaching wq_c_X3_mostByTeaching { frames := 4, cells := 0, slots := 0, locals := 101 } 18 0 0 0 D cy ad g [.ref (ad 0), .int n] (fun r nw lu => (∃ (c2_1_4 : Nat → Int32) (c5_1_5 : Nat → Int32) (c7_1_6 : Nat → Int32) (cz_1_7 : Nat → Int32) (cz_1_8 : Nat → Int32) (cz_1_9 : Nat → Int32) (cz_1_10 : Nat → Int32), (¬ 0 = n) ∧ (r = (-1)) ∧ (lu = [(8, .inl (cy 0, 5, .inl c2_1_4)), (9, .inl (cy 0, 20, .inl c5_1_5)), (10, .inl (cy 0, 4, .inl c7_1_6)), (14, .inl (cy 0, 5, .inl cz_1_10)), (13, .inl (cy 0, 5, .inl cz_1_9)), (12, .inl (cy 0, 5, .inl cz_1_8)), (11, .inl (cy 0, 5, .inl cz_1_7)), (0, .inr (3, (f0.set 5 (.int 0))))])) ∨ (∃ (c2_1_4 : Nat → Int32) (c5_1_5 : Nat → Int32) (c7_1_6 : Nat → Int32) (cz_58_25 : Nat → Int32) (cz_58_26 : Nat → Int32) (cz_58_27 : Nat → Int32) (cz_58_28 : Nat → Int32) (c2_62_32 : Nat → Int32), (0 = n) ∧ (r = 0) ∧ (lu = [(8, .inl (cy 0, 5, .inl c2_1_4)), (9, .inl (cy 0, 20, .inl c5_1_5)), (10, .inl (cy 0, 4, .inl c7_1_6)), (14, .inl (cy 0, 5, .inl cz_58_28)), (13, .inl (cy 0, 5, .inl cz_58_27)), (12, .inl (cy 0, 5, .inl cz_58_26)), (11, .inl (cy 0, 5, .inl cz_58_25)), (0, .inr (3, (f0.set 5 (.int 0)))), (17, .inl (cy 0, 5, .inl c2_62_32))]))) := by
  refine cM_of (Qc := fun A => cQi (fun r nw lu => (∃ (c2_1_4 : Nat → Int32) (c5_1_5 : Nat → Int32) (c7_1_6 : Nat → Int32) (cz_1_7 : Nat → Int32) (cz_1_8 : Nat → Int32) (cz_1_9 : Nat → Int32) (cz_1_10 : Nat → Int32), (¬ 0 = n) ∧ (r = (-1)) ∧ (lu = [(8, .inl (cy 0, 5, .inl c2_1_4)), (9, .inl (cy 0, 20, .inl c5_1_5)), (10, .inl (cy 0, 4, .inl c7_1_6)), (14, .inl (cy 0, 5, .inl cz_1_10)), (13, .inl (cy 0, 5, .inl cz_1_9)), (12, .inl (cy 0, 5, .inl cz_1_8)), (11, .inl (cy 0, 5, .inl cz_1_7)), (0, .inr (3, (f0.set 5 (.int 0))))])) ∨ (∃ (c2_1_4 : Nat → Int32) (c5_1_5 : Nat → Int32) (c7_1_6 : Nat → Int32) (cz_58_25 : Nat → Int32) (cz_58_26 : Nat → Int32) (cz_58_27 : Nat → Int32) (cz_58_28 : Nat → Int32) (c2_62_32 : Nat → Int32), (0 = n) ∧ (r = 0) ∧ (lu = [(8, .inl (cy 0, 5, .inl c2_1_4)), (9, .inl (cy 0, 20, .inl c5_1_5)), (10, .inl (cy 0, 4, .inl c7_1_6)), (14, .inl (cy 0, 5, .inl cz_58_28)), (13, .inl (cy 0, 5, .inl cz_58_27)), (12, .inl (cy 0, 5, .inl cz_58_26)), (11, .inl (cy 0, 5, .inl cz_58_25)), (0, .inr (3, (f0.set 5 (.int 0)))), (17, .inl (cy 0, 5, .inl c2_62_32))]))) D 18 0 ad g A) (cc := cX3_mostByTeaching) (maxL := 5) (ret := (some .int)) (by decide) rfl (Nat.le_of_ble_eq_true rfl) ?_
  intro p e s m below meth c A hC hr hlk hnm hO ls hl
  have hC : CallFix p m c cX3_mostByTeaching 5 s [.ref (ad 0), .int n].toArray wq_c_X3_mostByTeaching RX3 := hC
  obtain ⟨hx, hb, hml, hown, hts⟩ := id hC
  have hl : lv_has ls 5 [(0, .ref (ad 0)), (1, .int n)] := hl
  have i_X10 : ∀ w ∈ wsX100, w ∈ wq_c_X3_mostByTeaching := fun w h => List.mem_cons_of_mem _ (List.mem_append_right _ h)
  have i_X3 : ∀ w ∈ wsX30, w ∈ wq_c_X3_mostByTeaching := fun w h => List.mem_cons_of_mem _ (List.mem_append_left _ (List.mem_append_left _ (List.mem_append_left _ (List.mem_append_right _ h))))
  have i_X7 : ∀ w ∈ wsX70, w ∈ wq_c_X3_mostByTeaching := fun w h => List.mem_cons_of_mem _ (List.mem_append_left _ (List.mem_append_left _ (List.mem_append_right _ h)))
  have i_X9 : ∀ w ∈ wsX90, w ∈ wq_c_X3_mostByTeaching := fun w h => List.mem_cons_of_mem _ (List.mem_append_left _ (List.mem_append_right _ h))
  refine lv_aload_n hx hb dX3_mostByTeaching_0 rfl (lv_at hl 0 rfl) ?_
  refine cg_Vv (As := []) (rest := []) (mc := 0) (ms := 0) (rm := { frames := 3, cells := 0, slots := 0, locals := 81 }) hC hl.1 hO [0, 1, 15, 2, 4, 5, 6, 7, 8, 9, 10, 11, 12, 13, 14, 3] rfl (c_X3_begin l D cy _ _ (f0 := f0) (f1 := f1) (c3 := c2) (c15 := c3) (f4 := f4) (f5 := f5) (c6 := c6) (c7 := c7) (c8 := c8) (c9 := c9) (c10 := c10) (c11 := c11) (c12 := c12) (c13 := c13) (c14 := c14) (c2 := c15) o0 f0_1 f0_3 f0_4 f0_5 o1 f1_0 f1_3 f1_4 a15 a2 o4 f4_0 f4_1 f4_2 f4_3 f4_4 f4_5 f4_6 f4_7 o5 f5_9 f5_10 a6 a7 a8 a9 a10 a11 a12 a13 a14 a3) gq_c_X3_mostByTeaching_c_X3_begin_45 rfl rfl rfl 0 (by decide +kernel) ⟨Nat.le_of_ble_eq_true rfl, Nat.le_of_ble_eq_true rfl⟩ rfl (by decide) o0 rfl rfl (Nat.le_of_ble_eq_true rfl) dX3_mostByTeaching_1 ⟨Nat.le_of_ble_eq_true rfl, Nat.le_of_ble_eq_true rfl⟩ (fun nw_1_1 l_1_2 H locs hw hO => ?_)
  obtain ⟨c2_1_4, c5_1_5, c7_1_6, cz_1_7, cz_1_8, cz_1_9, cz_1_10, rfl⟩ := hw
  have hO : cO D cy A s.heap s 18 ad (cup [(8, .inl (cy 0, 5, .inl c2_1_4)), (9, .inl (cy 0, 20, .inl c5_1_5)), (10, .inl (cy 0, 4, .inl c7_1_6)), (14, .inl (cy 0, 5, .inl cz_1_10)), (13, .inl (cy 0, 5, .inl cz_1_9)), (12, .inl (cy 0, 5, .inl cz_1_8)), (11, .inl (cy 0, 5, .inl cz_1_7)), (0, .inr (3, (f0.set 5 (.int 0))))] g) _ _ := hO
  refine lv_iconst (v := (-1)) hx hb dX3_mostByTeaching_4 (by decide) ?_
  refine lv_istore_n (lv' := [(2, .int (-1)), (0, .ref (ad 0)), (1, .int n)]) hx hb dX3_mostByTeaching_5 rfl hl (by decide) rfl (fun ls hl => ?_)
  refine lv_iload_n hx hb dX3_mostByTeaching_6 rfl (lv_at hl 2 rfl) ?_
  refine lv_iconst (v := 1) hx hb dX3_mostByTeaching_7 (by decide) ?_
  refine lv_iadd hx hb dX3_mostByTeaching_8 ?_
  refine lv_aload_n hx hb dX3_mostByTeaching_9 rfl (lv_at hl 1 rfl) ?_
  refine cg_get hC hO 0 (by decide) rfl rfl i_X3 0 (by decide) (List.mem_of_getElem? (i := 48) rfl) (fs_ne (by decide) f0_0) dX3_mostByTeaching_10 ?_
  refine cg_get hC hO 5 (by decide) o5 rfl i_X7 5 (by decide) (List.mem_of_getElem? (i := 49) rfl) f5_5 dX3_mostByTeaching_13 ?_
  refine cg_Ni (As := [.int (n + 1), .int 0]) (rest := []) (mc := 0) (ms := 0) (rm := { frames := 0, cells := 0, slots := 0, locals := 0 }) hC hl.1 hO [] rfl (c_X11_power l D cy _ _ (x := (n + 1)) ) gq_c_X3_mostByTeaching_c_X11_power rfl rfl rfl (host := "CrowToll") (nestL_mem_11) (List.mem_of_getElem? (i := 51) rfl) (List.mem_of_getElem? (i := 18) rfl) 2 (by decide +kernel) ⟨Nat.le_of_ble_eq_true rfl, Nat.le_of_ble_eq_true rfl⟩ rfl rfl (Nat.le_of_ble_eq_true rfl) dX3_mostByTeaching_16 ⟨Nat.le_of_ble_eq_true rfl, Nat.le_of_ble_eq_true rfl⟩ (fun r_16_13 nw_16_11 l_16_12 H locs hw hO => ?_)
  obtain ⟨rfl, rfl⟩ := hw
  have hO : cO D cy A s.heap s 18 ad (cup [(8, .inl (cy 0, 5, .inl c2_1_4)), (9, .inl (cy 0, 20, .inl c5_1_5)), (10, .inl (cy 0, 4, .inl c7_1_6)), (14, .inl (cy 0, 5, .inl cz_1_10)), (13, .inl (cy 0, 5, .inl cz_1_9)), (12, .inl (cy 0, 5, .inl cz_1_8)), (11, .inl (cy 0, 5, .inl cz_1_7)), (0, .inr (3, (f0.set 5 (.int 0))))] g) _ _ := hO
  refine lv_istore_n (lv' := [(3, .int 1), (2, .int (-1)), (0, .ref (ad 0)), (1, .int n)]) hx hb dX3_mostByTeaching_19 rfl hl (by decide) rfl (fun ls hl => ?_)
  refine lv_iconst (v := 0) hx hb dX3_mostByTeaching_20 (by decide) ?_
  refine lv_istore (lv' := [(4, .int 0), (3, .int 1), (2, .int (-1)), (0, .ref (ad 0)), (1, .int n)]) hx hb dX3_mostByTeaching_21 hl (by decide) rfl (fun ls hl => ?_)
  refine lv_iload hx hb dX3_mostByTeaching_23 (lv_at hl 0 rfl) ?_
  refine lv_iload_n hx hb dX3_mostByTeaching_25 rfl (lv_at hl 1 rfl) ?_
  refine lv_icmp_ge (tgt := 72) hx hb dX3_mostByTeaching_26 (by decide) (fun h => absurd h (by decide)) (fun _ => ?_)
  refine lv_iload hx hb dX3_mostByTeaching_29 (lv_at hl 0 rfl) ?_
  refine lv_iload_n hx hb dX3_mostByTeaching_31 rfl (lv_at hl 4 rfl) ?_
  refine lv_iconst (v := 1) hx hb dX3_mostByTeaching_32 (by decide) ?_
  refine lv_iadd hx hb dX3_mostByTeaching_33 ?_
  refine lv_aload_n hx hb dX3_mostByTeaching_34 rfl (lv_at hl 3 rfl) ?_
  refine cg_get hC hO 0 (by decide) rfl rfl i_X3 0 (by decide) (List.mem_of_getElem? (i := 48) rfl) (fs_ne (by decide) f0_0) dX3_mostByTeaching_35 ?_
  refine cg_get hC hO 5 (by decide) o5 rfl i_X7 5 (by decide) (List.mem_of_getElem? (i := 49) rfl) f5_5 dX3_mostByTeaching_38 ?_
  refine lv_aload_n hx hb dX3_mostByTeaching_41 rfl (lv_at hl 3 rfl) ?_
  refine cg_get hC hO 0 (by decide) rfl rfl i_X3 6 (by decide) (List.mem_of_getElem? (i := 52) rfl) (fs_ne (by decide) f0_6) dX3_mostByTeaching_42 ?_
  refine cg_Nv (As := [.int 0, .int (n + 1), .int 0, .ref (ad 16)]) (rest := []) (mc := 0) (ms := 0) (rm := { frames := 0, cells := 0, slots := 0, locals := 0 }) hC hl.1 hO [16] rfl (c_X11_spread l D cy _ _ (x := (n + 1)) (q := 5) (c0 := c16) a16) gq_c_X3_mostByTeaching_c_X11_spread rfl rfl rfl (host := "CrowToll") (nestL_mem_12) (List.mem_of_getElem? (i := 54) rfl) (List.mem_of_getElem? (i := 18) rfl) 4 (by decide +kernel) ⟨Nat.le_of_ble_eq_true rfl, Nat.le_of_ble_eq_true rfl⟩ rfl rfl (Nat.le_of_ble_eq_true rfl) dX3_mostByTeaching_45 ⟨Nat.le_of_ble_eq_true rfl, Nat.le_of_ble_eq_true rfl⟩ (fun nw_45_14 l_45_15 H locs hw hO => ?_)
  obtain rfl := hw
  have hO : cO D cy A s.heap s 18 ad (cup [(8, .inl (cy 0, 5, .inl c2_1_4)), (9, .inl (cy 0, 20, .inl c5_1_5)), (10, .inl (cy 0, 4, .inl c7_1_6)), (14, .inl (cy 0, 5, .inl cz_1_10)), (13, .inl (cy 0, 5, .inl cz_1_9)), (12, .inl (cy 0, 5, .inl cz_1_8)), (11, .inl (cy 0, 5, .inl cz_1_7)), (0, .inr (3, (f0.set 5 (.int 0))))] g) _ _ := hO
  refine lv_aload_n hx hb dX3_mostByTeaching_48 rfl (lv_at hl 3 rfl) ?_
  refine lv_iload_n hx hb dX3_mostByTeaching_49 rfl (lv_at hl 4 rfl) ?_
  refine cg_Vi (As := [.int n]) (rest := []) (mc := 0) (ms := 0) (rm := { frames := 0, cells := 0, slots := 0, locals := 0 }) hC hl.1 hO [0, 5] rfl (c_X3_canTeach l D cy _ _ (f0 := (f0.set 5 (.int 0))) (f1 := f5) (n := n) rfl (fs_ne (by decide) f0_0) o5 f5_5) gq_c_X3_mostByTeaching_c_X3_canTeach_62 rfl rfl rfl 1 (by decide +kernel) ⟨Nat.le_of_ble_eq_true rfl, Nat.le_of_ble_eq_true rfl⟩ rfl (by decide) rfl rfl rfl (Nat.le_of_ble_eq_true rfl) dX3_mostByTeaching_50 ⟨Nat.le_of_ble_eq_true rfl, Nat.le_of_ble_eq_true rfl⟩ (fun r_50_19 nw_50_17 l_50_18 H locs hw hO => ?_)
  rcases hw with hw | hw
  · obtain ⟨h_50_20, rfl, rfl⟩ := hw
    have hO : cO D cy A s.heap s 18 ad (cup [(8, .inl (cy 0, 5, .inl c2_1_4)), (9, .inl (cy 0, 20, .inl c5_1_5)), (10, .inl (cy 0, 4, .inl c7_1_6)), (14, .inl (cy 0, 5, .inl cz_1_10)), (13, .inl (cy 0, 5, .inl cz_1_9)), (12, .inl (cy 0, 5, .inl cz_1_8)), (11, .inl (cy 0, 5, .inl cz_1_7)), (0, .inr (3, (f0.set 5 (.int 0))))] g) _ _ := hO
    refine lv_if_eq (tgt := 66) hx hb dX3_mostByTeaching_53 (by decide) (fun _ => ?_) (fun h => absurd h (by decide))
    refine lv_iinc (v := 1) (lv' := [(4, .int 1), (3, .int 1), (2, .int (-1)), (0, .ref (ad 0)), (1, .int n)]) hx hb dX3_mostByTeaching_66 hl (k := 0) rfl (by decide) (by decide) rfl (fun ls hl => ?_)
    refine lv_goto (tgt := 23) hx hb dX3_mostByTeaching_69 (by decide) ?_
    refine lv_iload hx hb dX3_mostByTeaching_23 (lv_at hl 0 rfl) ?_
    refine lv_iload_n hx hb dX3_mostByTeaching_25 rfl (lv_at hl 1 rfl) ?_
    refine lv_icmp_ge (tgt := 72) hx hb dX3_mostByTeaching_26 (by decide) (fun _ => ?_) (fun h => absurd h (by decide))
    refine lv_iload_n hx hb dX3_mostByTeaching_72 rfl (lv_at hl 2 rfl) ?_
    exact cg_iret (nw := fun _ => 0) hC hr hlk hO.same rfl (Nat.le_of_ble_eq_true rfl) (Nat.le_of_ble_eq_true rfl) (Or.inl ⟨c2_1_4, c5_1_5, c7_1_6, cz_1_7, cz_1_8, cz_1_9, cz_1_10, h_50_20, rfl, rfl⟩) dX3_mostByTeaching_73
  · obtain ⟨h_50_21, rfl, rfl⟩ := hw
    have hO : cO D cy A s.heap s 18 ad (cup [(8, .inl (cy 0, 5, .inl c2_1_4)), (9, .inl (cy 0, 20, .inl c5_1_5)), (10, .inl (cy 0, 4, .inl c7_1_6)), (14, .inl (cy 0, 5, .inl cz_1_10)), (13, .inl (cy 0, 5, .inl cz_1_9)), (12, .inl (cy 0, 5, .inl cz_1_8)), (11, .inl (cy 0, 5, .inl cz_1_7)), (0, .inr (3, (f0.set 5 (.int 0))))] g) _ _ := hO
    refine lv_if_eq (tgt := 66) hx hb dX3_mostByTeaching_53 (by decide) (fun h => absurd h (by decide)) (fun _ => ?_)
    refine lv_aload_n hx hb dX3_mostByTeaching_56 rfl (lv_at hl 3 rfl) ?_
    refine lv_aload_n hx hb dX3_mostByTeaching_57 rfl (lv_at hl 3 rfl) ?_
    refine cg_Vi (As := []) (rest := [.ref (ad 0)]) (mc := 0) (ms := 0) (rm := { frames := 2, cells := 0, slots := 0, locals := 43 }) hC hl.1 hO [0, 5, 4, 11, 12, 13, 14] rfl (c_X3_takenWhenTaught l D cy _ _ (f0 := (f0.set 5 (.int 0))) (f1 := f5) (f2 := f4) (c3 := cz_1_7) (c4 := cz_1_8) (c5 := cz_1_9) (c6 := cz_1_10) rfl (fs_ne (by decide) f0_0) (fs_ne (by decide) f0_3) o5 f5_5 f5_11 o4 f4_4 f4_5 f4_6 f4_7 rfl rfl rfl rfl) gq_c_X3_mostByTeaching_c_X3_takenWhenTaught_66 rfl rfl rfl 0 (by decide +kernel) ⟨Nat.le_of_ble_eq_true rfl, Nat.le_of_ble_eq_true rfl⟩ rfl (by decide) rfl rfl rfl (Nat.le_of_ble_eq_true rfl) dX3_mostByTeaching_58 ⟨Nat.le_of_ble_eq_true rfl, Nat.le_of_ble_eq_true rfl⟩ (fun r_58_24 nw_58_22 l_58_23 H locs hw hO => ?_)
    obtain ⟨cz_58_25, cz_58_26, cz_58_27, cz_58_28, rfl, rfl⟩ := hw
    have hO : cO D cy A s.heap s 18 ad (cup [(8, .inl (cy 0, 5, .inl c2_1_4)), (9, .inl (cy 0, 20, .inl c5_1_5)), (10, .inl (cy 0, 4, .inl c7_1_6)), (14, .inl (cy 0, 5, .inl cz_58_28)), (13, .inl (cy 0, 5, .inl cz_58_27)), (12, .inl (cy 0, 5, .inl cz_58_26)), (11, .inl (cy 0, 5, .inl cz_58_25)), (0, .inr (3, (f0.set 5 (.int 0))))] g) _ _ := hO
    refine lv_iload_n hx hb dX3_mostByTeaching_61 rfl (lv_at hl 2 rfl) ?_
    refine cg_Vi (As := [.int 0, .int (-1)]) (rest := []) (mc := 0) (ms := 0) (rm := { frames := 1, cells := 0, slots := 0, locals := 60 }) hC hl.1 hO [0, 16, 17] rfl (c_X3_better l D cy _ _ (f0 := (f0.set 5 (.int 0))) (c1 := c16) (c2 := c17) rfl (fs_ne (by decide) f0_6) (fs_ne (by decide) f0_8) a16 a17) gq_c_X3_mostByTeaching_c_X3_better_70 rfl rfl rfl 2 (by decide +kernel) ⟨Nat.le_of_ble_eq_true rfl, Nat.le_of_ble_eq_true rfl⟩ rfl (by decide) rfl rfl rfl (Nat.le_of_ble_eq_true rfl) dX3_mostByTeaching_62 ⟨Nat.le_of_ble_eq_true rfl, Nat.le_of_ble_eq_true rfl⟩ (fun r_62_31 nw_62_29 l_62_30 H locs hw hO => ?_)
    obtain ⟨c2_62_32, rfl, rfl⟩ := hw
    have hO : cO D cy A s.heap s 18 ad (cup [(8, .inl (cy 0, 5, .inl c2_1_4)), (9, .inl (cy 0, 20, .inl c5_1_5)), (10, .inl (cy 0, 4, .inl c7_1_6)), (14, .inl (cy 0, 5, .inl cz_58_28)), (13, .inl (cy 0, 5, .inl cz_58_27)), (12, .inl (cy 0, 5, .inl cz_58_26)), (11, .inl (cy 0, 5, .inl cz_58_25)), (0, .inr (3, (f0.set 5 (.int 0)))), (17, .inl (cy 0, 5, .inl c2_62_32))] g) _ _ := hO
    refine lv_istore_n (lv' := [(2, .int 0), (4, .int 0), (3, .int 1), (0, .ref (ad 0)), (1, .int n)]) hx hb dX3_mostByTeaching_65 rfl hl (by decide) rfl (fun ls hl => ?_)
    refine lv_iinc (v := 1) (lv' := [(4, .int 1), (2, .int 0), (3, .int 1), (0, .ref (ad 0)), (1, .int n)]) hx hb dX3_mostByTeaching_66 hl (k := 1) rfl (by decide) (by decide) rfl (fun ls hl => ?_)
    refine lv_goto (tgt := 23) hx hb dX3_mostByTeaching_69 (by decide) ?_
    refine lv_iload hx hb dX3_mostByTeaching_23 (lv_at hl 0 rfl) ?_
    refine lv_iload_n hx hb dX3_mostByTeaching_25 rfl (lv_at hl 2 rfl) ?_
    refine lv_icmp_ge (tgt := 72) hx hb dX3_mostByTeaching_26 (by decide) (fun _ => ?_) (fun h => absurd h (by decide))
    refine lv_iload_n hx hb dX3_mostByTeaching_72 rfl (lv_at hl 1 rfl) ?_
    exact cg_iret (nw := fun _ => 0) hC hr hlk hO.same rfl (Nat.le_of_ble_eq_true rfl) (Nat.le_of_ble_eq_true rfl) (Or.inr ⟨c2_1_4, c5_1_5, c7_1_6, cz_58_25, cz_58_26, cz_58_27, cz_58_28, c2_62_32, h_50_21, rfl, rfl⟩) dX3_mostByTeaching_73

theorem dX11_teach_0 : decode cX11_teach 0 = .ok (.aload_n 0, 1) := by decide +kernel
theorem dX11_teach_1 : decode cX11_teach 1 = .ok (.iconst 0, 1) := by decide +kernel
theorem dX11_teach_2 : decode cX11_teach 2 = .ok (.putfield 100, 3) := by decide +kernel
theorem dX11_teach_5 : decode cX11_teach 5 = .ok (.iload_n 1, 1) := by decide +kernel
theorem dX11_teach_6 : decode cX11_teach 6 = .ok (.iconst 0, 1) := by decide +kernel
theorem dX11_teach_7 : decode cX11_teach 7 = .ok (.iconst 3, 1) := by decide +kernel
theorem dX11_teach_8 : decode cX11_teach 8 = .ok (.invokestatic 107, 3) := by decide +kernel
theorem dX11_teach_11 : decode cX11_teach 11 = .ok (.ifCond .ne 5, 3) := by decide +kernel
theorem dX11_teach_14 : decode cX11_teach 14 = .ok (.iconst (-1), 1) := by decide +kernel
theorem dX11_teach_15 : decode cX11_teach 15 = .ok (.ireturn, 1) := by decide +kernel
theorem dX11_teach_16 : decode cX11_teach 16 = .ok (.aload_n 0, 1) := by decide +kernel
theorem dX11_teach_17 : decode cX11_teach 17 = .ok (.getfield 86, 3) := by decide +kernel
theorem dX11_teach_20 : decode cX11_teach 20 = .ok (.iload_n 1, 1) := by decide +kernel
theorem dX11_teach_21 : decode cX11_teach 21 = .ok (.invokevirtual 241, 3) := by decide +kernel
theorem dX11_teach_24 : decode cX11_teach 24 = .ok (.istore_n 2, 1) := by decide +kernel
theorem dX11_teach_25 : decode cX11_teach 25 = .ok (.iload_n 2, 1) := by decide +kernel
theorem dX11_teach_26 : decode cX11_teach 26 = .ok (.iconst (-1), 1) := by decide +kernel
theorem dX11_teach_27 : decode cX11_teach 27 = .ok (.if_icmp .eq 21, 3) := by decide +kernel
theorem dX11_teach_30 : decode cX11_teach 30 = .ok (.aload_n 0, 1) := by decide +kernel
theorem dX11_teach_31 : decode cX11_teach 31 = .ok (.aload_n 0, 1) := by decide +kernel
theorem dX11_teach_32 : decode cX11_teach 32 = .ok (.getfield 86, 3) := by decide +kernel
theorem dX11_teach_35 : decode cX11_teach 35 = .ok (.getfield 244, 3) := by decide +kernel
theorem dX11_teach_38 : decode cX11_teach 38 = .ok (.aload_n 0, 1) := by decide +kernel
theorem dX11_teach_39 : decode cX11_teach 39 = .ok (.getfield 27, 3) := by decide +kernel
theorem dX11_teach_42 : decode cX11_teach 42 = .ok (.getfield 247, 3) := by decide +kernel
theorem dX11_teach_45 : decode cX11_teach 45 = .ok (.invokevirtual 224, 3) := by decide +kernel
theorem dX11_teach_48 : decode cX11_teach 48 = .ok (.iload_n 2, 1) := by decide +kernel
theorem dX11_teach_49 : decode cX11_teach 49 = .ok (.ireturn, 1) := by decide +kernel
def wq_c_X11_teach : List Cond := Cond.code yX11_teach cX11_teach 3 (some .int) :: (([Cond.fieldLink RX11 100 "CrowToll" "lyingThere" "I", Cond.methodLink RX11 107 yX11_within, Cond.static yX11_within, Cond.initialized RX11, Cond.code yX11_within cX11_within 3 (some .boolean), Cond.fieldLink RX11 86 "CrowToll" "keepers" "LCrowToll$Keepers;", Cond.methodLink RX11 241 yX3_mostByTeaching, Cond.instanceMethod yX3_mostByTeaching, Cond.selects RX3 yX3_mostByTeaching yX3_mostByTeaching, Cond.initialized RX3, Cond.code yX3_mostByTeaching cX3_mostByTeaching 5 (some .int), Cond.methodLink RX3 45 yX3_begin, Cond.instanceMethod yX3_begin, Cond.selects RX3 yX3_begin yX3_begin, Cond.code yX3_begin cX3_begin 1 none, Cond.fieldLink RX3 28 "CrowToll$Keepers" "stand" "LCrowToll$Stand;", Cond.fieldLink RX3 9 "CrowToll$Keepers" "order" "[I", Cond.methodLink RX3 96 yX9_coming, Cond.instanceMethod yX9_coming, Cond.selects RX9 yX9_coming yX9_coming, Cond.initialized RX9, Cond.code yX9_coming cX9_coming 4 (some .int), Cond.fieldLink RX9 21 "CrowToll$Stand" "carts" "I", Cond.fieldLink RX3 100 "CrowToll$Keepers" "going" "I", Cond.fieldLink RX3 103 "CrowToll$Stand" "minute" "[I", Cond.code yX11_putByMinutes cX11_putByMinutes 6 none, Cond.static yX11_putByMinutes, Cond.fieldLink RX3 41 "CrowToll$Keepers" "watch" "LCrowToll$Watch;", Cond.fieldLink RX3 73 "CrowToll$Stand" "counts" "[I", Cond.methodLink RX3 110 yX10_sit, Cond.instanceMethod yX10_sit, Cond.selects RX10 yX10_sit yX10_sit, Cond.initialized RX10, Cond.code yX10_sit cX10_sit 2 none, Cond.fieldLink RX10 9 "CrowToll$Watch" "limit" "[I", Cond.methodLink RX10 37 arraycopyName, Cond.native arraycopyName, Cond.static arraycopyName, Cond.initialized "java/lang/System", Cond.fieldLink RX10 33 "CrowToll$Watch" "road" "LCrowToll$Road;", Cond.fieldLink RX10 43 "CrowToll$Road" "seat" "[I", Cond.fieldLink RX10 15 "CrowToll$Watch" "seat" "[I", Cond.fieldLink RX10 46 "CrowToll$Road" "seated" "[I", Cond.fieldLink RX10 18 "CrowToll$Watch" "seated" "[I", Cond.methodLink RX10 47 yX10_begin, Cond.instanceMethod yX10_begin, Cond.selects RX10 yX10_begin yX10_begin, Cond.code yX10_begin cX10_begin 1 none, Cond.fieldLink RX10 21 "CrowToll$Watch" "count" "[I", Cond.methodLink RX10 54 yJ7_fill_53178, Cond.static yJ7_fill_53178, Cond.initialized RJ7, Cond.code yJ7_fill_53178 cJ7_fill_53178 4 none, Cond.fieldLink RX10 24 "CrowToll$Watch" "total" "[I", Cond.fieldLink RX10 27 "CrowToll$Watch" "lookedAt" "[I", Cond.fieldLink RX10 30 "CrowToll$Watch" "countedAt" "[I", Cond.fieldLink RX3 24 "CrowToll$Keepers" "road" "LCrowToll$Road;", Cond.fieldLink RX3 48 "CrowToll$Road" "birds" "I", Cond.code yX11_power cX11_power 4 (some .int), Cond.static yX11_power, Cond.fieldLink RX3 15 "CrowToll$Keepers" "way" "[I", Cond.code yX11_spread cX11_spread 6 none, Cond.static yX11_spread, Cond.methodLink RX3 62 yX3_canTeach, Cond.instanceMethod yX3_canTeach, Cond.selects RX3 yX3_canTeach yX3_canTeach, Cond.code yX3_canTeach cX3_canTeach 4 (some .boolean), Cond.methodLink RX3 66 yX3_takenWhenTaught, Cond.instanceMethod yX3_takenWhenTaught, Cond.selects RX3 yX3_takenWhenTaught yX3_takenWhenTaught, Cond.code yX3_takenWhenTaught cX3_takenWhenTaught 3 (some .int), Cond.methodLink RX3 81 yX10_begin, Cond.fieldLink RX3 82 "CrowToll$Road" "posts" "I", Cond.methodLink RX3 70 yX3_better, Cond.instanceMethod yX3_better, Cond.selects RX3 yX3_better yX3_better, Cond.code yX3_better cX3_better 3 (some .int), Cond.fieldLink RX3 21 "CrowToll$Keepers" "best" "[I", Cond.methodLink RX3 114 arraycopyName, Cond.fieldLink RX11 244 "CrowToll$Keepers" "best" "[I", Cond.fieldLink RX11 27 "CrowToll" "told" "LCrowToll$Road;", Cond.fieldLink RX11 247 "CrowToll$Road" "birds" "I", Cond.methodLink RX11 224 yX11_layThere, Cond.instanceMethod yX11_layThere, Cond.selects RX11 yX11_layThere yX11_layThere, Cond.code yX11_layThere cX11_layThere 3 none, Cond.fieldLink RX11 97 "CrowToll" "lying" "[I", Cond.methodLink RX11 297 Lib.Math.min.name, Cond.static Lib.Math.min.name, Cond.initialized "java/lang/Math", Cond.code Lib.Math.min.name Lib.Math.min.code 2 (some .int), Cond.methodLink RX11 302 arraycopyName] : List Cond) ++ wsX30 ++ wsX70 ++ wsX90 ++ wsX100 ++ wsX110)
set_option maxRecDepth 20000 in
theorem gr_c_X11_teach_c_X11_within : GoodIn wq_c_X11_teach wq_c_X11_within := List.forall_mem_cons.mpr ⟨⟨(List.mem_of_getElem? (i := 5) rfl), good_of_word rfl⟩, (fun _ h => absurd h List.not_mem_nil)⟩
set_option maxRecDepth 20000 in
theorem gq_c_X11_teach_c_X11_within_107 : GoodIn wq_c_X11_teach (va_wsS RX11 107 yX11_within wq_c_X11_within) := goodIn_app (List.forall_mem_cons.mpr ⟨⟨(List.mem_of_getElem? (i := 2) rfl), good_of_word rfl⟩, List.forall_mem_cons.mpr ⟨⟨(List.mem_of_getElem? (i := 3) rfl), good_of_word rfl⟩, List.forall_mem_cons.mpr ⟨⟨(List.mem_of_getElem? (i := 4) rfl), good_of_word rfl⟩, (fun _ h => absurd h List.not_mem_nil)⟩⟩⟩) gr_c_X11_teach_c_X11_within
set_option maxRecDepth 20000 in
theorem gr_c_X11_teach_c_X3_mostByTeaching : GoodIn wq_c_X11_teach wq_c_X3_mostByTeaching := List.forall_mem_cons.mpr ⟨⟨(List.mem_of_getElem? (i := 11) rfl), good_of_word rfl⟩, List.forall_mem_append.mpr ⟨List.forall_mem_append.mpr ⟨List.forall_mem_append.mpr ⟨List.forall_mem_append.mpr ⟨List.forall_mem_cons.mpr ⟨⟨(List.mem_of_getElem? (i := 12) rfl), good_of_word rfl⟩, List.forall_mem_cons.mpr ⟨⟨(List.mem_of_getElem? (i := 13) rfl), good_of_word rfl⟩, List.forall_mem_cons.mpr ⟨⟨(List.mem_of_getElem? (i := 14) rfl), good_of_word rfl⟩, List.forall_mem_cons.mpr ⟨⟨(List.mem_of_getElem? (i := 10) rfl), good_of_word rfl⟩, List.forall_mem_cons.mpr ⟨⟨(List.mem_of_getElem? (i := 15) rfl), good_of_word rfl⟩, List.forall_mem_cons.mpr ⟨⟨(List.mem_of_getElem? (i := 16) rfl), good_of_word rfl⟩, List.forall_mem_cons.mpr ⟨⟨(List.mem_of_getElem? (i := 17) rfl), good_of_word rfl⟩, List.forall_mem_cons.mpr ⟨⟨(List.mem_of_getElem? (i := 18) rfl), good_of_word rfl⟩, List.forall_mem_cons.mpr ⟨⟨(List.mem_of_getElem? (i := 19) rfl), good_of_word rfl⟩, List.forall_mem_cons.mpr ⟨⟨(List.mem_of_getElem? (i := 20) rfl), good_of_word rfl⟩, List.forall_mem_cons.mpr ⟨⟨(List.mem_of_getElem? (i := 21) rfl), good_of_word rfl⟩, List.forall_mem_cons.mpr ⟨⟨(List.mem_of_getElem? (i := 22) rfl), good_of_word rfl⟩, List.forall_mem_cons.mpr ⟨⟨(List.mem_of_getElem? (i := 23) rfl), good_of_word rfl⟩, List.forall_mem_cons.mpr ⟨⟨(List.mem_of_getElem? (i := 24) rfl), good_of_word rfl⟩, List.forall_mem_cons.mpr ⟨⟨(List.mem_of_getElem? (i := 25) rfl), good_of_word rfl⟩, List.forall_mem_cons.mpr ⟨⟨(List.mem_of_getElem? (i := 26) rfl), good_of_word rfl⟩, List.forall_mem_cons.mpr ⟨⟨(List.mem_of_getElem? (i := 27) rfl), good_of_word rfl⟩, List.forall_mem_cons.mpr ⟨⟨(List.mem_of_getElem? (i := 4) rfl), good_of_word rfl⟩, List.forall_mem_cons.mpr ⟨⟨(List.mem_of_getElem? (i := 28) rfl), good_of_word rfl⟩, List.forall_mem_cons.mpr ⟨⟨(List.mem_of_getElem? (i := 29) rfl), good_of_word rfl⟩, List.forall_mem_cons.mpr ⟨⟨(List.mem_of_getElem? (i := 30) rfl), good_of_word rfl⟩, List.forall_mem_cons.mpr ⟨⟨(List.mem_of_getElem? (i := 31) rfl), good_of_word rfl⟩, List.forall_mem_cons.mpr ⟨⟨(List.mem_of_getElem? (i := 32) rfl), good_of_word rfl⟩, List.forall_mem_cons.mpr ⟨⟨(List.mem_of_getElem? (i := 33) rfl), good_of_word rfl⟩, List.forall_mem_cons.mpr ⟨⟨(List.mem_of_getElem? (i := 34) rfl), good_of_word rfl⟩, List.forall_mem_cons.mpr ⟨⟨(List.mem_of_getElem? (i := 35) rfl), good_of_word rfl⟩, List.forall_mem_cons.mpr ⟨⟨(List.mem_of_getElem? (i := 36) rfl), good_of_word rfl⟩, List.forall_mem_cons.mpr ⟨⟨(List.mem_of_getElem? (i := 37) rfl), good_of_word rfl⟩, List.forall_mem_cons.mpr ⟨⟨(List.mem_of_getElem? (i := 38) rfl), good_of_word rfl⟩, List.forall_mem_cons.mpr ⟨⟨(List.mem_of_getElem? (i := 39) rfl), good_of_word rfl⟩, List.forall_mem_cons.mpr ⟨⟨(List.mem_of_getElem? (i := 40) rfl), good_of_word rfl⟩, List.forall_mem_cons.mpr ⟨⟨(List.mem_of_getElem? (i := 41) rfl), good_of_word rfl⟩, List.forall_mem_cons.mpr ⟨⟨(List.mem_of_getElem? (i := 42) rfl), good_of_word rfl⟩, List.forall_mem_cons.mpr ⟨⟨(List.mem_of_getElem? (i := 43) rfl), good_of_word rfl⟩, List.forall_mem_cons.mpr ⟨⟨(List.mem_of_getElem? (i := 44) rfl), good_of_word rfl⟩, List.forall_mem_cons.mpr ⟨⟨(List.mem_of_getElem? (i := 45) rfl), good_of_word rfl⟩, List.forall_mem_cons.mpr ⟨⟨(List.mem_of_getElem? (i := 46) rfl), good_of_word rfl⟩, List.forall_mem_cons.mpr ⟨⟨(List.mem_of_getElem? (i := 47) rfl), good_of_word rfl⟩, List.forall_mem_cons.mpr ⟨⟨(List.mem_of_getElem? (i := 48) rfl), good_of_word rfl⟩, List.forall_mem_cons.mpr ⟨⟨(List.mem_of_getElem? (i := 49) rfl), good_of_word rfl⟩, List.forall_mem_cons.mpr ⟨⟨(List.mem_of_getElem? (i := 50) rfl), good_of_word rfl⟩, List.forall_mem_cons.mpr ⟨⟨(List.mem_of_getElem? (i := 51) rfl), good_of_word rfl⟩, List.forall_mem_cons.mpr ⟨⟨(List.mem_of_getElem? (i := 52) rfl), good_of_word rfl⟩, List.forall_mem_cons.mpr ⟨⟨(List.mem_of_getElem? (i := 53) rfl), good_of_word rfl⟩, List.forall_mem_cons.mpr ⟨⟨(List.mem_of_getElem? (i := 54) rfl), good_of_word rfl⟩, List.forall_mem_cons.mpr ⟨⟨(List.mem_of_getElem? (i := 55) rfl), good_of_word rfl⟩, List.forall_mem_cons.mpr ⟨⟨(List.mem_of_getElem? (i := 56) rfl), good_of_word rfl⟩, List.forall_mem_cons.mpr ⟨⟨(List.mem_of_getElem? (i := 57) rfl), good_of_word rfl⟩, List.forall_mem_cons.mpr ⟨⟨(List.mem_of_getElem? (i := 58) rfl), good_of_word rfl⟩, List.forall_mem_cons.mpr ⟨⟨(List.mem_of_getElem? (i := 59) rfl), good_of_word rfl⟩, List.forall_mem_cons.mpr ⟨⟨(List.mem_of_getElem? (i := 60) rfl), good_of_word rfl⟩, List.forall_mem_cons.mpr ⟨⟨(List.mem_of_getElem? (i := 61) rfl), good_of_word rfl⟩, List.forall_mem_cons.mpr ⟨⟨(List.mem_of_getElem? (i := 62) rfl), good_of_word rfl⟩, List.forall_mem_cons.mpr ⟨⟨(List.mem_of_getElem? (i := 63) rfl), good_of_word rfl⟩, List.forall_mem_cons.mpr ⟨⟨(List.mem_of_getElem? (i := 64) rfl), good_of_word rfl⟩, List.forall_mem_cons.mpr ⟨⟨(List.mem_of_getElem? (i := 65) rfl), good_of_word rfl⟩, List.forall_mem_cons.mpr ⟨⟨(List.mem_of_getElem? (i := 66) rfl), good_of_word rfl⟩, List.forall_mem_cons.mpr ⟨⟨(List.mem_of_getElem? (i := 67) rfl), good_of_word rfl⟩, List.forall_mem_cons.mpr ⟨⟨(List.mem_of_getElem? (i := 68) rfl), good_of_word rfl⟩, List.forall_mem_cons.mpr ⟨⟨(List.mem_of_getElem? (i := 69) rfl), good_of_word rfl⟩, List.forall_mem_cons.mpr ⟨⟨(List.mem_of_getElem? (i := 70) rfl), good_of_word rfl⟩, List.forall_mem_cons.mpr ⟨⟨(List.mem_of_getElem? (i := 71) rfl), good_of_word rfl⟩, List.forall_mem_cons.mpr ⟨⟨(List.mem_of_getElem? (i := 72) rfl), good_of_word rfl⟩, List.forall_mem_cons.mpr ⟨⟨(List.mem_of_getElem? (i := 73) rfl), good_of_word rfl⟩, List.forall_mem_cons.mpr ⟨⟨(List.mem_of_getElem? (i := 74) rfl), good_of_word rfl⟩, List.forall_mem_cons.mpr ⟨⟨(List.mem_of_getElem? (i := 75) rfl), good_of_word rfl⟩, List.forall_mem_cons.mpr ⟨⟨(List.mem_of_getElem? (i := 76) rfl), good_of_word rfl⟩, List.forall_mem_cons.mpr ⟨⟨(List.mem_of_getElem? (i := 77) rfl), good_of_word rfl⟩, List.forall_mem_cons.mpr ⟨⟨(List.mem_of_getElem? (i := 78) rfl), good_of_word rfl⟩, List.forall_mem_cons.mpr ⟨⟨(List.mem_of_getElem? (i := 79) rfl), good_of_word rfl⟩, (fun _ h => absurd h List.not_mem_nil)⟩⟩⟩⟩⟩⟩⟩⟩⟩⟩⟩⟩⟩⟩⟩⟩⟩⟩⟩⟩⟩⟩⟩⟩⟩⟩⟩⟩⟩⟩⟩⟩⟩⟩⟩⟩⟩⟩⟩⟩⟩⟩⟩⟩⟩⟩⟩⟩⟩⟩⟩⟩⟩⟩⟩⟩⟩⟩⟩⟩⟩⟩⟩⟩⟩⟩⟩⟩⟩⟩, fun w h => ⟨(fun w h => List.mem_cons_of_mem _ (List.mem_append_left _ (List.mem_append_left _ (List.mem_append_left _ (List.mem_append_left _ (List.mem_append_right _ h)))))) w h, good_of_word (List.all_eq_true.mp gw_X3 w h)⟩⟩, fun w h => ⟨(fun w h => List.mem_cons_of_mem _ (List.mem_append_left _ (List.mem_append_left _ (List.mem_append_left _ (List.mem_append_right _ h))))) w h, good_of_word (List.all_eq_true.mp gw_X7 w h)⟩⟩, fun w h => ⟨(fun w h => List.mem_cons_of_mem _ (List.mem_append_left _ (List.mem_append_left _ (List.mem_append_right _ h)))) w h, good_of_word (List.all_eq_true.mp gw_X9 w h)⟩⟩, fun w h => ⟨(fun w h => List.mem_cons_of_mem _ (List.mem_append_left _ (List.mem_append_right _ h))) w h, good_of_word (List.all_eq_true.mp gw_X10 w h)⟩⟩⟩
set_option maxRecDepth 20000 in
theorem gq_c_X11_teach_c_X3_mostByTeaching_241 : GoodIn wq_c_X11_teach (wsV RX11 241 RX3 yX3_mostByTeaching wq_c_X3_mostByTeaching) := goodIn_app (List.forall_mem_cons.mpr ⟨⟨(List.mem_of_getElem? (i := 7) rfl), good_of_word rfl⟩, List.forall_mem_cons.mpr ⟨⟨(List.mem_of_getElem? (i := 8) rfl), good_of_word rfl⟩, List.forall_mem_cons.mpr ⟨⟨(List.mem_of_getElem? (i := 9) rfl), good_of_word rfl⟩, List.forall_mem_cons.mpr ⟨⟨(List.mem_of_getElem? (i := 10) rfl), good_of_word rfl⟩, (fun _ h => absurd h List.not_mem_nil)⟩⟩⟩⟩) gr_c_X11_teach_c_X3_mostByTeaching
set_option maxRecDepth 20000 in
theorem gr_c_X11_teach_c_X11_layThere : GoodIn wq_c_X11_teach wq_c_X11_layThere := List.forall_mem_cons.mpr ⟨⟨(List.mem_of_getElem? (i := 86) rfl), good_of_word rfl⟩, List.forall_mem_append.mpr ⟨List.forall_mem_cons.mpr ⟨⟨(List.mem_of_getElem? (i := 87) rfl), good_of_word rfl⟩, List.forall_mem_cons.mpr ⟨⟨(List.mem_of_getElem? (i := 88) rfl), good_of_word rfl⟩, List.forall_mem_cons.mpr ⟨⟨(List.mem_of_getElem? (i := 89) rfl), good_of_word rfl⟩, List.forall_mem_cons.mpr ⟨⟨(List.mem_of_getElem? (i := 90) rfl), good_of_word rfl⟩, List.forall_mem_cons.mpr ⟨⟨(List.mem_of_getElem? (i := 91) rfl), good_of_word rfl⟩, List.forall_mem_cons.mpr ⟨⟨(List.mem_of_getElem? (i := 1) rfl), good_of_word rfl⟩, List.forall_mem_cons.mpr ⟨⟨(List.mem_of_getElem? (i := 92) rfl), good_of_word rfl⟩, List.forall_mem_cons.mpr ⟨⟨(List.mem_of_getElem? (i := 37) rfl), good_of_word rfl⟩, List.forall_mem_cons.mpr ⟨⟨(List.mem_of_getElem? (i := 38) rfl), good_of_word rfl⟩, List.forall_mem_cons.mpr ⟨⟨(List.mem_of_getElem? (i := 39) rfl), good_of_word rfl⟩, (fun _ h => absurd h List.not_mem_nil)⟩⟩⟩⟩⟩⟩⟩⟩⟩⟩, fun w h => ⟨(fun w h => List.mem_cons_of_mem _ (List.mem_append_right _ h)) w h, good_of_word (List.all_eq_true.mp gw_X11 w h)⟩⟩⟩
set_option maxRecDepth 20000 in
theorem gq_c_X11_teach_c_X11_layThere_224 : GoodIn wq_c_X11_teach (wsV RX11 224 RX11 yX11_layThere wq_c_X11_layThere) := goodIn_app (List.forall_mem_cons.mpr ⟨⟨(List.mem_of_getElem? (i := 83) rfl), good_of_word rfl⟩, List.forall_mem_cons.mpr ⟨⟨(List.mem_of_getElem? (i := 84) rfl), good_of_word rfl⟩, List.forall_mem_cons.mpr ⟨⟨(List.mem_of_getElem? (i := 85) rfl), good_of_word rfl⟩, List.forall_mem_cons.mpr ⟨⟨(List.mem_of_getElem? (i := 4) rfl), good_of_word rfl⟩, (fun _ h => absurd h List.not_mem_nil)⟩⟩⟩⟩) gr_c_X11_teach_c_X11_layThere
set_option maxHeartbeats 8000000 in
set_option maxRecDepth 100000 in
theorem c_X11_teach (l : Launch) (D : va_G) (cy : Nat → ClassId) (ad : Nat → Nat) (g : Nat → va_E) {f0 : List Value} {f1 : List Value} {f2 : List Value} {c3 : Nat → Int32} {c4 : Nat → Int32} {f5 : List Value} {c6 : Nat → Int32} {c7 : Nat → Int32} {f8 : List Value} {c9 : Nat → Int32} {c10 : Nat → Int32} {c11 : Nat → Int32} {c12 : Nat → Int32} {c13 : Nat → Int32} {c14 : Nat → Int32} {c15 : Nat → Int32} {c16 : Nat → Int32} {c17 : Nat → Int32} {c18 : Nat → Int32} {c19 : Nat → Int32} {n : Int32} (o0 : g 0 = .inr (11, f0)) (f0_3 : f0[3]? = some (.ref (ad 2))) (f0_10 : f0[10]? = some (.ref (ad 1))) (f0_12 : f0[12]? = some (.ref (ad 19))) (f0_13 : f0[13]? = some (.int 0)) (o1 : g 1 = .inr (3, f1)) (f1_0 : f1[0]? = some (.ref (ad 2))) (f1_1 : f1[1]? = some (.ref (ad 5))) (f1_3 : f1[3]? = some (.ref (ad 8))) (f1_4 : f1[4]? = some (.ref (ad 16))) (f1_5 : f1[5]? = some (.int 0)) (f1_6 : f1[6]? = some (.ref (ad 17))) (f1_8 : f1[8]? = some (.ref (ad 18))) (o2 : g 2 = .inr (7, f2)) (f2_5 : f2[5]? = some (.int 0)) (f2_9 : f2[9]? = some (.ref (ad 3))) (f2_10 : f2[10]? = some (.ref (ad 4))) (f2_11 : f2[11]? = some (.int 0)) (a3 : g 3 = .inl (cy 0, 20, .inl c3)) (a4 : g 4 = .inl (cy 0, 4, .inl c4)) (o5 : g 5 = .inr (9, f5)) (f5_0 : f5[0]? = some (.ref (ad 6))) (f5_3 : f5[3]? = some (.ref (ad 7))) (f5_4 : f5[4]? = some (.int 0)) (a6 : g 6 = .inl (cy 0, 24, .inl c6)) (a7 : g 7 = .inl (cy 0, 5, .inl c7)) (o8 : g 8 = .inr (10, f8)) (f8_0 : f8[0]? = some (.ref (ad 2))) (f8_1 : f8[1]? = some (.ref (ad 9))) (f8_2 : f8[2]? = some (.ref (ad 10))) (f8_3 : f8[3]? = some (.ref (ad 11))) (f8_4 : f8[4]? = some (.ref (ad 12))) (f8_5 : f8[5]? = some (.ref (ad 13))) (f8_6 : f8[6]? = some (.ref (ad 14))) (f8_7 : f8[7]? = some (.ref (ad 15))) (a9 : g 9 = .inl (cy 0, 5, .inl c9)) (a10 : g 10 = .inl (cy 0, 20, .inl c10)) (a11 : g 11 = .inl (cy 0, 4, .inl c11)) (a12 : g 12 = .inl (cy 0, 5, .inl c12)) (a13 : g 13 = .inl (cy 0, 5, .inl c13)) (a14 : g 14 = .inl (cy 0, 5, .inl c14)) (a15 : g 15 = .inl (cy 0, 5, .inl c15)) (a16 : g 16 = .inl (cy 0, 24, .inl c16)) (a17 : g 17 = .inl (cy 0, 5, .inl c17)) (a18 : g 18 = .inl (cy 0, 5, .inl c18)) (a19 : g 19 = .inl (cy 0, 24, .inl c19)) : cMi l yX11_teach wq_c_X11_teach { frames := 5, cells := 0, slots := 0, locals := 125 } 20 0 0 0 D cy ad g [.ref (ad 0), .int n] (fun r nw lu => r = ans_teach n) := by
  refine cM_of (Qc := fun A => cQi (fun r nw lu => r = ans_teach n) D 20 0 ad g A) (cc := cX11_teach) (maxL := 3) (ret := (some .int)) (by decide) rfl (Nat.le_of_ble_eq_true rfl) ?_
  intro p e s m below meth c A hC hr hlk hnm hO ls hl
  have hC : CallFix p m c cX11_teach 3 s [.ref (ad 0), .int n].toArray wq_c_X11_teach RX11 := hC
  obtain ⟨hx, hb, hml, hown, hts⟩ := id hC
  have hl : lv_has ls 3 [(0, .ref (ad 0)), (1, .int n)] := hl
  have i_X10 : ∀ w ∈ wsX100, w ∈ wq_c_X11_teach := fun w h => List.mem_cons_of_mem _ (List.mem_append_left _ (List.mem_append_right _ h))
  have i_X11 : ∀ w ∈ wsX110, w ∈ wq_c_X11_teach := fun w h => List.mem_cons_of_mem _ (List.mem_append_right _ h)
  have i_X3 : ∀ w ∈ wsX30, w ∈ wq_c_X11_teach := fun w h => List.mem_cons_of_mem _ (List.mem_append_left _ (List.mem_append_left _ (List.mem_append_left _ (List.mem_append_left _ (List.mem_append_right _ h)))))
  have i_X7 : ∀ w ∈ wsX70, w ∈ wq_c_X11_teach := fun w h => List.mem_cons_of_mem _ (List.mem_append_left _ (List.mem_append_left _ (List.mem_append_left _ (List.mem_append_right _ h))))
  have i_X9 : ∀ w ∈ wsX90, w ∈ wq_c_X11_teach := fun w h => List.mem_cons_of_mem _ (List.mem_append_left _ (List.mem_append_left _ (List.mem_append_right _ h)))
  refine lv_aload_n hx hb dX11_teach_0 rfl (lv_at hl 0 rfl) ?_
  refine lv_iconst (v := 0) hx hb dX11_teach_1 (by decide) ?_
  refine cg_put hC hO 0 (by decide) o0 rfl i_X11 tyX11_ok nmX11 13 (by decide) (List.mem_of_getElem? (i := 1) rfl) rfl rfl rfl (fs_lt f0_13) dX11_teach_2 (fun H locs hO => ?_)
  have hO : cO D cy A s.heap s 20 ad (cup [(0, .inr (11, (f0.set 13 (.int 0))))] g) _ _ := hO
  refine lv_iload_n hx hb dX11_teach_5 rfl (lv_at hl 1 rfl) ?_
  refine lv_iconst (v := 0) hx hb dX11_teach_6 (by decide) ?_
  refine lv_iconst (v := 3) hx hb dX11_teach_7 (by decide) ?_
  refine cg_Si (As := [.int n, .int 0, .int 3]) (rest := []) (mc := 0) (ms := 0) (rm := { frames := 0, cells := 0, slots := 0, locals := 0 }) hC hl.1 hO [] rfl (c_X11_within l D cy _ _ (x := n) (y := 0) (z := 3) ) gq_c_X11_teach_c_X11_within_107 rfl rfl rfl 3 (by decide +kernel) ⟨Nat.le_of_ble_eq_true rfl, Nat.le_of_ble_eq_true rfl⟩ rfl rfl (Nat.le_of_ble_eq_true rfl) dX11_teach_8 ⟨Nat.le_of_ble_eq_true rfl, Nat.le_of_ble_eq_true rfl⟩ (fun r_8_3 nw_8_1 l_8_2 H locs hw hO => ?_)
  rcases hw with hw | hw
  · obtain ⟨hr_8_4, rfl, rfl⟩ := hw
    have hO : cO D cy A s.heap s 20 ad (cup [(0, .inr (11, (f0.set 13 (.int 0))))] g) _ _ := hO
    refine lv_if_ne (tgt := 16) hx hb dX11_teach_11 (by decide) (fun _ => ?_) (fun h => absurd h (by decide))
    refine lv_aload_n hx hb dX11_teach_16 rfl (lv_at hl 0 rfl) ?_
    refine cg_get hC hO 0 (by decide) rfl rfl i_X11 10 (by decide) (List.mem_of_getElem? (i := 6) rfl) (fs_ne (by decide) f0_10) dX11_teach_17 ?_
    refine lv_iload_n hx hb dX11_teach_20 rfl (lv_at hl 1 rfl) ?_
    refine cg_Vi (As := [.int n]) (rest := []) (mc := 0) (ms := 0) (rm := { frames := 4, cells := 0, slots := 0, locals := 101 }) hC hl.1 hO [1, 5, 6, 7, 8, 2, 3, 4, 9, 10, 11, 12, 13, 14, 15, 16, 17, 18] rfl (c_X3_mostByTeaching l D cy _ _ (f0 := f1) (f5 := f2) (c6 := c3) (c7 := c4) (f1 := f5) (c2 := c6) (c3 := c7) (f4 := f8) (c8 := c9) (c9 := c10) (c10 := c11) (c11 := c12) (c12 := c13) (c13 := c14) (c14 := c15) (c15 := c16) (c16 := c17) (c17 := c18) (n := n) o1 f1_0 f1_1 f1_3 f1_4 f1_5 f1_6 f1_8 o5 f5_0 f5_3 f5_4 a6 a7 o8 f8_0 f8_1 f8_2 f8_3 f8_4 f8_5 f8_6 f8_7 o2 f2_5 f2_9 f2_10 f2_11 a3 a4 a9 a10 a11 a12 a13 a14 a15 a16 a17 a18) gq_c_X11_teach_c_X3_mostByTeaching_241 rfl rfl rfl 1 (by decide +kernel) ⟨Nat.le_of_ble_eq_true rfl, Nat.le_of_ble_eq_true rfl⟩ rfl (by decide) o1 rfl rfl (Nat.le_of_ble_eq_true rfl) dX11_teach_21 ⟨Nat.le_of_ble_eq_true rfl, Nat.le_of_ble_eq_true rfl⟩ (fun r_21_7 nw_21_5 l_21_6 H locs hw hO => ?_)
    rcases hw with hw | hw
    · obtain ⟨c2_21_8, c5_21_9, c7_21_10, cz_21_11, cz_21_12, cz_21_13, cz_21_14, h_21_15, rfl, rfl⟩ := hw
      have hO : cO D cy A s.heap s 20 ad (cup [(0, .inr (11, (f0.set 13 (.int 0)))), (1, .inr (3, (f1.set 5 (.int 0)))), (12, .inl (cy 0, 5, .inl cz_21_11)), (13, .inl (cy 0, 5, .inl cz_21_12)), (14, .inl (cy 0, 5, .inl cz_21_13)), (15, .inl (cy 0, 5, .inl cz_21_14)), (11, .inl (cy 0, 4, .inl c7_21_10)), (10, .inl (cy 0, 20, .inl c5_21_9)), (9, .inl (cy 0, 5, .inl c2_21_8))] g) _ _ := hO
      refine lv_istore_n (lv' := [(2, .int (-1)), (0, .ref (ad 0)), (1, .int n)]) hx hb dX11_teach_24 rfl hl (by decide) rfl (fun ls hl => ?_)
      refine lv_iload_n hx hb dX11_teach_25 rfl (lv_at hl 0 rfl) ?_
      refine lv_iconst (v := (-1)) hx hb dX11_teach_26 (by decide) ?_
      refine lv_icmp_eq (tgt := 48) hx hb dX11_teach_27 (by decide) (fun _ => ?_) (fun h => absurd h (by decide))
      refine lv_iload_n hx hb dX11_teach_48 rfl (lv_at hl 0 rfl) ?_
      exact cg_iret (nw := fun _ => 0) hC hr hlk hO.same rfl (Nat.le_of_ble_eq_true rfl) (Nat.le_of_ble_eq_true rfl) ((if_neg (fun z => h_21_15 z.symm)).symm) dX11_teach_49
    · obtain ⟨c2_21_16, c5_21_17, c7_21_18, cz_21_19, cz_21_20, cz_21_21, cz_21_22, c2_21_23, h_21_24, rfl, rfl⟩ := hw
      have hO : cO D cy A s.heap s 20 ad (cup [(0, .inr (11, (f0.set 13 (.int 0)))), (18, .inl (cy 0, 5, .inl c2_21_23)), (1, .inr (3, (f1.set 5 (.int 0)))), (12, .inl (cy 0, 5, .inl cz_21_19)), (13, .inl (cy 0, 5, .inl cz_21_20)), (14, .inl (cy 0, 5, .inl cz_21_21)), (15, .inl (cy 0, 5, .inl cz_21_22)), (11, .inl (cy 0, 4, .inl c7_21_18)), (10, .inl (cy 0, 20, .inl c5_21_17)), (9, .inl (cy 0, 5, .inl c2_21_16))] g) _ _ := hO
      refine lv_istore_n (lv' := [(2, .int 0), (0, .ref (ad 0)), (1, .int n)]) hx hb dX11_teach_24 rfl hl (by decide) rfl (fun ls hl => ?_)
      refine lv_iload_n hx hb dX11_teach_25 rfl (lv_at hl 0 rfl) ?_
      refine lv_iconst (v := (-1)) hx hb dX11_teach_26 (by decide) ?_
      refine lv_icmp_eq (tgt := 48) hx hb dX11_teach_27 (by decide) (fun h => absurd h (by decide)) (fun _ => ?_)
      refine lv_aload_n hx hb dX11_teach_30 rfl (lv_at hl 1 rfl) ?_
      refine lv_aload_n hx hb dX11_teach_31 rfl (lv_at hl 1 rfl) ?_
      refine cg_get hC hO 0 (by decide) rfl rfl i_X11 10 (by decide) (List.mem_of_getElem? (i := 6) rfl) (fs_ne (by decide) f0_10) dX11_teach_32 ?_
      refine cg_get hC hO 1 (by decide) rfl rfl i_X3 8 (by decide) (List.mem_of_getElem? (i := 80) rfl) (fs_ne (by decide) f1_8) dX11_teach_35 ?_
      refine lv_aload_n hx hb dX11_teach_38 rfl (lv_at hl 1 rfl) ?_
      refine cg_get hC hO 0 (by decide) rfl rfl i_X11 3 (by decide) (List.mem_of_getElem? (i := 81) rfl) (fs_ne (by decide) f0_3) dX11_teach_39 ?_
      refine cg_get hC hO 2 (by decide) o2 rfl i_X7 5 (by decide) (List.mem_of_getElem? (i := 82) rfl) f2_5 dX11_teach_42 ?_
      refine cg_Vv (As := [.ref (ad 18), .int 0]) (rest := []) (mc := 0) (ms := 0) (rm := { frames := 1, cells := 0, slots := 0, locals := 60 }) hC hl.1 hO [0, 19, 18] rfl (c_X11_layThere l D cy _ _ (f0 := (f0.set 13 (.int 0))) (c1 := c19) (x := 0) (q := 5) (c2 := c2_21_23) (n := 0) rfl (fs_ne (by decide) f0_12) (fs_eq f0_13) a19 rfl (by omega) (by omega)) gq_c_X11_teach_c_X11_layThere_224 rfl rfl rfl 2 (by decide +kernel) ⟨Nat.le_of_ble_eq_true rfl, Nat.le_of_ble_eq_true rfl⟩ rfl (by decide) rfl rfl rfl (Nat.le_of_ble_eq_true rfl) dX11_teach_45 ⟨Nat.le_of_ble_eq_true rfl, Nat.le_of_ble_eq_true rfl⟩ (fun nw_45_25 l_45_26 H locs hw hO => ?_)
      obtain ⟨c1_45_28, rfl⟩ := hw
      have hO : cO D cy A s.heap s 20 ad (cup [(0, .inr (11, ((f0.set 13 (.int 0)).set 13 (.int 0)))), (18, .inl (cy 0, 5, .inl c2_21_23)), (1, .inr (3, (f1.set 5 (.int 0)))), (12, .inl (cy 0, 5, .inl cz_21_19)), (13, .inl (cy 0, 5, .inl cz_21_20)), (14, .inl (cy 0, 5, .inl cz_21_21)), (15, .inl (cy 0, 5, .inl cz_21_22)), (11, .inl (cy 0, 4, .inl c7_21_18)), (10, .inl (cy 0, 20, .inl c5_21_17)), (9, .inl (cy 0, 5, .inl c2_21_16)), (19, .inl (cy 0, 24, .inl c1_45_28))] g) _ _ := hO
      refine lv_iload_n hx hb dX11_teach_48 rfl (lv_at hl 0 rfl) ?_
      exact cg_iret (nw := fun _ => 0) hC hr hlk hO.same rfl (Nat.le_of_ble_eq_true rfl) (Nat.le_of_ble_eq_true rfl) ((if_pos h_21_24.symm).symm) dX11_teach_49
  · obtain ⟨hr_8_29, rfl, rfl⟩ := hw
    have hO : cO D cy A s.heap s 20 ad (cup [(0, .inr (11, (f0.set 13 (.int 0))))] g) _ _ := hO
    refine lv_if_ne (tgt := 16) hx hb dX11_teach_11 (by decide) (fun h => absurd h (by decide)) (fun _ => ?_)
    refine lv_iconst (v := (-1)) hx hb dX11_teach_14 (by decide) ?_
    exact cg_iret (nw := fun _ => 0) hC hr hlk hO.same rfl (Nat.le_of_ble_eq_true rfl) (Nat.le_of_ble_eq_true rfl) ((if_neg (fun z => hr_8_29 (by rw [z]; decide))).symm) dX11_teach_15

theorem dX8_asSeen_0 : decode cX8_asSeen 0 = .ok (.iconst 0, 1) := by decide +kernel
theorem dX8_asSeen_1 : decode cX8_asSeen 1 = .ok (.istore_n 2, 1) := by decide +kernel
theorem dX8_asSeen_2 : decode cX8_asSeen 2 = .ok (.iload_n 2, 1) := by decide +kernel
theorem dX8_asSeen_3 : decode cX8_asSeen 3 = .ok (.aload_n 0, 1) := by decide +kernel
theorem dX8_asSeen_4 : decode cX8_asSeen 4 = .ok (.getfield 49, 3) := by decide +kernel
theorem dX8_asSeen_7 : decode cX8_asSeen 7 = .ok (.if_icmp .ge 44, 3) := by decide +kernel
theorem dX8_asSeen_51 : decode cX8_asSeen 51 = .ok (.iconst 1, 1) := by decide +kernel
theorem dX8_asSeen_52 : decode cX8_asSeen 52 = .ok (.ireturn, 1) := by decide +kernel
def wq_c_X8_asSeen : List Cond := Cond.code yX8_asSeen cX8_asSeen 3 (some .boolean) :: (([Cond.fieldLink RX8 49 "CrowToll$Sights" "size" "I"] : List Cond) ++ wsX80)
set_option maxHeartbeats 8000000 in
set_option maxRecDepth 100000 in
theorem c_X8_asSeen (l : Launch) (D : va_G) (cy : Nat → ClassId) (ad : Nat → Nat) (g : Nat → va_E) {f0 : List Value} (o0 : g 0 = .inr (8, f0)) (f0_7 : f0[7]? = some (.int 0)) : cMi l yX8_asSeen wq_c_X8_asSeen { frames := 0, cells := 0, slots := 0, locals := 0 } 1 0 0 0 D cy ad g [.ref (ad 0), .int 0] (fun r nw lu => (r = 1) ∧ (lu = [])) := by
  refine cM_of (Qc := fun A => cQi (fun r nw lu => (r = 1) ∧ (lu = [])) D 1 0 ad g A) (cc := cX8_asSeen) (maxL := 3) (ret := (some .boolean)) (by decide) rfl (Nat.le_of_ble_eq_true rfl) ?_
  intro p e s m below meth c A hC hr hlk hnm hO ls hl
  have hC : CallFix p m c cX8_asSeen 3 s [.ref (ad 0), .int 0].toArray wq_c_X8_asSeen RX8 := hC
  obtain ⟨hx, hb, hml, hown, hts⟩ := id hC
  have hl : lv_has ls 3 [(0, .ref (ad 0)), (1, .int 0)] := hl
  have i_X8 : ∀ w ∈ wsX80, w ∈ wq_c_X8_asSeen := fun w h => List.mem_cons_of_mem _ (List.mem_append_right _ h)
  refine lv_iconst (v := 0) hx hb dX8_asSeen_0 (by decide) ?_
  refine lv_istore_n (lv' := [(2, .int 0), (0, .ref (ad 0)), (1, .int 0)]) hx hb dX8_asSeen_1 rfl hl (by decide) rfl (fun ls hl => ?_)
  refine lv_iload_n hx hb dX8_asSeen_2 rfl (lv_at hl 0 rfl) ?_
  refine lv_aload_n hx hb dX8_asSeen_3 rfl (lv_at hl 1 rfl) ?_
  refine cg_get hC hO 0 (by decide) o0 rfl i_X8 7 (by decide) (List.mem_of_getElem? (i := 1) rfl) f0_7 dX8_asSeen_4 ?_
  refine lv_icmp_ge (tgt := 51) hx hb dX8_asSeen_7 (by decide) (fun _ => ?_) (fun h => absurd h (by decide))
  refine lv_iconst (v := 1) hx hb dX8_asSeen_51 (by decide) ?_
  exact cg_iret (nw := fun _ => 0) hC hr hlk hO.same rfl (Nat.le_of_ble_eq_true rfl) (Nat.le_of_ble_eq_true rfl) (⟨rfl, rfl⟩) dX8_asSeen_52

theorem dX8_goOn_0 : decode cX8_goOn 0 = .ok (.aload_n 0, 1) := by decide +kernel
theorem dX8_goOn_1 : decode cX8_goOn 1 = .ok (.iload_n 1, 1) := by decide +kernel
theorem dX8_goOn_2 : decode cX8_goOn 2 = .ok (.invokevirtual 103, 3) := by decide +kernel
theorem dX8_goOn_5 : decode cX8_goOn 5 = .ok (.ifCond .ne 4, 3) := by decide +kernel
theorem dX8_goOn_9 : decode cX8_goOn 9 = .ok (.iload_n 1, 1) := by decide +kernel
theorem dX8_goOn_10 : decode cX8_goOn 10 = .ok (.aload_n 0, 1) := by decide +kernel
theorem dX8_goOn_11 : decode cX8_goOn 11 = .ok (.getfield 38, 3) := by decide +kernel
theorem dX8_goOn_14 : decode cX8_goOn 14 = .ok (.getfield 60, 3) := by decide +kernel
theorem dX8_goOn_17 : decode cX8_goOn 17 = .ok (.if_icmp .lt 34, 3) := by decide +kernel
theorem dX8_goOn_20 : decode cX8_goOn 20 = .ok (.aload_n 0, 1) := by decide +kernel
theorem dX8_goOn_21 : decode cX8_goOn 21 = .ok (.dup, 1) := by decide +kernel
theorem dX8_goOn_22 : decode cX8_goOn 22 = .ok (.getfield 84, 3) := by decide +kernel
theorem dX8_goOn_25 : decode cX8_goOn 25 = .ok (.iconst 1, 1) := by decide +kernel
theorem dX8_goOn_26 : decode cX8_goOn 26 = .ok (.iadd, 1) := by decide +kernel
theorem dX8_goOn_27 : decode cX8_goOn 27 = .ok (.putfield 84, 3) := by decide +kernel
theorem dX8_goOn_30 : decode cX8_goOn 30 = .ok (.aload_n 0, 1) := by decide +kernel
theorem dX8_goOn_31 : decode cX8_goOn 31 = .ok (.dup, 1) := by decide +kernel
theorem dX8_goOn_32 : decode cX8_goOn 32 = .ok (.getfield 87, 3) := by decide +kernel
theorem dX8_goOn_35 : decode cX8_goOn 35 = .ok (.iload_n 2, 1) := by decide +kernel
theorem dX8_goOn_36 : decode cX8_goOn 36 = .ok (.iand, 1) := by decide +kernel
theorem dX8_goOn_37 : decode cX8_goOn 37 = .ok (.putfield 87, 3) := by decide +kernel
theorem dX8_goOn_40 : decode cX8_goOn 40 = .ok (.aload_n 0, 1) := by decide +kernel
theorem dX8_goOn_41 : decode cX8_goOn 41 = .ok (.dup, 1) := by decide +kernel
theorem dX8_goOn_42 : decode cX8_goOn 42 = .ok (.getfield 90, 3) := by decide +kernel
theorem dX8_goOn_45 : decode cX8_goOn 45 = .ok (.iload_n 2, 1) := by decide +kernel
theorem dX8_goOn_46 : decode cX8_goOn 46 = .ok (.ior, 1) := by decide +kernel
theorem dX8_goOn_47 : decode cX8_goOn 47 = .ok (.putfield 90, 3) := by decide +kernel
theorem dX8_goOn_50 : decode cX8_goOn 50 = .ok (.return_, 1) := by decide +kernel
def wq_c_X8_goOn : List Cond := Cond.code yX8_goOn cX8_goOn 4 none :: (([Cond.methodLink RX8 103 yX8_asSeen, Cond.instanceMethod yX8_asSeen, Cond.selects RX8 yX8_asSeen yX8_asSeen, Cond.initialized RX8, Cond.code yX8_asSeen cX8_asSeen 3 (some .boolean), Cond.fieldLink RX8 49 "CrowToll$Sights" "size" "I", Cond.fieldLink RX8 38 "CrowToll$Sights" "road" "LCrowToll$Road;", Cond.fieldLink RX8 60 "CrowToll$Road" "carts" "I", Cond.fieldLink RX8 84 "CrowToll$Sights" "sets" "I", Cond.fieldLink RX8 87 "CrowToll$Sights" "inAll" "I", Cond.fieldLink RX8 90 "CrowToll$Sights" "inSome" "I"] : List Cond) ++ wsX70 ++ wsX80)
set_option maxRecDepth 20000 in
theorem gr_c_X8_goOn_c_X8_asSeen : GoodIn wq_c_X8_goOn wq_c_X8_asSeen := List.forall_mem_cons.mpr ⟨⟨(List.mem_of_getElem? (i := 5) rfl), good_of_word rfl⟩, List.forall_mem_append.mpr ⟨List.forall_mem_cons.mpr ⟨⟨(List.mem_of_getElem? (i := 6) rfl), good_of_word rfl⟩, (fun _ h => absurd h List.not_mem_nil)⟩, fun w h => ⟨(fun w h => List.mem_cons_of_mem _ (List.mem_append_right _ h)) w h, good_of_word (List.all_eq_true.mp gw_X8 w h)⟩⟩⟩
set_option maxRecDepth 20000 in
theorem gq_c_X8_goOn_c_X8_asSeen_103 : GoodIn wq_c_X8_goOn (wsV RX8 103 RX8 yX8_asSeen wq_c_X8_asSeen) := goodIn_app (List.forall_mem_cons.mpr ⟨⟨(List.mem_of_getElem? (i := 1) rfl), good_of_word rfl⟩, List.forall_mem_cons.mpr ⟨⟨(List.mem_of_getElem? (i := 2) rfl), good_of_word rfl⟩, List.forall_mem_cons.mpr ⟨⟨(List.mem_of_getElem? (i := 3) rfl), good_of_word rfl⟩, List.forall_mem_cons.mpr ⟨⟨(List.mem_of_getElem? (i := 4) rfl), good_of_word rfl⟩, (fun _ h => absurd h List.not_mem_nil)⟩⟩⟩⟩) gr_c_X8_goOn_c_X8_asSeen
set_option maxHeartbeats 8000000 in
set_option maxRecDepth 100000 in
theorem c_X8_goOn (l : Launch) (D : va_G) (cy : Nat → ClassId) (ad : Nat → Nat) (g : Nat → va_E) {f0 : List Value} {f1 : List Value} (o0 : g 0 = .inr (8, f0)) (f0_0 : f0[0]? = some (.ref (ad 1))) (f0_7 : f0[7]? = some (.int 0)) (f0_13 : f0[13]? = some (.int 0)) (f0_14 : f0[14]? = some (.int (-1))) (f0_15 : f0[15]? = some (.int 0)) (o1 : g 1 = .inr (7, f1)) (f1_16 : f1[16]? = some (.int 0)) : cMv l yX8_goOn wq_c_X8_goOn { frames := 1, cells := 0, slots := 0, locals := 22 } 2 0 0 0 D cy ad g [.ref (ad 0), .int 0, .int 0] (fun nw lu => lu = [(0, .inr (8, (((f0.set 13 (.int 1)).set 14 (.int 0)).set 15 (.int 0))))]) := by
  refine cM_of (Qc := fun A => cQv (fun nw lu => lu = [(0, .inr (8, (((f0.set 13 (.int 1)).set 14 (.int 0)).set 15 (.int 0))))]) D 2 0 ad g A) (cc := cX8_goOn) (maxL := 4) (ret := none) (by decide) rfl (Nat.le_of_ble_eq_true rfl) ?_
  intro p e s m below meth c A hC hr hlk hnm hO ls hl
  have hC : CallFix p m c cX8_goOn 4 s [.ref (ad 0), .int 0, .int 0].toArray wq_c_X8_goOn RX8 := hC
  obtain ⟨hx, hb, hml, hown, hts⟩ := id hC
  have hl : lv_has ls 4 [(0, .ref (ad 0)), (1, .int 0), (2, .int 0)] := hl
  have i_X7 : ∀ w ∈ wsX70, w ∈ wq_c_X8_goOn := fun w h => List.mem_cons_of_mem _ (List.mem_append_left _ (List.mem_append_right _ h))
  have i_X8 : ∀ w ∈ wsX80, w ∈ wq_c_X8_goOn := fun w h => List.mem_cons_of_mem _ (List.mem_append_right _ h)
  refine lv_aload_n hx hb dX8_goOn_0 rfl (lv_at hl 0 rfl) ?_
  refine lv_iload_n hx hb dX8_goOn_1 rfl (lv_at hl 1 rfl) ?_
  refine cg_Vi (As := [.int 0]) (rest := []) (mc := 0) (ms := 0) (rm := { frames := 0, cells := 0, slots := 0, locals := 0 }) hC hl.1 hO [0] rfl (c_X8_asSeen l D cy _ _ (f0 := f0) o0 f0_7) gq_c_X8_goOn_c_X8_asSeen_103 rfl rfl rfl 1 (by decide +kernel) ⟨Nat.le_of_ble_eq_true rfl, Nat.le_of_ble_eq_true rfl⟩ rfl (by decide) o0 rfl rfl (Nat.le_of_ble_eq_true rfl) dX8_goOn_2 ⟨Nat.le_of_ble_eq_true rfl, Nat.le_of_ble_eq_true rfl⟩ (fun r_2_3 nw_2_1 l_2_2 H locs hw hO => ?_)
  obtain ⟨rfl, rfl⟩ := hw
  have hO : cO D cy A s.heap s 2 ad (cup [] g) _ _ := hO
  refine lv_if_ne (tgt := 9) hx hb dX8_goOn_5 (by decide) (fun _ => ?_) (fun h => absurd h (by decide))
  refine lv_iload_n hx hb dX8_goOn_9 rfl (lv_at hl 1 rfl) ?_
  refine lv_aload_n hx hb dX8_goOn_10 rfl (lv_at hl 0 rfl) ?_
  refine cg_get hC hO 0 (by decide) o0 rfl i_X8 0 (by decide) (List.mem_of_getElem? (i := 7) rfl) f0_0 dX8_goOn_11 ?_
  refine cg_get hC hO 1 (by decide) o1 rfl i_X7 16 (by decide) (List.mem_of_getElem? (i := 8) rfl) f1_16 dX8_goOn_14 ?_
  refine lv_icmp_lt (tgt := 51) hx hb dX8_goOn_17 (by decide) (fun h => absurd h (by decide)) (fun _ => ?_)
  refine lv_aload_n hx hb dX8_goOn_20 rfl (lv_at hl 0 rfl) ?_
  refine lv_dup hx hb dX8_goOn_21 rfl ?_
  refine cg_get hC hO 0 (by decide) o0 rfl i_X8 13 (by decide) (List.mem_of_getElem? (i := 9) rfl) f0_13 dX8_goOn_22 ?_
  refine lv_iconst (v := 1) hx hb dX8_goOn_25 (by decide) ?_
  refine lv_iadd hx hb dX8_goOn_26 ?_
  refine cg_ev (v := 1) (by decide) ?_
  refine cg_put hC hO 0 (by decide) o0 rfl i_X8 tyX8_ok nmX8 13 (by decide) (List.mem_of_getElem? (i := 9) rfl) rfl rfl rfl (fs_lt f0_13) dX8_goOn_27 (fun H locs hO => ?_)
  have hO : cO D cy A s.heap s 2 ad (cup [(0, .inr (8, (f0.set 13 (.int 1))))] g) _ _ := hO
  refine lv_aload_n hx hb dX8_goOn_30 rfl (lv_at hl 0 rfl) ?_
  refine lv_dup hx hb dX8_goOn_31 rfl ?_
  refine cg_get hC hO 0 (by decide) rfl rfl i_X8 14 (by decide) (List.mem_of_getElem? (i := 10) rfl) (fs_ne (by decide) f0_14) dX8_goOn_32 ?_
  refine lv_iload_n hx hb dX8_goOn_35 rfl (lv_at hl 2 rfl) ?_
  refine lv_iand hx hb dX8_goOn_36 ?_
  refine cg_ev (v := 0) (by decide) ?_
  refine cg_put hC hO 0 (by decide) rfl rfl i_X8 tyX8_ok nmX8 14 (by decide) (List.mem_of_getElem? (i := 10) rfl) rfl rfl rfl (fs_lt (fs_ne (by decide) f0_14)) dX8_goOn_37 (fun H locs hO => ?_)
  have hO : cO D cy A s.heap s 2 ad (cup [(0, .inr (8, ((f0.set 13 (.int 1)).set 14 (.int 0))))] g) _ _ := hO
  refine lv_aload_n hx hb dX8_goOn_40 rfl (lv_at hl 0 rfl) ?_
  refine lv_dup hx hb dX8_goOn_41 rfl ?_
  refine cg_get hC hO 0 (by decide) rfl rfl i_X8 15 (by decide) (List.mem_of_getElem? (i := 11) rfl) (fs_ne (by decide) (fs_ne (by decide) f0_15)) dX8_goOn_42 ?_
  refine lv_iload_n hx hb dX8_goOn_45 rfl (lv_at hl 2 rfl) ?_
  refine lv_ior hx hb dX8_goOn_46 ?_
  refine cg_ev (v := 0) (by decide) ?_
  refine cg_put hC hO 0 (by decide) rfl rfl i_X8 tyX8_ok nmX8 15 (by decide) (List.mem_of_getElem? (i := 11) rfl) rfl rfl rfl (fs_lt (fs_ne (by decide) (fs_ne (by decide) f0_15))) dX8_goOn_47 (fun H locs hO => ?_)
  have hO : cO D cy A s.heap s 2 ad (cup [(0, .inr (8, (((f0.set 13 (.int 1)).set 14 (.int 0)).set 15 (.int 0))))] g) _ _ := hO
  exact cg_vret (nw := fun _ => 0) hC hr hlk hO.same (Nat.le_of_ble_eq_true rfl) (Nat.le_of_ble_eq_true rfl) rfl dX8_goOn_50

theorem dX8_findSets_0 : decode cX8_findSets 0 = .ok (.iconst 0, 1) := by decide +kernel
theorem dX8_findSets_1 : decode cX8_findSets 1 = .ok (.istore_n 2, 1) := by decide +kernel
theorem dX8_findSets_2 : decode cX8_findSets 2 = .ok (.iload_n 2, 1) := by decide +kernel
theorem dX8_findSets_3 : decode cX8_findSets 3 = .ok (.aload_n 0, 1) := by decide +kernel
theorem dX8_findSets_4 : decode cX8_findSets 4 = .ok (.getfield 38, 3) := by decide +kernel
theorem dX8_findSets_7 : decode cX8_findSets 7 = .ok (.getfield 60, 3) := by decide +kernel
theorem dX8_findSets_10 : decode cX8_findSets 10 = .ok (.if_icmp .ge 16, 3) := by decide +kernel
theorem dX8_findSets_26 : decode cX8_findSets 26 = .ok (.aload_n 0, 1) := by decide +kernel
theorem dX8_findSets_27 : decode cX8_findSets 27 = .ok (.getfield 27, 3) := by decide +kernel
theorem dX8_findSets_30 : decode cX8_findSets 30 = .ok (.aload_n 0, 1) := by decide +kernel
theorem dX8_findSets_31 : decode cX8_findSets 31 = .ok (.getfield 38, 3) := by decide +kernel
theorem dX8_findSets_34 : decode cX8_findSets 34 = .ok (.getfield 60, 3) := by decide +kernel
theorem dX8_findSets_37 : decode cX8_findSets 37 = .ok (.aload_n 0, 1) := by decide +kernel
theorem dX8_findSets_38 : decode cX8_findSets 38 = .ok (.getfield 38, 3) := by decide +kernel
theorem dX8_findSets_41 : decode cX8_findSets 41 = .ok (.getfield 65, 3) := by decide +kernel
theorem dX8_findSets_44 : decode cX8_findSets 44 = .ok (.invokestatic 66, 3) := by decide +kernel
theorem dX8_findSets_47 : decode cX8_findSets 47 = .ok (.aload_n 0, 1) := by decide +kernel
theorem dX8_findSets_48 : decode cX8_findSets 48 = .ok (.iconst 0, 1) := by decide +kernel
theorem dX8_findSets_49 : decode cX8_findSets 49 = .ok (.putfield 70, 3) := by decide +kernel
theorem dX8_findSets_52 : decode cX8_findSets 52 = .ok (.iconst 0, 1) := by decide +kernel
theorem dX8_findSets_53 : decode cX8_findSets 53 = .ok (.istore_n 2, 1) := by decide +kernel
theorem dX8_findSets_54 : decode cX8_findSets 54 = .ok (.iload_n 2, 1) := by decide +kernel
theorem dX8_findSets_55 : decode cX8_findSets 55 = .ok (.aload_n 0, 1) := by decide +kernel
theorem dX8_findSets_56 : decode cX8_findSets 56 = .ok (.getfield 49, 3) := by decide +kernel
theorem dX8_findSets_59 : decode cX8_findSets 59 = .ok (.if_icmp .ge 64, 3) := by decide +kernel
theorem dX8_findSets_123 : decode cX8_findSets 123 = .ok (.aload_n 0, 1) := by decide +kernel
theorem dX8_findSets_124 : decode cX8_findSets 124 = .ok (.getfield 45, 3) := by decide +kernel
theorem dX8_findSets_127 : decode cX8_findSets 127 = .ok (.aload_n 0, 1) := by decide +kernel
theorem dX8_findSets_128 : decode cX8_findSets 128 = .ok (.getfield 38, 3) := by decide +kernel
theorem dX8_findSets_131 : decode cX8_findSets 131 = .ok (.getfield 77, 3) := by decide +kernel
theorem dX8_findSets_134 : decode cX8_findSets 134 = .ok (.invokevirtual 80, 3) := by decide +kernel
theorem dX8_findSets_137 : decode cX8_findSets 137 = .ok (.aload_n 0, 1) := by decide +kernel
theorem dX8_findSets_138 : decode cX8_findSets 138 = .ok (.iconst 0, 1) := by decide +kernel
theorem dX8_findSets_139 : decode cX8_findSets 139 = .ok (.putfield 84, 3) := by decide +kernel
theorem dX8_findSets_142 : decode cX8_findSets 142 = .ok (.aload_n 0, 1) := by decide +kernel
theorem dX8_findSets_143 : decode cX8_findSets 143 = .ok (.iconst (-1), 1) := by decide +kernel
theorem dX8_findSets_144 : decode cX8_findSets 144 = .ok (.putfield 87, 3) := by decide +kernel
theorem dX8_findSets_147 : decode cX8_findSets 147 = .ok (.aload_n 0, 1) := by decide +kernel
theorem dX8_findSets_148 : decode cX8_findSets 148 = .ok (.iconst 0, 1) := by decide +kernel
theorem dX8_findSets_149 : decode cX8_findSets 149 = .ok (.putfield 90, 3) := by decide +kernel
theorem dX8_findSets_152 : decode cX8_findSets 152 = .ok (.aload_n 0, 1) := by decide +kernel
theorem dX8_findSets_153 : decode cX8_findSets 153 = .ok (.iconst 0, 1) := by decide +kernel
theorem dX8_findSets_154 : decode cX8_findSets 154 = .ok (.iconst 0, 1) := by decide +kernel
theorem dX8_findSets_155 : decode cX8_findSets 155 = .ok (.invokevirtual 93, 3) := by decide +kernel
theorem dX8_findSets_158 : decode cX8_findSets 158 = .ok (.return_, 1) := by decide +kernel
def wq_c_X8_findSets : List Cond := Cond.code yX8_findSets cX8_findSets 4 none :: (([Cond.fieldLink RX8 38 "CrowToll$Sights" "road" "LCrowToll$Road;", Cond.fieldLink RX8 60 "CrowToll$Road" "carts" "I", Cond.fieldLink RX8 27 "CrowToll$Sights" "order" "[I", Cond.fieldLink RX8 65 "CrowToll$Road" "minute" "[I", Cond.code yX11_putByMinutes cX11_putByMinutes 6 none, Cond.static yX11_putByMinutes, Cond.initialized RX11, Cond.fieldLink RX8 70 "CrowToll$Sights" "watched" "I", Cond.fieldLink RX8 49 "CrowToll$Sights" "size" "I", Cond.fieldLink RX8 45 "CrowToll$Sights" "watch" "LCrowToll$Watch;", Cond.fieldLink RX8 77 "CrowToll$Road" "counts" "[I", Cond.methodLink RX8 80 yX10_sit, Cond.instanceMethod yX10_sit, Cond.selects RX10 yX10_sit yX10_sit, Cond.initialized RX10, Cond.code yX10_sit cX10_sit 2 none, Cond.fieldLink RX10 9 "CrowToll$Watch" "limit" "[I", Cond.methodLink RX10 37 arraycopyName, Cond.native arraycopyName, Cond.static arraycopyName, Cond.initialized "java/lang/System", Cond.fieldLink RX10 33 "CrowToll$Watch" "road" "LCrowToll$Road;", Cond.fieldLink RX10 43 "CrowToll$Road" "seat" "[I", Cond.fieldLink RX10 15 "CrowToll$Watch" "seat" "[I", Cond.fieldLink RX10 46 "CrowToll$Road" "seated" "[I", Cond.fieldLink RX10 18 "CrowToll$Watch" "seated" "[I", Cond.methodLink RX10 47 yX10_begin, Cond.instanceMethod yX10_begin, Cond.selects RX10 yX10_begin yX10_begin, Cond.code yX10_begin cX10_begin 1 none, Cond.fieldLink RX10 21 "CrowToll$Watch" "count" "[I", Cond.methodLink RX10 54 yJ7_fill_53178, Cond.static yJ7_fill_53178, Cond.initialized RJ7, Cond.code yJ7_fill_53178 cJ7_fill_53178 4 none, Cond.fieldLink RX10 24 "CrowToll$Watch" "total" "[I", Cond.fieldLink RX10 27 "CrowToll$Watch" "lookedAt" "[I", Cond.fieldLink RX10 30 "CrowToll$Watch" "countedAt" "[I", Cond.fieldLink RX8 84 "CrowToll$Sights" "sets" "I", Cond.fieldLink RX8 87 "CrowToll$Sights" "inAll" "I", Cond.fieldLink RX8 90 "CrowToll$Sights" "inSome" "I", Cond.methodLink RX8 93 yX8_goOn, Cond.instanceMethod yX8_goOn, Cond.selects RX8 yX8_goOn yX8_goOn, Cond.initialized RX8, Cond.code yX8_goOn cX8_goOn 4 none, Cond.methodLink RX8 103 yX8_asSeen, Cond.instanceMethod yX8_asSeen, Cond.selects RX8 yX8_asSeen yX8_asSeen, Cond.code yX8_asSeen cX8_asSeen 3 (some .boolean)] : List Cond) ++ wsX70 ++ wsX80 ++ wsX100)
set_option maxRecDepth 20000 in
theorem gr_c_X8_findSets_c_pbm0 : GoodIn wq_c_X8_findSets wq_c_pbm0 := List.forall_mem_cons.mpr ⟨⟨(List.mem_of_getElem? (i := 5) rfl), good_of_word rfl⟩, (fun _ h => absurd h List.not_mem_nil)⟩
theorem gq_c_X8_findSets_c_pbm0 : GoodIn wq_c_X8_findSets wq_c_pbm0 := gr_c_X8_findSets_c_pbm0
set_option maxRecDepth 20000 in
theorem gr_c_X8_findSets_c_X10_sit : GoodIn wq_c_X8_findSets wq_c_X10_sit := List.forall_mem_cons.mpr ⟨⟨(List.mem_of_getElem? (i := 16) rfl), good_of_word rfl⟩, List.forall_mem_append.mpr ⟨List.forall_mem_append.mpr ⟨List.forall_mem_cons.mpr ⟨⟨(List.mem_of_getElem? (i := 17) rfl), good_of_word rfl⟩, List.forall_mem_cons.mpr ⟨⟨(List.mem_of_getElem? (i := 18) rfl), good_of_word rfl⟩, List.forall_mem_cons.mpr ⟨⟨(List.mem_of_getElem? (i := 19) rfl), good_of_word rfl⟩, List.forall_mem_cons.mpr ⟨⟨(List.mem_of_getElem? (i := 20) rfl), good_of_word rfl⟩, List.forall_mem_cons.mpr ⟨⟨(List.mem_of_getElem? (i := 21) rfl), good_of_word rfl⟩, List.forall_mem_cons.mpr ⟨⟨(List.mem_of_getElem? (i := 22) rfl), good_of_word rfl⟩, List.forall_mem_cons.mpr ⟨⟨(List.mem_of_getElem? (i := 23) rfl), good_of_word rfl⟩, List.forall_mem_cons.mpr ⟨⟨(List.mem_of_getElem? (i := 24) rfl), good_of_word rfl⟩, List.forall_mem_cons.mpr ⟨⟨(List.mem_of_getElem? (i := 25) rfl), good_of_word rfl⟩, List.forall_mem_cons.mpr ⟨⟨(List.mem_of_getElem? (i := 26) rfl), good_of_word rfl⟩, List.forall_mem_cons.mpr ⟨⟨(List.mem_of_getElem? (i := 27) rfl), good_of_word rfl⟩, List.forall_mem_cons.mpr ⟨⟨(List.mem_of_getElem? (i := 28) rfl), good_of_word rfl⟩, List.forall_mem_cons.mpr ⟨⟨(List.mem_of_getElem? (i := 29) rfl), good_of_word rfl⟩, List.forall_mem_cons.mpr ⟨⟨(List.mem_of_getElem? (i := 15) rfl), good_of_word rfl⟩, List.forall_mem_cons.mpr ⟨⟨(List.mem_of_getElem? (i := 30) rfl), good_of_word rfl⟩, List.forall_mem_cons.mpr ⟨⟨(List.mem_of_getElem? (i := 31) rfl), good_of_word rfl⟩, List.forall_mem_cons.mpr ⟨⟨(List.mem_of_getElem? (i := 32) rfl), good_of_word rfl⟩, List.forall_mem_cons.mpr ⟨⟨(List.mem_of_getElem? (i := 33) rfl), good_of_word rfl⟩, List.forall_mem_cons.mpr ⟨⟨(List.mem_of_getElem? (i := 34) rfl), good_of_word rfl⟩, List.forall_mem_cons.mpr ⟨⟨(List.mem_of_getElem? (i := 35) rfl), good_of_word rfl⟩, List.forall_mem_cons.mpr ⟨⟨(List.mem_of_getElem? (i := 36) rfl), good_of_word rfl⟩, List.forall_mem_cons.mpr ⟨⟨(List.mem_of_getElem? (i := 37) rfl), good_of_word rfl⟩, List.forall_mem_cons.mpr ⟨⟨(List.mem_of_getElem? (i := 38) rfl), good_of_word rfl⟩, (fun _ h => absurd h List.not_mem_nil)⟩⟩⟩⟩⟩⟩⟩⟩⟩⟩⟩⟩⟩⟩⟩⟩⟩⟩⟩⟩⟩⟩⟩, fun w h => ⟨(fun w h => List.mem_cons_of_mem _ (List.mem_append_left _ (List.mem_append_left _ (List.mem_append_right _ h)))) w h, good_of_word (List.all_eq_true.mp gw_X7 w h)⟩⟩, fun w h => ⟨(fun w h => List.mem_cons_of_mem _ (List.mem_append_right _ h)) w h, good_of_word (List.all_eq_true.mp gw_X10 w h)⟩⟩⟩
set_option maxRecDepth 20000 in
theorem gq_c_X8_findSets_c_X10_sit_80 : GoodIn wq_c_X8_findSets (wsV RX8 80 RX10 yX10_sit wq_c_X10_sit) := goodIn_app (List.forall_mem_cons.mpr ⟨⟨(List.mem_of_getElem? (i := 12) rfl), good_of_word rfl⟩, List.forall_mem_cons.mpr ⟨⟨(List.mem_of_getElem? (i := 13) rfl), good_of_word rfl⟩, List.forall_mem_cons.mpr ⟨⟨(List.mem_of_getElem? (i := 14) rfl), good_of_word rfl⟩, List.forall_mem_cons.mpr ⟨⟨(List.mem_of_getElem? (i := 15) rfl), good_of_word rfl⟩, (fun _ h => absurd h List.not_mem_nil)⟩⟩⟩⟩) gr_c_X8_findSets_c_X10_sit
set_option maxRecDepth 20000 in
theorem gr_c_X8_findSets_c_X8_goOn : GoodIn wq_c_X8_findSets wq_c_X8_goOn := List.forall_mem_cons.mpr ⟨⟨(List.mem_of_getElem? (i := 46) rfl), good_of_word rfl⟩, List.forall_mem_append.mpr ⟨List.forall_mem_append.mpr ⟨List.forall_mem_cons.mpr ⟨⟨(List.mem_of_getElem? (i := 47) rfl), good_of_word rfl⟩, List.forall_mem_cons.mpr ⟨⟨(List.mem_of_getElem? (i := 48) rfl), good_of_word rfl⟩, List.forall_mem_cons.mpr ⟨⟨(List.mem_of_getElem? (i := 49) rfl), good_of_word rfl⟩, List.forall_mem_cons.mpr ⟨⟨(List.mem_of_getElem? (i := 45) rfl), good_of_word rfl⟩, List.forall_mem_cons.mpr ⟨⟨(List.mem_of_getElem? (i := 50) rfl), good_of_word rfl⟩, List.forall_mem_cons.mpr ⟨⟨(List.mem_of_getElem? (i := 9) rfl), good_of_word rfl⟩, List.forall_mem_cons.mpr ⟨⟨(List.mem_of_getElem? (i := 1) rfl), good_of_word rfl⟩, List.forall_mem_cons.mpr ⟨⟨(List.mem_of_getElem? (i := 2) rfl), good_of_word rfl⟩, List.forall_mem_cons.mpr ⟨⟨(List.mem_of_getElem? (i := 39) rfl), good_of_word rfl⟩, List.forall_mem_cons.mpr ⟨⟨(List.mem_of_getElem? (i := 40) rfl), good_of_word rfl⟩, List.forall_mem_cons.mpr ⟨⟨(List.mem_of_getElem? (i := 41) rfl), good_of_word rfl⟩, (fun _ h => absurd h List.not_mem_nil)⟩⟩⟩⟩⟩⟩⟩⟩⟩⟩⟩, fun w h => ⟨(fun w h => List.mem_cons_of_mem _ (List.mem_append_left _ (List.mem_append_left _ (List.mem_append_right _ h)))) w h, good_of_word (List.all_eq_true.mp gw_X7 w h)⟩⟩, fun w h => ⟨(fun w h => List.mem_cons_of_mem _ (List.mem_append_left _ (List.mem_append_right _ h))) w h, good_of_word (List.all_eq_true.mp gw_X8 w h)⟩⟩⟩
set_option maxRecDepth 20000 in
theorem gq_c_X8_findSets_c_X8_goOn_93 : GoodIn wq_c_X8_findSets (wsV RX8 93 RX8 yX8_goOn wq_c_X8_goOn) := goodIn_app (List.forall_mem_cons.mpr ⟨⟨(List.mem_of_getElem? (i := 42) rfl), good_of_word rfl⟩, List.forall_mem_cons.mpr ⟨⟨(List.mem_of_getElem? (i := 43) rfl), good_of_word rfl⟩, List.forall_mem_cons.mpr ⟨⟨(List.mem_of_getElem? (i := 44) rfl), good_of_word rfl⟩, List.forall_mem_cons.mpr ⟨⟨(List.mem_of_getElem? (i := 45) rfl), good_of_word rfl⟩, (fun _ h => absurd h List.not_mem_nil)⟩⟩⟩⟩) gr_c_X8_findSets_c_X8_goOn
set_option maxHeartbeats 8000000 in
set_option maxRecDepth 100000 in
theorem c_X8_findSets (l : Launch) (D : va_G) (cy : Nat → ClassId) (ad : Nat → Nat) (g : Nat → va_E) {f0 : List Value} {f1 : List Value} {c2 : Nat → Int32} {c3 : Nat → Int32} {f4 : List Value} {c5 : Nat → Int32} {c6 : Nat → Int32} {c7 : Nat → Int32} {c8 : Nat → Int32} {c9 : Nat → Int32} {c10 : Nat → Int32} {c11 : Nat → Int32} {c12 : Nat → Int32} {c13 : Nat → Int32} {c14 : Nat → Int32} {k1 : Int32} (o0 : g 0 = .inr (8, f0)) (f0_0 : f0[0]? = some (.ref (ad 1))) (f0_1 : f0[1]? = some (.ref (ad 4))) (f0_7 : f0[7]? = some (.int 0)) (f0_9 : f0[9]? = some (.ref (ad 2))) (f0_11 : f0[11]? = some (.int 0)) (f0_13 : f0[13]? = some (.int 0)) (f0_14 : f0[14]? = some (.int 0)) (f0_15 : f0[15]? = some (.int 0)) (o1 : g 1 = .inr (7, f1)) (f1_1 : f1[1]? = some (.ref (ad 14))) (f1_9 : f1[9]? = some (.ref (ad 5))) (f1_10 : f1[10]? = some (.ref (ad 6))) (f1_13 : f1[13]? = some (.ref (ad 3))) (f1_16 : f1[16]? = some (.int 0)) (a2 : g 2 = .inl (cy 0, 12, .inl c2)) (a3 : g 3 = .inl (cy 0, 12, .inl c3)) (o4 : g 4 = .inr (10, f4)) (f4_0 : f4[0]? = some (.ref (ad 1))) (f4_1 : f4[1]? = some (.ref (ad 7))) (f4_2 : f4[2]? = some (.ref (ad 8))) (f4_3 : f4[3]? = some (.ref (ad 9))) (f4_4 : f4[4]? = some (.ref (ad 10))) (f4_5 : f4[5]? = some (.ref (ad 11))) (f4_6 : f4[6]? = some (.ref (ad 12))) (f4_7 : f4[7]? = some (.ref (ad 13))) (a5 : g 5 = .inl (cy 0, 20, .inl c5)) (a6 : g 6 = .inl (cy 0, 4, .inl c6)) (a7 : g 7 = .inl (cy 0, 5, .inl c7)) (a8 : g 8 = .inl (cy 0, 20, .inl c8)) (a9 : g 9 = .inl (cy 0, 4, .inl c9)) (a10 : g 10 = .inl (cy 0, 5, .inl c10)) (a11 : g 11 = .inl (cy 0, 5, .inl c11)) (a12 : g 12 = .inl (cy 0, 5, .inl c12)) (a13 : g 13 = .inl (cy 0, 5, .inl c13)) (a14 : g 14 = .inl (cy 0, 5, .inl c14)) : cMv l yX8_findSets wq_c_X8_findSets { frames := 3, cells := 0, slots := 0, locals := 81 } 15 0 0 0 D cy ad g [.ref (ad 0), .int k1] (fun nw lu => ∃ (c2_134_7 : Nat → Int32) (c5_134_8 : Nat → Int32) (c7_134_9 : Nat → Int32) (cz_134_10 : Nat → Int32) (cz_134_11 : Nat → Int32) (cz_134_12 : Nat → Int32) (cz_134_13 : Nat → Int32), lu = [(0, .inr (8, (((((((f0.set 11 (.int 0)).set 13 (.int 0)).set 14 (.int (-1))).set 15 (.int 0)).set 13 (.int 1)).set 14 (.int 0)).set 15 (.int 0)))), (10, .inl (cy 0, 5, .inl cz_134_10)), (11, .inl (cy 0, 5, .inl cz_134_11)), (12, .inl (cy 0, 5, .inl cz_134_12)), (13, .inl (cy 0, 5, .inl cz_134_13)), (9, .inl (cy 0, 4, .inl c7_134_9)), (8, .inl (cy 0, 20, .inl c5_134_8)), (7, .inl (cy 0, 5, .inl c2_134_7))]) := by
  refine cM_of (Qc := fun A => cQv (fun nw lu => ∃ (c2_134_7 : Nat → Int32) (c5_134_8 : Nat → Int32) (c7_134_9 : Nat → Int32) (cz_134_10 : Nat → Int32) (cz_134_11 : Nat → Int32) (cz_134_12 : Nat → Int32) (cz_134_13 : Nat → Int32), lu = [(0, .inr (8, (((((((f0.set 11 (.int 0)).set 13 (.int 0)).set 14 (.int (-1))).set 15 (.int 0)).set 13 (.int 1)).set 14 (.int 0)).set 15 (.int 0)))), (10, .inl (cy 0, 5, .inl cz_134_10)), (11, .inl (cy 0, 5, .inl cz_134_11)), (12, .inl (cy 0, 5, .inl cz_134_12)), (13, .inl (cy 0, 5, .inl cz_134_13)), (9, .inl (cy 0, 4, .inl c7_134_9)), (8, .inl (cy 0, 20, .inl c5_134_8)), (7, .inl (cy 0, 5, .inl c2_134_7))]) D 15 0 ad g A) (cc := cX8_findSets) (maxL := 4) (ret := none) (by decide) rfl (Nat.le_of_ble_eq_true rfl) ?_
  intro p e s m below meth c A hC hr hlk hnm hO ls hl
  have hC : CallFix p m c cX8_findSets 4 s [.ref (ad 0), .int k1].toArray wq_c_X8_findSets RX8 := hC
  obtain ⟨hx, hb, hml, hown, hts⟩ := id hC
  have hl : lv_has ls 4 [(0, .ref (ad 0)), (1, .int k1)] := hl
  have i_X10 : ∀ w ∈ wsX100, w ∈ wq_c_X8_findSets := fun w h => List.mem_cons_of_mem _ (List.mem_append_right _ h)
  have i_X7 : ∀ w ∈ wsX70, w ∈ wq_c_X8_findSets := fun w h => List.mem_cons_of_mem _ (List.mem_append_left _ (List.mem_append_left _ (List.mem_append_right _ h)))
  have i_X8 : ∀ w ∈ wsX80, w ∈ wq_c_X8_findSets := fun w h => List.mem_cons_of_mem _ (List.mem_append_left _ (List.mem_append_right _ h))
  refine lv_iconst (v := 0) hx hb dX8_findSets_0 (by decide) ?_
  refine lv_istore_n (lv' := [(2, .int 0), (0, .ref (ad 0)), (1, .int k1)]) hx hb dX8_findSets_1 rfl hl (by decide) rfl (fun ls hl => ?_)
  refine lv_iload_n hx hb dX8_findSets_2 rfl (lv_at hl 0 rfl) ?_
  refine lv_aload_n hx hb dX8_findSets_3 rfl (lv_at hl 1 rfl) ?_
  refine cg_get hC hO 0 (by decide) o0 rfl i_X8 0 (by decide) (List.mem_of_getElem? (i := 1) rfl) f0_0 dX8_findSets_4 ?_
  refine cg_get hC hO 1 (by decide) o1 rfl i_X7 16 (by decide) (List.mem_of_getElem? (i := 2) rfl) f1_16 dX8_findSets_7 ?_
  refine lv_icmp_ge (tgt := 26) hx hb dX8_findSets_10 (by decide) (fun _ => ?_) (fun h => absurd h (by decide))
  refine lv_aload_n hx hb dX8_findSets_26 rfl (lv_at hl 1 rfl) ?_
  refine cg_get hC hO 0 (by decide) o0 rfl i_X8 9 (by decide) (List.mem_of_getElem? (i := 3) rfl) f0_9 dX8_findSets_27 ?_
  refine lv_aload_n hx hb dX8_findSets_30 rfl (lv_at hl 1 rfl) ?_
  refine cg_get hC hO 0 (by decide) o0 rfl i_X8 0 (by decide) (List.mem_of_getElem? (i := 1) rfl) f0_0 dX8_findSets_31 ?_
  refine cg_get hC hO 1 (by decide) o1 rfl i_X7 16 (by decide) (List.mem_of_getElem? (i := 2) rfl) f1_16 dX8_findSets_34 ?_
  refine lv_aload_n hx hb dX8_findSets_37 rfl (lv_at hl 1 rfl) ?_
  refine cg_get hC hO 0 (by decide) o0 rfl i_X8 0 (by decide) (List.mem_of_getElem? (i := 1) rfl) f0_0 dX8_findSets_38 ?_
  refine cg_get hC hO 1 (by decide) o1 rfl i_X7 13 (by decide) (List.mem_of_getElem? (i := 4) rfl) f1_13 dX8_findSets_41 ?_
  refine cg_Nv (As := [.ref (ad 2), .int 0, .ref (ad 3)]) (rest := []) (mc := 0) (ms := 0) (rm := { frames := 0, cells := 0, slots := 0, locals := 0 }) hC hl.1 hO [2, 3] rfl (c_pbm0 l D cy _ _ (n0 := 12) (c0 := c2) (n1 := 12) (c1 := c3) a2 a3) gq_c_X8_findSets_c_pbm0 rfl rfl rfl (host := "CrowToll") (nestL_mem_15) (List.mem_of_getElem? (i := 6) rfl) (List.mem_of_getElem? (i := 7) rfl) 3 (by decide +kernel) ⟨Nat.le_of_ble_eq_true rfl, Nat.le_of_ble_eq_true rfl⟩ rfl rfl (Nat.le_of_ble_eq_true rfl) dX8_findSets_44 ⟨Nat.le_of_ble_eq_true rfl, Nat.le_of_ble_eq_true rfl⟩ (fun nw_44_1 l_44_2 H locs hw hO => ?_)
  obtain rfl := hw
  have hO : cO D cy A s.heap s 15 ad (cup [] g) _ _ := hO
  refine lv_aload_n hx hb dX8_findSets_47 rfl (lv_at hl 1 rfl) ?_
  refine lv_iconst (v := 0) hx hb dX8_findSets_48 (by decide) ?_
  refine cg_put hC hO 0 (by decide) o0 rfl i_X8 tyX8_ok nmX8 11 (by decide) (List.mem_of_getElem? (i := 8) rfl) rfl rfl rfl (fs_lt f0_11) dX8_findSets_49 (fun H locs hO => ?_)
  have hO : cO D cy A s.heap s 15 ad (cup [(0, .inr (8, (f0.set 11 (.int 0))))] g) _ _ := hO
  refine lv_iconst (v := 0) hx hb dX8_findSets_52 (by decide) ?_
  refine lv_istore_n (lv' := [(2, .int 0), (0, .ref (ad 0)), (1, .int k1)]) hx hb dX8_findSets_53 rfl hl (by decide) rfl (fun ls hl => ?_)
  refine lv_iload_n hx hb dX8_findSets_54 rfl (lv_at hl 0 rfl) ?_
  refine lv_aload_n hx hb dX8_findSets_55 rfl (lv_at hl 1 rfl) ?_
  refine cg_get hC hO 0 (by decide) rfl rfl i_X8 7 (by decide) (List.mem_of_getElem? (i := 9) rfl) (fs_ne (by decide) f0_7) dX8_findSets_56 ?_
  refine lv_icmp_ge (tgt := 123) hx hb dX8_findSets_59 (by decide) (fun _ => ?_) (fun h => absurd h (by decide))
  refine lv_aload_n hx hb dX8_findSets_123 rfl (lv_at hl 1 rfl) ?_
  refine cg_get hC hO 0 (by decide) rfl rfl i_X8 1 (by decide) (List.mem_of_getElem? (i := 10) rfl) (fs_ne (by decide) f0_1) dX8_findSets_124 ?_
  refine lv_aload_n hx hb dX8_findSets_127 rfl (lv_at hl 1 rfl) ?_
  refine cg_get hC hO 0 (by decide) rfl rfl i_X8 0 (by decide) (List.mem_of_getElem? (i := 1) rfl) (fs_ne (by decide) f0_0) dX8_findSets_128 ?_
  refine cg_get hC hO 1 (by decide) o1 rfl i_X7 1 (by decide) (List.mem_of_getElem? (i := 11) rfl) f1_1 dX8_findSets_131 ?_
  refine cg_Vv (As := [.ref (ad 14)]) (rest := []) (mc := 0) (ms := 0) (rm := { frames := 2, cells := 0, slots := 0, locals := 60 }) hC hl.1 hO [4, 14, 7, 1, 5, 8, 6, 9, 10, 11, 12, 13] rfl (c_X10_sit l D cy _ _ (f0 := f4) (f3 := f1) (c4 := c5) (c6 := c6) (c2 := c7) (c5 := c8) (c7 := c9) (c8 := c10) (c9 := c11) (c10 := c12) (c11 := c13) (c1 := c14) o4 f4_0 f4_1 f4_2 f4_3 f4_4 f4_5 f4_6 f4_7 a14 a7 o1 f1_9 f1_10 a5 a8 a6 a9 a10 a11 a12 a13) gq_c_X8_findSets_c_X10_sit_80 rfl rfl rfl 1 (by decide +kernel) ⟨Nat.le_of_ble_eq_true rfl, Nat.le_of_ble_eq_true rfl⟩ rfl (by decide) o4 rfl rfl (Nat.le_of_ble_eq_true rfl) dX8_findSets_134 ⟨Nat.le_of_ble_eq_true rfl, Nat.le_of_ble_eq_true rfl⟩ (fun nw_134_4 l_134_5 H locs hw hO => ?_)
  obtain ⟨c2_134_7, c5_134_8, c7_134_9, cz_134_10, cz_134_11, cz_134_12, cz_134_13, rfl⟩ := hw
  have hO : cO D cy A s.heap s 15 ad (cup [(0, .inr (8, (f0.set 11 (.int 0)))), (10, .inl (cy 0, 5, .inl cz_134_10)), (11, .inl (cy 0, 5, .inl cz_134_11)), (12, .inl (cy 0, 5, .inl cz_134_12)), (13, .inl (cy 0, 5, .inl cz_134_13)), (9, .inl (cy 0, 4, .inl c7_134_9)), (8, .inl (cy 0, 20, .inl c5_134_8)), (7, .inl (cy 0, 5, .inl c2_134_7))] g) _ _ := hO
  refine lv_aload_n hx hb dX8_findSets_137 rfl (lv_at hl 1 rfl) ?_
  refine lv_iconst (v := 0) hx hb dX8_findSets_138 (by decide) ?_
  refine cg_put hC hO 0 (by decide) rfl rfl i_X8 tyX8_ok nmX8 13 (by decide) (List.mem_of_getElem? (i := 39) rfl) rfl rfl rfl (fs_lt (fs_ne (by decide) f0_13)) dX8_findSets_139 (fun H locs hO => ?_)
  have hO : cO D cy A s.heap s 15 ad (cup [(0, .inr (8, ((f0.set 11 (.int 0)).set 13 (.int 0)))), (10, .inl (cy 0, 5, .inl cz_134_10)), (11, .inl (cy 0, 5, .inl cz_134_11)), (12, .inl (cy 0, 5, .inl cz_134_12)), (13, .inl (cy 0, 5, .inl cz_134_13)), (9, .inl (cy 0, 4, .inl c7_134_9)), (8, .inl (cy 0, 20, .inl c5_134_8)), (7, .inl (cy 0, 5, .inl c2_134_7))] g) _ _ := hO
  refine lv_aload_n hx hb dX8_findSets_142 rfl (lv_at hl 1 rfl) ?_
  refine lv_iconst (v := (-1)) hx hb dX8_findSets_143 (by decide) ?_
  refine cg_put hC hO 0 (by decide) rfl rfl i_X8 tyX8_ok nmX8 14 (by decide) (List.mem_of_getElem? (i := 40) rfl) rfl rfl rfl (fs_lt (fs_ne (by decide) (fs_ne (by decide) f0_14))) dX8_findSets_144 (fun H locs hO => ?_)
  have hO : cO D cy A s.heap s 15 ad (cup [(0, .inr (8, (((f0.set 11 (.int 0)).set 13 (.int 0)).set 14 (.int (-1))))), (10, .inl (cy 0, 5, .inl cz_134_10)), (11, .inl (cy 0, 5, .inl cz_134_11)), (12, .inl (cy 0, 5, .inl cz_134_12)), (13, .inl (cy 0, 5, .inl cz_134_13)), (9, .inl (cy 0, 4, .inl c7_134_9)), (8, .inl (cy 0, 20, .inl c5_134_8)), (7, .inl (cy 0, 5, .inl c2_134_7))] g) _ _ := hO
  refine lv_aload_n hx hb dX8_findSets_147 rfl (lv_at hl 1 rfl) ?_
  refine lv_iconst (v := 0) hx hb dX8_findSets_148 (by decide) ?_
  refine cg_put hC hO 0 (by decide) rfl rfl i_X8 tyX8_ok nmX8 15 (by decide) (List.mem_of_getElem? (i := 41) rfl) rfl rfl rfl (fs_lt (fs_ne (by decide) (fs_ne (by decide) (fs_ne (by decide) f0_15)))) dX8_findSets_149 (fun H locs hO => ?_)
  have hO : cO D cy A s.heap s 15 ad (cup [(0, .inr (8, ((((f0.set 11 (.int 0)).set 13 (.int 0)).set 14 (.int (-1))).set 15 (.int 0)))), (10, .inl (cy 0, 5, .inl cz_134_10)), (11, .inl (cy 0, 5, .inl cz_134_11)), (12, .inl (cy 0, 5, .inl cz_134_12)), (13, .inl (cy 0, 5, .inl cz_134_13)), (9, .inl (cy 0, 4, .inl c7_134_9)), (8, .inl (cy 0, 20, .inl c5_134_8)), (7, .inl (cy 0, 5, .inl c2_134_7))] g) _ _ := hO
  refine lv_aload_n hx hb dX8_findSets_152 rfl (lv_at hl 1 rfl) ?_
  refine lv_iconst (v := 0) hx hb dX8_findSets_153 (by decide) ?_
  refine lv_iconst (v := 0) hx hb dX8_findSets_154 (by decide) ?_
  refine cg_Vv (As := [.int 0, .int 0]) (rest := []) (mc := 0) (ms := 0) (rm := { frames := 1, cells := 0, slots := 0, locals := 22 }) hC hl.1 hO [0, 1] rfl (c_X8_goOn l D cy _ _ (f0 := ((((f0.set 11 (.int 0)).set 13 (.int 0)).set 14 (.int (-1))).set 15 (.int 0))) (f1 := f1) rfl (fs_ne (by decide) (fs_ne (by decide) (fs_ne (by decide) (fs_ne (by decide) f0_0)))) (fs_ne (by decide) (fs_ne (by decide) (fs_ne (by decide) (fs_ne (by decide) f0_7)))) (fs_ne (by decide) (fs_ne (by decide) (fs_eq (fs_ne (by decide) f0_13)))) (fs_ne (by decide) (fs_eq (fs_ne (by decide) (fs_ne (by decide) f0_14)))) (fs_eq (fs_ne (by decide) (fs_ne (by decide) (fs_ne (by decide) f0_15)))) o1 f1_16) gq_c_X8_findSets_c_X8_goOn_93 rfl rfl rfl 2 (by decide +kernel) ⟨Nat.le_of_ble_eq_true rfl, Nat.le_of_ble_eq_true rfl⟩ rfl (by decide) rfl rfl rfl (Nat.le_of_ble_eq_true rfl) dX8_findSets_155 ⟨Nat.le_of_ble_eq_true rfl, Nat.le_of_ble_eq_true rfl⟩ (fun nw_155_14 l_155_15 H locs hw hO => ?_)
  obtain rfl := hw
  have hO : cO D cy A s.heap s 15 ad (cup [(0, .inr (8, (((((((f0.set 11 (.int 0)).set 13 (.int 0)).set 14 (.int (-1))).set 15 (.int 0)).set 13 (.int 1)).set 14 (.int 0)).set 15 (.int 0)))), (10, .inl (cy 0, 5, .inl cz_134_10)), (11, .inl (cy 0, 5, .inl cz_134_11)), (12, .inl (cy 0, 5, .inl cz_134_12)), (13, .inl (cy 0, 5, .inl cz_134_13)), (9, .inl (cy 0, 4, .inl c7_134_9)), (8, .inl (cy 0, 20, .inl c5_134_8)), (7, .inl (cy 0, 5, .inl c2_134_7))] g) _ _ := hO
  exact cg_vret (nw := fun _ => 0) hC hr hlk hO.same (Nat.le_of_ble_eq_true rfl) (Nat.le_of_ble_eq_true rfl) (⟨c2_134_7, c5_134_8, c7_134_9, cz_134_10, cz_134_11, cz_134_12, cz_134_13, rfl⟩) dX8_findSets_158

theorem dX8_inNone_0 : decode cX8_inNone 0 = .ok (.aload_n 0, 1) := by decide +kernel
theorem dX8_inNone_1 : decode cX8_inNone 1 = .ok (.getfield 38, 3) := by decide +kernel
theorem dX8_inNone_4 : decode cX8_inNone 4 = .ok (.getfield 107, 3) := by decide +kernel
theorem dX8_inNone_7 : decode cX8_inNone 7 = .ok (.aload_n 0, 1) := by decide +kernel
theorem dX8_inNone_8 : decode cX8_inNone 8 = .ok (.getfield 90, 3) := by decide +kernel
theorem dX8_inNone_11 : decode cX8_inNone 11 = .ok (.iconst (-1), 1) := by decide +kernel
theorem dX8_inNone_12 : decode cX8_inNone 12 = .ok (.ixor, 1) := by decide +kernel
theorem dX8_inNone_13 : decode cX8_inNone 13 = .ok (.iand, 1) := by decide +kernel
theorem dX8_inNone_14 : decode cX8_inNone 14 = .ok (.ireturn, 1) := by decide +kernel
def wq_c_X8_inNone : List Cond := Cond.code yX8_inNone cX8_inNone 1 (some .int) :: (([Cond.fieldLink RX8 38 "CrowToll$Sights" "road" "LCrowToll$Road;", Cond.fieldLink RX8 107 "CrowToll$Road" "maybe" "I", Cond.fieldLink RX8 90 "CrowToll$Sights" "inSome" "I"] : List Cond) ++ wsX70 ++ wsX80)
set_option maxHeartbeats 8000000 in
set_option maxRecDepth 100000 in
theorem c_X8_inNone (l : Launch) (D : va_G) (cy : Nat → ClassId) (ad : Nat → Nat) (g : Nat → va_E) {f0 : List Value} {f1 : List Value} (o0 : g 0 = .inr (8, f0)) (f0_0 : f0[0]? = some (.ref (ad 1))) (f0_15 : f0[15]? = some (.int 0)) (o1 : g 1 = .inr (7, f1)) (f1_15 : f1[15]? = some (.int 0)) : cMi l yX8_inNone wq_c_X8_inNone { frames := 0, cells := 0, slots := 0, locals := 0 } 2 0 0 0 D cy ad g [.ref (ad 0)] (fun r nw lu => (r = 0) ∧ (lu = [])) := by
  refine cM_of (Qc := fun A => cQi (fun r nw lu => (r = 0) ∧ (lu = [])) D 2 0 ad g A) (cc := cX8_inNone) (maxL := 1) (ret := (some .int)) (by decide) rfl (Nat.le_of_ble_eq_true rfl) ?_
  intro p e s m below meth c A hC hr hlk hnm hO ls hl
  have hC : CallFix p m c cX8_inNone 1 s [.ref (ad 0)].toArray wq_c_X8_inNone RX8 := hC
  obtain ⟨hx, hb, hml, hown, hts⟩ := id hC
  have hl : lv_has ls 1 [(0, .ref (ad 0))] := hl
  have i_X7 : ∀ w ∈ wsX70, w ∈ wq_c_X8_inNone := fun w h => List.mem_cons_of_mem _ (List.mem_append_left _ (List.mem_append_right _ h))
  have i_X8 : ∀ w ∈ wsX80, w ∈ wq_c_X8_inNone := fun w h => List.mem_cons_of_mem _ (List.mem_append_right _ h)
  refine lv_aload_n hx hb dX8_inNone_0 rfl (lv_at hl 0 rfl) ?_
  refine cg_get hC hO 0 (by decide) o0 rfl i_X8 0 (by decide) (List.mem_of_getElem? (i := 1) rfl) f0_0 dX8_inNone_1 ?_
  refine cg_get hC hO 1 (by decide) o1 rfl i_X7 15 (by decide) (List.mem_of_getElem? (i := 2) rfl) f1_15 dX8_inNone_4 ?_
  refine lv_aload_n hx hb dX8_inNone_7 rfl (lv_at hl 0 rfl) ?_
  refine cg_get hC hO 0 (by decide) o0 rfl i_X8 15 (by decide) (List.mem_of_getElem? (i := 3) rfl) f0_15 dX8_inNone_8 ?_
  refine lv_iconst (v := (-1)) hx hb dX8_inNone_11 (by decide) ?_
  refine lv_ixor hx hb dX8_inNone_12 ?_
  refine cg_ev (v := (-1)) (by decide) ?_
  refine lv_iand hx hb dX8_inNone_13 ?_
  refine cg_ev (v := 0) (by decide) ?_
  exact cg_iret (nw := fun _ => 0) hC hr hlk hO.same rfl (Nat.le_of_ble_eq_true rfl) (Nat.le_of_ble_eq_true rfl) (⟨rfl, rfl⟩) dX8_inNone_14

theorem dX11_came_0 : decode cX11_came 0 = .ok (.iload_n 1, 1) := by decide +kernel
theorem dX11_came_1 : decode cX11_came 1 = .ok (.iconst 0, 1) := by decide +kernel
theorem dX11_came_2 : decode cX11_came 2 = .ok (.iconst 2, 1) := by decide +kernel
theorem dX11_came_3 : decode cX11_came 3 = .ok (.invokestatic 107, 3) := by decide +kernel
theorem dX11_came_6 : decode cX11_came 6 = .ok (.ifCond .ne 5, 3) := by decide +kernel
theorem dX11_came_9 : decode cX11_came 9 = .ok (.iconst (-1), 1) := by decide +kernel
theorem dX11_came_10 : decode cX11_came 10 = .ok (.ireturn, 1) := by decide +kernel
theorem dX11_came_11 : decode cX11_came 11 = .ok (.aload_n 0, 1) := by decide +kernel
theorem dX11_came_12 : decode cX11_came 12 = .ok (.getfield 93, 3) := by decide +kernel
theorem dX11_came_15 : decode cX11_came 15 = .ok (.iload_n 2, 1) := by decide +kernel
theorem dX11_came_16 : decode cX11_came 16 = .ok (.invokevirtual 270, 3) := by decide +kernel
theorem dX11_came_19 : decode cX11_came 19 = .ok (.iload_n 1, 1) := by decide +kernel
theorem dX11_came_20 : decode cX11_came 20 = .ok (.ifCond .ne 11, 3) := by decide +kernel
theorem dX11_came_23 : decode cX11_came 23 = .ok (.aload_n 0, 1) := by decide +kernel
theorem dX11_came_24 : decode cX11_came 24 = .ok (.getfield 93, 3) := by decide +kernel
theorem dX11_came_27 : decode cX11_came 27 = .ok (.getfield 273, 3) := by decide +kernel
theorem dX11_came_30 : decode cX11_came 30 = .ok (.ireturn, 1) := by decide +kernel
theorem dX11_came_31 : decode cX11_came 31 = .ok (.aload_n 0, 1) := by decide +kernel
theorem dX11_came_32 : decode cX11_came 32 = .ok (.getfield 93, 3) := by decide +kernel
theorem dX11_came_35 : decode cX11_came 35 = .ok (.getfield 273, 3) := by decide +kernel
theorem dX11_came_38 : decode cX11_came 38 = .ok (.ifCond .ne 5, 3) := by decide +kernel
theorem dX11_came_43 : decode cX11_came 43 = .ok (.iload_n 1, 1) := by decide +kernel
theorem dX11_came_44 : decode cX11_came 44 = .ok (.iconst 1, 1) := by decide +kernel
theorem dX11_came_45 : decode cX11_came 45 = .ok (.if_icmp .ne 13, 3) := by decide +kernel
theorem dX11_came_48 : decode cX11_came 48 = .ok (.aload_n 0, 1) := by decide +kernel
theorem dX11_came_49 : decode cX11_came 49 = .ok (.getfield 93, 3) := by decide +kernel
theorem dX11_came_52 : decode cX11_came 52 = .ok (.getfield 276, 3) := by decide +kernel
theorem dX11_came_55 : decode cX11_came 55 = .ok (.goto 10, 3) := by decide +kernel
theorem dX11_came_58 : decode cX11_came 58 = .ok (.aload_n 0, 1) := by decide +kernel
theorem dX11_came_59 : decode cX11_came 59 = .ok (.getfield 93, 3) := by decide +kernel
theorem dX11_came_62 : decode cX11_came 62 = .ok (.invokevirtual 279, 3) := by decide +kernel
theorem dX11_came_65 : decode cX11_came 65 = .ok (.ireturn, 1) := by decide +kernel
def wq_c_X11_came : List Cond := Cond.code yX11_came cX11_came 3 (some .int) :: (([Cond.methodLink RX11 107 yX11_within, Cond.static yX11_within, Cond.initialized RX11, Cond.code yX11_within cX11_within 3 (some .boolean), Cond.fieldLink RX11 93 "CrowToll" "sights" "LCrowToll$Sights;", Cond.methodLink RX11 270 yX8_findSets, Cond.instanceMethod yX8_findSets, Cond.selects RX8 yX8_findSets yX8_findSets, Cond.initialized RX8, Cond.code yX8_findSets cX8_findSets 4 none, Cond.fieldLink RX8 38 "CrowToll$Sights" "road" "LCrowToll$Road;", Cond.fieldLink RX8 60 "CrowToll$Road" "carts" "I", Cond.fieldLink RX8 27 "CrowToll$Sights" "order" "[I", Cond.fieldLink RX8 65 "CrowToll$Road" "minute" "[I", Cond.code yX11_putByMinutes cX11_putByMinutes 6 none, Cond.static yX11_putByMinutes, Cond.fieldLink RX8 70 "CrowToll$Sights" "watched" "I", Cond.fieldLink RX8 49 "CrowToll$Sights" "size" "I", Cond.fieldLink RX8 45 "CrowToll$Sights" "watch" "LCrowToll$Watch;", Cond.fieldLink RX8 77 "CrowToll$Road" "counts" "[I", Cond.methodLink RX8 80 yX10_sit, Cond.instanceMethod yX10_sit, Cond.selects RX10 yX10_sit yX10_sit, Cond.initialized RX10, Cond.code yX10_sit cX10_sit 2 none, Cond.fieldLink RX10 9 "CrowToll$Watch" "limit" "[I", Cond.methodLink RX10 37 arraycopyName, Cond.native arraycopyName, Cond.static arraycopyName, Cond.initialized "java/lang/System", Cond.fieldLink RX10 33 "CrowToll$Watch" "road" "LCrowToll$Road;", Cond.fieldLink RX10 43 "CrowToll$Road" "seat" "[I", Cond.fieldLink RX10 15 "CrowToll$Watch" "seat" "[I", Cond.fieldLink RX10 46 "CrowToll$Road" "seated" "[I", Cond.fieldLink RX10 18 "CrowToll$Watch" "seated" "[I", Cond.methodLink RX10 47 yX10_begin, Cond.instanceMethod yX10_begin, Cond.selects RX10 yX10_begin yX10_begin, Cond.code yX10_begin cX10_begin 1 none, Cond.fieldLink RX10 21 "CrowToll$Watch" "count" "[I", Cond.methodLink RX10 54 yJ7_fill_53178, Cond.static yJ7_fill_53178, Cond.initialized RJ7, Cond.code yJ7_fill_53178 cJ7_fill_53178 4 none, Cond.fieldLink RX10 24 "CrowToll$Watch" "total" "[I", Cond.fieldLink RX10 27 "CrowToll$Watch" "lookedAt" "[I", Cond.fieldLink RX10 30 "CrowToll$Watch" "countedAt" "[I", Cond.fieldLink RX8 84 "CrowToll$Sights" "sets" "I", Cond.fieldLink RX8 87 "CrowToll$Sights" "inAll" "I", Cond.fieldLink RX8 90 "CrowToll$Sights" "inSome" "I", Cond.methodLink RX8 93 yX8_goOn, Cond.instanceMethod yX8_goOn, Cond.selects RX8 yX8_goOn yX8_goOn, Cond.code yX8_goOn cX8_goOn 4 none, Cond.methodLink RX8 103 yX8_asSeen, Cond.instanceMethod yX8_asSeen, Cond.selects RX8 yX8_asSeen yX8_asSeen, Cond.code yX8_asSeen cX8_asSeen 3 (some .boolean), Cond.fieldLink RX11 273 "CrowToll$Sights" "sets" "I", Cond.methodLink RX11 279 yX8_inNone, Cond.instanceMethod yX8_inNone, Cond.selects RX8 yX8_inNone yX8_inNone, Cond.code yX8_inNone cX8_inNone 1 (some .int), Cond.fieldLink RX8 107 "CrowToll$Road" "maybe" "I", Cond.fieldLink RX11 276 "CrowToll$Sights" "inAll" "I"] : List Cond) ++ wsX70 ++ wsX80 ++ wsX100 ++ wsX110)
set_option maxRecDepth 20000 in
theorem gr_c_X11_came_c_X11_within : GoodIn wq_c_X11_came wq_c_X11_within := List.forall_mem_cons.mpr ⟨⟨(List.mem_of_getElem? (i := 4) rfl), good_of_word rfl⟩, (fun _ h => absurd h List.not_mem_nil)⟩
set_option maxRecDepth 20000 in
theorem gq_c_X11_came_c_X11_within_107 : GoodIn wq_c_X11_came (va_wsS RX11 107 yX11_within wq_c_X11_within) := goodIn_app (List.forall_mem_cons.mpr ⟨⟨(List.mem_of_getElem? (i := 1) rfl), good_of_word rfl⟩, List.forall_mem_cons.mpr ⟨⟨(List.mem_of_getElem? (i := 2) rfl), good_of_word rfl⟩, List.forall_mem_cons.mpr ⟨⟨(List.mem_of_getElem? (i := 3) rfl), good_of_word rfl⟩, (fun _ h => absurd h List.not_mem_nil)⟩⟩⟩) gr_c_X11_came_c_X11_within
set_option maxRecDepth 20000 in
theorem gr_c_X11_came_c_X8_findSets : GoodIn wq_c_X11_came wq_c_X8_findSets := List.forall_mem_cons.mpr ⟨⟨(List.mem_of_getElem? (i := 10) rfl), good_of_word rfl⟩, List.forall_mem_append.mpr ⟨List.forall_mem_append.mpr ⟨List.forall_mem_append.mpr ⟨List.forall_mem_cons.mpr ⟨⟨(List.mem_of_getElem? (i := 11) rfl), good_of_word rfl⟩, List.forall_mem_cons.mpr ⟨⟨(List.mem_of_getElem? (i := 12) rfl), good_of_word rfl⟩, List.forall_mem_cons.mpr ⟨⟨(List.mem_of_getElem? (i := 13) rfl), good_of_word rfl⟩, List.forall_mem_cons.mpr ⟨⟨(List.mem_of_getElem? (i := 14) rfl), good_of_word rfl⟩, List.forall_mem_cons.mpr ⟨⟨(List.mem_of_getElem? (i := 15) rfl), good_of_word rfl⟩, List.forall_mem_cons.mpr ⟨⟨(List.mem_of_getElem? (i := 16) rfl), good_of_word rfl⟩, List.forall_mem_cons.mpr ⟨⟨(List.mem_of_getElem? (i := 3) rfl), good_of_word rfl⟩, List.forall_mem_cons.mpr ⟨⟨(List.mem_of_getElem? (i := 17) rfl), good_of_word rfl⟩, List.forall_mem_cons.mpr ⟨⟨(List.mem_of_getElem? (i := 18) rfl), good_of_word rfl⟩, List.forall_mem_cons.mpr ⟨⟨(List.mem_of_getElem? (i := 19) rfl), good_of_word rfl⟩, List.forall_mem_cons.mpr ⟨⟨(List.mem_of_getElem? (i := 20) rfl), good_of_word rfl⟩, List.forall_mem_cons.mpr ⟨⟨(List.mem_of_getElem? (i := 21) rfl), good_of_word rfl⟩, List.forall_mem_cons.mpr ⟨⟨(List.mem_of_getElem? (i := 22) rfl), good_of_word rfl⟩, List.forall_mem_cons.mpr ⟨⟨(List.mem_of_getElem? (i := 23) rfl), good_of_word rfl⟩, List.forall_mem_cons.mpr ⟨⟨(List.mem_of_getElem? (i := 24) rfl), good_of_word rfl⟩, List.forall_mem_cons.mpr ⟨⟨(List.mem_of_getElem? (i := 25) rfl), good_of_word rfl⟩, List.forall_mem_cons.mpr ⟨⟨(List.mem_of_getElem? (i := 26) rfl), good_of_word rfl⟩, List.forall_mem_cons.mpr ⟨⟨(List.mem_of_getElem? (i := 27) rfl), good_of_word rfl⟩, List.forall_mem_cons.mpr ⟨⟨(List.mem_of_getElem? (i := 28) rfl), good_of_word rfl⟩, List.forall_mem_cons.mpr ⟨⟨(List.mem_of_getElem? (i := 29) rfl), good_of_word rfl⟩, List.forall_mem_cons.mpr ⟨⟨(List.mem_of_getElem? (i := 30) rfl), good_of_word rfl⟩, List.forall_mem_cons.mpr ⟨⟨(List.mem_of_getElem? (i := 31) rfl), good_of_word rfl⟩, List.forall_mem_cons.mpr ⟨⟨(List.mem_of_getElem? (i := 32) rfl), good_of_word rfl⟩, List.forall_mem_cons.mpr ⟨⟨(List.mem_of_getElem? (i := 33) rfl), good_of_word rfl⟩, List.forall_mem_cons.mpr ⟨⟨(List.mem_of_getElem? (i := 34) rfl), good_of_word rfl⟩, List.forall_mem_cons.mpr ⟨⟨(List.mem_of_getElem? (i := 35) rfl), good_of_word rfl⟩, List.forall_mem_cons.mpr ⟨⟨(List.mem_of_getElem? (i := 36) rfl), good_of_word rfl⟩, List.forall_mem_cons.mpr ⟨⟨(List.mem_of_getElem? (i := 37) rfl), good_of_word rfl⟩, List.forall_mem_cons.mpr ⟨⟨(List.mem_of_getElem? (i := 38) rfl), good_of_word rfl⟩, List.forall_mem_cons.mpr ⟨⟨(List.mem_of_getElem? (i := 39) rfl), good_of_word rfl⟩, List.forall_mem_cons.mpr ⟨⟨(List.mem_of_getElem? (i := 40) rfl), good_of_word rfl⟩, List.forall_mem_cons.mpr ⟨⟨(List.mem_of_getElem? (i := 41) rfl), good_of_word rfl⟩, List.forall_mem_cons.mpr ⟨⟨(List.mem_of_getElem? (i := 42) rfl), good_of_word rfl⟩, List.forall_mem_cons.mpr ⟨⟨(List.mem_of_getElem? (i := 43) rfl), good_of_word rfl⟩, List.forall_mem_cons.mpr ⟨⟨(List.mem_of_getElem? (i := 44) rfl), good_of_word rfl⟩, List.forall_mem_cons.mpr ⟨⟨(List.mem_of_getElem? (i := 45) rfl), good_of_word rfl⟩, List.forall_mem_cons.mpr ⟨⟨(List.mem_of_getElem? (i := 46) rfl), good_of_word rfl⟩, List.forall_mem_cons.mpr ⟨⟨(List.mem_of_getElem? (i := 47) rfl), good_of_word rfl⟩, List.forall_mem_cons.mpr ⟨⟨(List.mem_of_getElem? (i := 48) rfl), good_of_word rfl⟩, List.forall_mem_cons.mpr ⟨⟨(List.mem_of_getElem? (i := 49) rfl), good_of_word rfl⟩, List.forall_mem_cons.mpr ⟨⟨(List.mem_of_getElem? (i := 50) rfl), good_of_word rfl⟩, List.forall_mem_cons.mpr ⟨⟨(List.mem_of_getElem? (i := 51) rfl), good_of_word rfl⟩, List.forall_mem_cons.mpr ⟨⟨(List.mem_of_getElem? (i := 52) rfl), good_of_word rfl⟩, List.forall_mem_cons.mpr ⟨⟨(List.mem_of_getElem? (i := 53) rfl), good_of_word rfl⟩, List.forall_mem_cons.mpr ⟨⟨(List.mem_of_getElem? (i := 9) rfl), good_of_word rfl⟩, List.forall_mem_cons.mpr ⟨⟨(List.mem_of_getElem? (i := 54) rfl), good_of_word rfl⟩, List.forall_mem_cons.mpr ⟨⟨(List.mem_of_getElem? (i := 55) rfl), good_of_word rfl⟩, List.forall_mem_cons.mpr ⟨⟨(List.mem_of_getElem? (i := 56) rfl), good_of_word rfl⟩, List.forall_mem_cons.mpr ⟨⟨(List.mem_of_getElem? (i := 57) rfl), good_of_word rfl⟩, List.forall_mem_cons.mpr ⟨⟨(List.mem_of_getElem? (i := 58) rfl), good_of_word rfl⟩, (fun _ h => absurd h List.not_mem_nil)⟩⟩⟩⟩⟩⟩⟩⟩⟩⟩⟩⟩⟩⟩⟩⟩⟩⟩⟩⟩⟩⟩⟩⟩⟩⟩⟩⟩⟩⟩⟩⟩⟩⟩⟩⟩⟩⟩⟩⟩⟩⟩⟩⟩⟩⟩⟩⟩⟩⟩, fun w h => ⟨(fun w h => List.mem_cons_of_mem _ (List.mem_append_left _ (List.mem_append_left _ (List.mem_append_left _ (List.mem_append_right _ h))))) w h, good_of_word (List.all_eq_true.mp gw_X7 w h)⟩⟩, fun w h => ⟨(fun w h => List.mem_cons_of_mem _ (List.mem_append_left _ (List.mem_append_left _ (List.mem_append_right _ h)))) w h, good_of_word (List.all_eq_true.mp gw_X8 w h)⟩⟩, fun w h => ⟨(fun w h => List.mem_cons_of_mem _ (List.mem_append_left _ (List.mem_append_right _ h))) w h, good_of_word (List.all_eq_true.mp gw_X10 w h)⟩⟩⟩
set_option maxRecDepth 20000 in
theorem gq_c_X11_came_c_X8_findSets_270 : GoodIn wq_c_X11_came (wsV RX11 270 RX8 yX8_findSets wq_c_X8_findSets) := goodIn_app (List.forall_mem_cons.mpr ⟨⟨(List.mem_of_getElem? (i := 6) rfl), good_of_word rfl⟩, List.forall_mem_cons.mpr ⟨⟨(List.mem_of_getElem? (i := 7) rfl), good_of_word rfl⟩, List.forall_mem_cons.mpr ⟨⟨(List.mem_of_getElem? (i := 8) rfl), good_of_word rfl⟩, List.forall_mem_cons.mpr ⟨⟨(List.mem_of_getElem? (i := 9) rfl), good_of_word rfl⟩, (fun _ h => absurd h List.not_mem_nil)⟩⟩⟩⟩) gr_c_X11_came_c_X8_findSets
set_option maxRecDepth 20000 in
theorem gr_c_X11_came_c_X8_inNone : GoodIn wq_c_X11_came wq_c_X8_inNone := List.forall_mem_cons.mpr ⟨⟨(List.mem_of_getElem? (i := 63) rfl), good_of_word rfl⟩, List.forall_mem_append.mpr ⟨List.forall_mem_append.mpr ⟨List.forall_mem_cons.mpr ⟨⟨(List.mem_of_getElem? (i := 11) rfl), good_of_word rfl⟩, List.forall_mem_cons.mpr ⟨⟨(List.mem_of_getElem? (i := 64) rfl), good_of_word rfl⟩, List.forall_mem_cons.mpr ⟨⟨(List.mem_of_getElem? (i := 50) rfl), good_of_word rfl⟩, (fun _ h => absurd h List.not_mem_nil)⟩⟩⟩, fun w h => ⟨(fun w h => List.mem_cons_of_mem _ (List.mem_append_left _ (List.mem_append_left _ (List.mem_append_left _ (List.mem_append_right _ h))))) w h, good_of_word (List.all_eq_true.mp gw_X7 w h)⟩⟩, fun w h => ⟨(fun w h => List.mem_cons_of_mem _ (List.mem_append_left _ (List.mem_append_left _ (List.mem_append_right _ h)))) w h, good_of_word (List.all_eq_true.mp gw_X8 w h)⟩⟩⟩
set_option maxRecDepth 20000 in
theorem gq_c_X11_came_c_X8_inNone_279 : GoodIn wq_c_X11_came (wsV RX11 279 RX8 yX8_inNone wq_c_X8_inNone) := goodIn_app (List.forall_mem_cons.mpr ⟨⟨(List.mem_of_getElem? (i := 60) rfl), good_of_word rfl⟩, List.forall_mem_cons.mpr ⟨⟨(List.mem_of_getElem? (i := 61) rfl), good_of_word rfl⟩, List.forall_mem_cons.mpr ⟨⟨(List.mem_of_getElem? (i := 62) rfl), good_of_word rfl⟩, List.forall_mem_cons.mpr ⟨⟨(List.mem_of_getElem? (i := 9) rfl), good_of_word rfl⟩, (fun _ h => absurd h List.not_mem_nil)⟩⟩⟩⟩) gr_c_X11_came_c_X8_inNone
set_option maxHeartbeats 8000000 in
set_option maxRecDepth 100000 in
theorem c_X11_came (l : Launch) (D : va_G) (cy : Nat → ClassId) (ad : Nat → Nat) (g : Nat → va_E) {f0 : List Value} {f1 : List Value} {f2 : List Value} {c3 : Nat → Int32} {c4 : Nat → Int32} {c5 : Nat → Int32} {c6 : Nat → Int32} {f7 : List Value} {c8 : Nat → Int32} {c9 : Nat → Int32} {c10 : Nat → Int32} {c11 : Nat → Int32} {c12 : Nat → Int32} {c13 : Nat → Int32} {c14 : Nat → Int32} {c15 : Nat → Int32} {n : Int32} {k1 : Int32} (o0 : g 0 = .inr (11, f0)) (f0_11 : f0[11]? = some (.ref (ad 1))) (o1 : g 1 = .inr (8, f1)) (f1_0 : f1[0]? = some (.ref (ad 2))) (f1_1 : f1[1]? = some (.ref (ad 7))) (f1_7 : f1[7]? = some (.int 0)) (f1_9 : f1[9]? = some (.ref (ad 15))) (f1_11 : f1[11]? = some (.int 0)) (f1_13 : f1[13]? = some (.int 0)) (f1_14 : f1[14]? = some (.int 0)) (f1_15 : f1[15]? = some (.int 0)) (o2 : g 2 = .inr (7, f2)) (f2_1 : f2[1]? = some (.ref (ad 3))) (f2_9 : f2[9]? = some (.ref (ad 4))) (f2_10 : f2[10]? = some (.ref (ad 5))) (f2_13 : f2[13]? = some (.ref (ad 6))) (f2_15 : f2[15]? = some (.int 0)) (f2_16 : f2[16]? = some (.int 0)) (a3 : g 3 = .inl (cy 0, 5, .inl c3)) (a4 : g 4 = .inl (cy 0, 20, .inl c4)) (a5 : g 5 = .inl (cy 0, 4, .inl c5)) (a6 : g 6 = .inl (cy 0, 12, .inl c6)) (o7 : g 7 = .inr (10, f7)) (f7_0 : f7[0]? = some (.ref (ad 2))) (f7_1 : f7[1]? = some (.ref (ad 8))) (f7_2 : f7[2]? = some (.ref (ad 9))) (f7_3 : f7[3]? = some (.ref (ad 10))) (f7_4 : f7[4]? = some (.ref (ad 11))) (f7_5 : f7[5]? = some (.ref (ad 12))) (f7_6 : f7[6]? = some (.ref (ad 13))) (f7_7 : f7[7]? = some (.ref (ad 14))) (a8 : g 8 = .inl (cy 0, 5, .inl c8)) (a9 : g 9 = .inl (cy 0, 20, .inl c9)) (a10 : g 10 = .inl (cy 0, 4, .inl c10)) (a11 : g 11 = .inl (cy 0, 5, .inl c11)) (a12 : g 12 = .inl (cy 0, 5, .inl c12)) (a13 : g 13 = .inl (cy 0, 5, .inl c13)) (a14 : g 14 = .inl (cy 0, 5, .inl c14)) (a15 : g 15 = .inl (cy 0, 12, .inl c15)) : cMi l yX11_came wq_c_X11_came { frames := 4, cells := 0, slots := 0, locals := 104 } 16 0 0 0 D cy ad g [.ref (ad 0), .int n, .int k1] (fun r nw lu => r = ans_came n) := by
  refine cM_of (Qc := fun A => cQi (fun r nw lu => r = ans_came n) D 16 0 ad g A) (cc := cX11_came) (maxL := 3) (ret := (some .int)) (by decide) rfl (Nat.le_of_ble_eq_true rfl) ?_
  intro p e s m below meth c A hC hr hlk hnm hO ls hl
  have hC : CallFix p m c cX11_came 3 s [.ref (ad 0), .int n, .int k1].toArray wq_c_X11_came RX11 := hC
  obtain ⟨hx, hb, hml, hown, hts⟩ := id hC
  have hl : lv_has ls 3 [(0, .ref (ad 0)), (1, .int n), (2, .int k1)] := hl
  have i_X10 : ∀ w ∈ wsX100, w ∈ wq_c_X11_came := fun w h => List.mem_cons_of_mem _ (List.mem_append_left _ (List.mem_append_right _ h))
  have i_X11 : ∀ w ∈ wsX110, w ∈ wq_c_X11_came := fun w h => List.mem_cons_of_mem _ (List.mem_append_right _ h)
  have i_X7 : ∀ w ∈ wsX70, w ∈ wq_c_X11_came := fun w h => List.mem_cons_of_mem _ (List.mem_append_left _ (List.mem_append_left _ (List.mem_append_left _ (List.mem_append_right _ h))))
  have i_X8 : ∀ w ∈ wsX80, w ∈ wq_c_X11_came := fun w h => List.mem_cons_of_mem _ (List.mem_append_left _ (List.mem_append_left _ (List.mem_append_right _ h)))
  refine lv_iload_n hx hb dX11_came_0 rfl (lv_at hl 1 rfl) ?_
  refine lv_iconst (v := 0) hx hb dX11_came_1 (by decide) ?_
  refine lv_iconst (v := 2) hx hb dX11_came_2 (by decide) ?_
  refine cg_Si (As := [.int n, .int 0, .int 2]) (rest := []) (mc := 0) (ms := 0) (rm := { frames := 0, cells := 0, slots := 0, locals := 0 }) hC hl.1 hO [] rfl (c_X11_within l D cy _ _ (x := n) (y := 0) (z := 2) ) gq_c_X11_came_c_X11_within_107 rfl rfl rfl 3 (by decide +kernel) ⟨Nat.le_of_ble_eq_true rfl, Nat.le_of_ble_eq_true rfl⟩ rfl rfl (Nat.le_of_ble_eq_true rfl) dX11_came_3 ⟨Nat.le_of_ble_eq_true rfl, Nat.le_of_ble_eq_true rfl⟩ (fun r_3_3 nw_3_1 l_3_2 H locs hw hO => ?_)
  rcases hw with hw | hw
  · obtain ⟨hr_3_4, rfl, rfl⟩ := hw
    have hO : cO D cy A s.heap s 16 ad (cup [] g) _ _ := hO
    refine lv_if_ne (tgt := 11) hx hb dX11_came_6 (by decide) (fun _ => ?_) (fun h => absurd h (by decide))
    refine lv_aload_n hx hb dX11_came_11 rfl (lv_at hl 0 rfl) ?_
    refine cg_get hC hO 0 (by decide) o0 rfl i_X11 11 (by decide) (List.mem_of_getElem? (i := 5) rfl) f0_11 dX11_came_12 ?_
    refine lv_iload_n hx hb dX11_came_15 rfl (lv_at hl 2 rfl) ?_
    refine cg_Vv (As := [.int k1]) (rest := []) (mc := 0) (ms := 0) (rm := { frames := 3, cells := 0, slots := 0, locals := 81 }) hC hl.1 hO [1, 2, 15, 6, 7, 4, 5, 8, 9, 10, 11, 12, 13, 14, 3] rfl (c_X8_findSets l D cy _ _ (f0 := f1) (f1 := f2) (c14 := c3) (c5 := c4) (c6 := c5) (c3 := c6) (f4 := f7) (c7 := c8) (c8 := c9) (c9 := c10) (c10 := c11) (c11 := c12) (c12 := c13) (c13 := c14) (c2 := c15) (k1 := k1) o1 f1_0 f1_1 f1_7 f1_9 f1_11 f1_13 f1_14 f1_15 o2 f2_1 f2_9 f2_10 f2_13 f2_16 a15 a6 o7 f7_0 f7_1 f7_2 f7_3 f7_4 f7_5 f7_6 f7_7 a4 a5 a8 a9 a10 a11 a12 a13 a14 a3) gq_c_X11_came_c_X8_findSets_270 rfl rfl rfl 1 (by decide +kernel) ⟨Nat.le_of_ble_eq_true rfl, Nat.le_of_ble_eq_true rfl⟩ rfl (by decide) o1 rfl rfl (Nat.le_of_ble_eq_true rfl) dX11_came_16 ⟨Nat.le_of_ble_eq_true rfl, Nat.le_of_ble_eq_true rfl⟩ (fun nw_16_5 l_16_6 H locs hw hO => ?_)
    obtain ⟨c2_16_8, c5_16_9, c7_16_10, cz_16_11, cz_16_12, cz_16_13, cz_16_14, rfl⟩ := hw
    have hO : cO D cy A s.heap s 16 ad (cup [(8, .inl (cy 0, 5, .inl c2_16_8)), (9, .inl (cy 0, 20, .inl c5_16_9)), (10, .inl (cy 0, 4, .inl c7_16_10)), (14, .inl (cy 0, 5, .inl cz_16_14)), (13, .inl (cy 0, 5, .inl cz_16_13)), (12, .inl (cy 0, 5, .inl cz_16_12)), (11, .inl (cy 0, 5, .inl cz_16_11)), (1, .inr (8, (((((((f1.set 11 (.int 0)).set 13 (.int 0)).set 14 (.int (-1))).set 15 (.int 0)).set 13 (.int 1)).set 14 (.int 0)).set 15 (.int 0))))] g) _ _ := hO
    refine lv_iload_n hx hb dX11_came_19 rfl (lv_at hl 1 rfl) ?_
    refine lv_if_ne (tgt := 31) hx hb dX11_came_20 (by decide) (fun h_20_15 => ?_) (fun h_20_15 => ?_)
    · refine lv_aload_n hx hb dX11_came_31 rfl (lv_at hl 0 rfl) ?_
      refine cg_get hC hO 0 (by decide) o0 rfl i_X11 11 (by decide) (List.mem_of_getElem? (i := 5) rfl) f0_11 dX11_came_32 ?_
      refine cg_get hC hO 1 (by decide) rfl rfl i_X8 13 (by decide) (List.mem_of_getElem? (i := 59) rfl) (fs_ne (by decide) (fs_ne (by decide) (fs_eq (fs_ne (by decide) (fs_ne (by decide) (fs_eq (fs_ne (by decide) f1_13))))))) dX11_came_35 ?_
      refine lv_if_ne (tgt := 43) hx hb dX11_came_38 (by decide) (fun _ => ?_) (fun h => absurd h (by decide))
      refine lv_iload_n hx hb dX11_came_43 rfl (lv_at hl 1 rfl) ?_
      refine lv_iconst (v := 1) hx hb dX11_came_44 (by decide) ?_
      refine lv_icmp_ne (tgt := 58) hx hb dX11_came_45 (by decide) (fun h_45_16 => ?_) (fun h_45_16 => ?_)
      · refine lv_aload_n hx hb dX11_came_58 rfl (lv_at hl 0 rfl) ?_
        refine cg_get hC hO 0 (by decide) o0 rfl i_X11 11 (by decide) (List.mem_of_getElem? (i := 5) rfl) f0_11 dX11_came_59 ?_
        refine cg_Vi (As := []) (rest := []) (mc := 0) (ms := 0) (rm := { frames := 0, cells := 0, slots := 0, locals := 0 }) hC hl.1 hO [1, 2] rfl (c_X8_inNone l D cy _ _ (f0 := (((((((f1.set 11 (.int 0)).set 13 (.int 0)).set 14 (.int (-1))).set 15 (.int 0)).set 13 (.int 1)).set 14 (.int 0)).set 15 (.int 0))) (f1 := f2) rfl (fs_ne (by decide) (fs_ne (by decide) (fs_ne (by decide) (fs_ne (by decide) (fs_ne (by decide) (fs_ne (by decide) (fs_ne (by decide) f1_0))))))) (fs_eq (fs_ne (by decide) (fs_ne (by decide) (fs_eq (fs_ne (by decide) (fs_ne (by decide) (fs_ne (by decide) f1_15))))))) o2 f2_15) gq_c_X11_came_c_X8_inNone_279 rfl rfl rfl 0 (by decide +kernel) ⟨Nat.le_of_ble_eq_true rfl, Nat.le_of_ble_eq_true rfl⟩ rfl (by decide) rfl rfl rfl (Nat.le_of_ble_eq_true rfl) dX11_came_62 ⟨Nat.le_of_ble_eq_true rfl, Nat.le_of_ble_eq_true rfl⟩ (fun r_62_19 nw_62_17 l_62_18 H locs hw hO => ?_)
        obtain ⟨rfl, rfl⟩ := hw
        have hO : cO D cy A s.heap s 16 ad (cup [(8, .inl (cy 0, 5, .inl c2_16_8)), (9, .inl (cy 0, 20, .inl c5_16_9)), (10, .inl (cy 0, 4, .inl c7_16_10)), (14, .inl (cy 0, 5, .inl cz_16_14)), (13, .inl (cy 0, 5, .inl cz_16_13)), (12, .inl (cy 0, 5, .inl cz_16_12)), (11, .inl (cy 0, 5, .inl cz_16_11)), (1, .inr (8, (((((((f1.set 11 (.int 0)).set 13 (.int 0)).set 14 (.int (-1))).set 15 (.int 0)).set 13 (.int 1)).set 14 (.int 0)).set 15 (.int 0))))] g) _ _ := hO
        exact cg_iret (nw := fun _ => 0) hC hr hlk hO.same rfl (Nat.le_of_ble_eq_true rfl) (Nat.le_of_ble_eq_true rfl) (by rw [ans_came, if_pos hr_3_4]; simp [h_20_15, h_45_16]) dX11_came_65
      · refine lv_aload_n hx hb dX11_came_48 rfl (lv_at hl 0 rfl) ?_
        refine cg_get hC hO 0 (by decide) o0 rfl i_X11 11 (by decide) (List.mem_of_getElem? (i := 5) rfl) f0_11 dX11_came_49 ?_
        refine cg_get hC hO 1 (by decide) rfl rfl i_X8 14 (by decide) (List.mem_of_getElem? (i := 65) rfl) (fs_ne (by decide) (fs_eq (fs_ne (by decide) (fs_ne (by decide) (fs_eq (fs_ne (by decide) (fs_ne (by decide) f1_14))))))) dX11_came_52 ?_
        refine lv_goto (tgt := 65) hx hb dX11_came_55 (by decide) ?_
        exact cg_iret (nw := fun _ => 0) hC hr hlk hO.same rfl (Nat.le_of_ble_eq_true rfl) (Nat.le_of_ble_eq_true rfl) (by rw [ans_came, if_pos hr_3_4]; simp [h_20_15, h_45_16]) dX11_came_65
    · refine lv_aload_n hx hb dX11_came_23 rfl (lv_at hl 0 rfl) ?_
      refine cg_get hC hO 0 (by decide) o0 rfl i_X11 11 (by decide) (List.mem_of_getElem? (i := 5) rfl) f0_11 dX11_came_24 ?_
      refine cg_get hC hO 1 (by decide) rfl rfl i_X8 13 (by decide) (List.mem_of_getElem? (i := 59) rfl) (fs_ne (by decide) (fs_ne (by decide) (fs_eq (fs_ne (by decide) (fs_ne (by decide) (fs_eq (fs_ne (by decide) f1_13))))))) dX11_came_27 ?_
      exact cg_iret (nw := fun _ => 0) hC hr hlk hO.same rfl (Nat.le_of_ble_eq_true rfl) (Nat.le_of_ble_eq_true rfl) (by rw [ans_came, if_pos hr_3_4]; simp [h_20_15]) dX11_came_30
  · obtain ⟨hr_3_20, rfl, rfl⟩ := hw
    have hO : cO D cy A s.heap s 16 ad (cup [] g) _ _ := hO
    refine lv_if_ne (tgt := 11) hx hb dX11_came_6 (by decide) (fun h => absurd h (by decide)) (fun _ => ?_)
    refine lv_iconst (v := (-1)) hx hb dX11_came_9 (by decide) ?_
    exact cg_iret (nw := fun _ => 0) hC hr hlk hO.same rfl (Nat.le_of_ble_eq_true rfl) (Nat.le_of_ble_eq_true rfl) ((if_neg (fun z => hr_3_20 z)).symm) dX11_came_10

theorem dX9_becomes_0 : decode cX9_becomes 0 = .ok (.aload_n 1, 1) := by decide +kernel
theorem dX9_becomes_1 : decode cX9_becomes 1 = .ok (.getfield 9, 3) := by decide +kernel
theorem dX9_becomes_4 : decode cX9_becomes 4 = .ok (.iconst 0, 1) := by decide +kernel
theorem dX9_becomes_5 : decode cX9_becomes 5 = .ok (.aload_n 0, 1) := by decide +kernel
theorem dX9_becomes_6 : decode cX9_becomes 6 = .ok (.getfield 9, 3) := by decide +kernel
theorem dX9_becomes_9 : decode cX9_becomes 9 = .ok (.iconst 0, 1) := by decide +kernel
theorem dX9_becomes_10 : decode cX9_becomes 10 = .ok (.bipush 24, 2) := by decide +kernel
theorem dX9_becomes_12 : decode cX9_becomes 12 = .ok (.invokestatic 41, 3) := by decide +kernel
theorem dX9_becomes_15 : decode cX9_becomes 15 = .ok (.aload_n 1, 1) := by decide +kernel
theorem dX9_becomes_16 : decode cX9_becomes 16 = .ok (.getfield 15, 3) := by decide +kernel
theorem dX9_becomes_19 : decode cX9_becomes 19 = .ok (.iconst 0, 1) := by decide +kernel
theorem dX9_becomes_20 : decode cX9_becomes 20 = .ok (.aload_n 0, 1) := by decide +kernel
theorem dX9_becomes_21 : decode cX9_becomes 21 = .ok (.getfield 15, 3) := by decide +kernel
theorem dX9_becomes_24 : decode cX9_becomes 24 = .ok (.iconst 0, 1) := by decide +kernel
theorem dX9_becomes_25 : decode cX9_becomes 25 = .ok (.bipush 24, 2) := by decide +kernel
theorem dX9_becomes_27 : decode cX9_becomes 27 = .ok (.invokestatic 41, 3) := by decide +kernel
theorem dX9_becomes_30 : decode cX9_becomes 30 = .ok (.aload_n 0, 1) := by decide +kernel
theorem dX9_becomes_31 : decode cX9_becomes 31 = .ok (.aload_n 1, 1) := by decide +kernel
theorem dX9_becomes_32 : decode cX9_becomes 32 = .ok (.getfield 37, 3) := by decide +kernel
theorem dX9_becomes_35 : decode cX9_becomes 35 = .ok (.putfield 37, 3) := by decide +kernel
theorem dX9_becomes_38 : decode cX9_becomes 38 = .ok (.aload_n 1, 1) := by decide +kernel
theorem dX9_becomes_39 : decode cX9_becomes 39 = .ok (.getfield 18, 3) := by decide +kernel
theorem dX9_becomes_42 : decode cX9_becomes 42 = .ok (.iconst 0, 1) := by decide +kernel
theorem dX9_becomes_43 : decode cX9_becomes 43 = .ok (.aload_n 0, 1) := by decide +kernel
theorem dX9_becomes_44 : decode cX9_becomes 44 = .ok (.getfield 18, 3) := by decide +kernel
theorem dX9_becomes_47 : decode cX9_becomes 47 = .ok (.iconst 0, 1) := by decide +kernel
theorem dX9_becomes_48 : decode cX9_becomes 48 = .ok (.iconst 5, 1) := by decide +kernel
theorem dX9_becomes_49 : decode cX9_becomes 49 = .ok (.invokestatic 41, 3) := by decide +kernel
theorem dX9_becomes_52 : decode cX9_becomes 52 = .ok (.aload_n 0, 1) := by decide +kernel
theorem dX9_becomes_53 : decode cX9_becomes 53 = .ok (.aload_n 1, 1) := by decide +kernel
theorem dX9_becomes_54 : decode cX9_becomes 54 = .ok (.getfield 21, 3) := by decide +kernel
theorem dX9_becomes_57 : decode cX9_becomes 57 = .ok (.putfield 21, 3) := by decide +kernel
theorem dX9_becomes_60 : decode cX9_becomes 60 = .ok (.return_, 1) := by decide +kernel
def wq_c_X9_becomes : List Cond := Cond.code yX9_becomes cX9_becomes 2 none :: (([Cond.fieldLink RX9 9 "CrowToll$Stand" "minute" "[I", Cond.methodLink RX9 41 arraycopyName, Cond.native arraycopyName, Cond.static arraycopyName, Cond.initialized "java/lang/System", Cond.fieldLink RX9 15 "CrowToll$Stand" "sacks" "[I", Cond.fieldLink RX9 37 "CrowToll$Stand" "comes" "I", Cond.fieldLink RX9 18 "CrowToll$Stand" "counts" "[I", Cond.fieldLink RX9 21 "CrowToll$Stand" "carts" "I"] : List Cond) ++ wsX90)
set_option maxHeartbeats 8000000 in
set_option maxRecDepth 100000 in
theorem c_X9_becomes (l : Launch) (D : va_G) (cy : Nat → ClassId) (ad : Nat → Nat) (g : Nat → va_E) {f0 : List Value} {f1 : List Value} {c2 : Nat → Int32} {c3 : Nat → Int32} {c4 : Nat → Int32} {c5 : Nat → Int32} {c6 : Nat → Int32} {c7 : Nat → Int32} (o0 : g 0 = .inr (9, f0)) (f0_0 : f0[0]? = some (.ref (ad 3))) (f0_1 : f0[1]? = some (.ref (ad 5))) (f0_2 : f0[2]? = some (.int 0)) (f0_3 : f0[3]? = some (.ref (ad 7))) (f0_4 : f0[4]? = some (.int (-1))) (o1 : g 1 = .inr (9, f1)) (f1_0 : f1[0]? = some (.ref (ad 2))) (f1_1 : f1[1]? = some (.ref (ad 4))) (f1_2 : f1[2]? = some (.int (-1))) (f1_3 : f1[3]? = some (.ref (ad 6))) (f1_4 : f1[4]? = some (.int 0)) (a2 : g 2 = .inl (cy 0, 24, .inl c2)) (a3 : g 3 = .inl (cy 0, 24, .inl c3)) (a4 : g 4 = .inl (cy 0, 24, .inl c4)) (a5 : g 5 = .inl (cy 0, 24, .inl c5)) (a6 : g 6 = .inl (cy 0, 5, .inl c6)) (a7 : g 7 = .inl (cy 0, 5, .inl c7)) : cMv l yX9_becomes wq_c_X9_becomes { frames := 1, cells := 0, slots := 0, locals := 60 } 8 0 0 0 D cy ad g [.ref (ad 0), .ref (ad 1)] (fun nw lu => ∃ (c3_12_1 : Nat → Int32) (c5_27_2 : Nat → Int32) (c7_49_3 : Nat → Int32), lu = [(3, .inl (cy 0, 24, .inl c3_12_1)), (5, .inl (cy 0, 24, .inl c5_27_2)), (0, .inr (9, ((f0.set 2 (.int (-1))).set 4 (.int 0)))), (7, .inl (cy 0, 5, .inl c7_49_3))]) := by
  refine cM_of (Qc := fun A => cQv (fun nw lu => ∃ (c3_12_1 : Nat → Int32) (c5_27_2 : Nat → Int32) (c7_49_3 : Nat → Int32), lu = [(3, .inl (cy 0, 24, .inl c3_12_1)), (5, .inl (cy 0, 24, .inl c5_27_2)), (0, .inr (9, ((f0.set 2 (.int (-1))).set 4 (.int 0)))), (7, .inl (cy 0, 5, .inl c7_49_3))]) D 8 0 ad g A) (cc := cX9_becomes) (maxL := 2) (ret := none) (by decide) rfl (Nat.le_of_ble_eq_true rfl) ?_
  intro p e s m below meth c A hC hr hlk hnm hO ls hl
  have hC : CallFix p m c cX9_becomes 2 s [.ref (ad 0), .ref (ad 1)].toArray wq_c_X9_becomes RX9 := hC
  obtain ⟨hx, hb, hml, hown, hts⟩ := id hC
  have hl : lv_has ls 2 [(0, .ref (ad 0)), (1, .ref (ad 1))] := hl
  have i_X9 : ∀ w ∈ wsX90, w ∈ wq_c_X9_becomes := fun w h => List.mem_cons_of_mem _ (List.mem_append_right _ h)
  refine lv_aload_n hx hb dX9_becomes_0 rfl (lv_at hl 1 rfl) ?_
  refine cg_get hC hO 1 (by decide) o1 rfl i_X9 0 (by decide) (List.mem_of_getElem? (i := 1) rfl) f1_0 dX9_becomes_1 ?_
  refine lv_iconst (v := 0) hx hb dX9_becomes_4 (by decide) ?_
  refine lv_aload_n hx hb dX9_becomes_5 rfl (lv_at hl 0 rfl) ?_
  refine cg_get hC hO 0 (by decide) o0 rfl i_X9 0 (by decide) (List.mem_of_getElem? (i := 1) rfl) f0_0 dX9_becomes_6 ?_
  refine lv_iconst (v := 0) hx hb dX9_becomes_9 (by decide) ?_
  refine lv_bipush (v := 24) hx hb dX9_becomes_10 (by decide) ?_
  refine cg_copy hC hl.1 hO (List.mem_of_getElem? (i := 2) rfl) (List.mem_of_getElem? (i := 3) rfl) (List.mem_of_getElem? (i := 4) rfl) (List.mem_of_getElem? (i := 5) rfl) 2 3 (by decide) (by decide) a2 a3 (by decide) (by decide) (by decide) (by decide) (by decide) (Nat.le_of_ble_eq_true rfl) (Nat.le_of_ble_eq_true rfl) dX9_becomes_12 (fun H locs hO => ?_)
  have hO : cO D cy A s.heap s 8 ad (cup [(3, .inl (cy 0, 24, .inl (va_cpy c2 c3 (0 : Int32).toNatClampNeg (0 : Int32).toNatClampNeg (24 : Int32).toNatClampNeg)))] g) _ _ := hO
  obtain ⟨c3_12_1, ec3_12_1⟩ : ∃ z, z = (va_cpy c2 c3 (0 : Int32).toNatClampNeg (0 : Int32).toNatClampNeg (24 : Int32).toNatClampNeg) := ⟨_, rfl⟩
  rw [← ec3_12_1] at hO
  have hO : cO D cy A s.heap s 8 ad (cup [(3, .inl (cy 0, 24, .inl c3_12_1))] g) _ _ := hO
  refine lv_aload_n hx hb dX9_becomes_15 rfl (lv_at hl 1 rfl) ?_
  refine cg_get hC hO 1 (by decide) o1 rfl i_X9 1 (by decide) (List.mem_of_getElem? (i := 6) rfl) f1_1 dX9_becomes_16 ?_
  refine lv_iconst (v := 0) hx hb dX9_becomes_19 (by decide) ?_
  refine lv_aload_n hx hb dX9_becomes_20 rfl (lv_at hl 0 rfl) ?_
  refine cg_get hC hO 0 (by decide) o0 rfl i_X9 1 (by decide) (List.mem_of_getElem? (i := 6) rfl) f0_1 dX9_becomes_21 ?_
  refine lv_iconst (v := 0) hx hb dX9_becomes_24 (by decide) ?_
  refine lv_bipush (v := 24) hx hb dX9_becomes_25 (by decide) ?_
  refine cg_copy hC hl.1 hO (List.mem_of_getElem? (i := 2) rfl) (List.mem_of_getElem? (i := 3) rfl) (List.mem_of_getElem? (i := 4) rfl) (List.mem_of_getElem? (i := 5) rfl) 4 5 (by decide) (by decide) a4 a5 (by decide) (by decide) (by decide) (by decide) (by decide) (Nat.le_of_ble_eq_true rfl) (Nat.le_of_ble_eq_true rfl) dX9_becomes_27 (fun H locs hO => ?_)
  have hO : cO D cy A s.heap s 8 ad (cup [(3, .inl (cy 0, 24, .inl c3_12_1)), (5, .inl (cy 0, 24, .inl (va_cpy c4 c5 (0 : Int32).toNatClampNeg (0 : Int32).toNatClampNeg (24 : Int32).toNatClampNeg)))] g) _ _ := hO
  obtain ⟨c5_27_2, ec5_27_2⟩ : ∃ z, z = (va_cpy c4 c5 (0 : Int32).toNatClampNeg (0 : Int32).toNatClampNeg (24 : Int32).toNatClampNeg) := ⟨_, rfl⟩
  rw [← ec5_27_2] at hO
  have hO : cO D cy A s.heap s 8 ad (cup [(3, .inl (cy 0, 24, .inl c3_12_1)), (5, .inl (cy 0, 24, .inl c5_27_2))] g) _ _ := hO
  refine lv_aload_n hx hb dX9_becomes_30 rfl (lv_at hl 0 rfl) ?_
  refine lv_aload_n hx hb dX9_becomes_31 rfl (lv_at hl 1 rfl) ?_
  refine cg_get hC hO 1 (by decide) o1 rfl i_X9 2 (by decide) (List.mem_of_getElem? (i := 7) rfl) f1_2 dX9_becomes_32 ?_
  refine cg_put hC hO 0 (by decide) o0 rfl i_X9 tyX9_ok nmX9 2 (by decide) (List.mem_of_getElem? (i := 7) rfl) rfl rfl rfl (fs_lt f0_2) dX9_becomes_35 (fun H locs hO => ?_)
  have hO : cO D cy A s.heap s 8 ad (cup [(3, .inl (cy 0, 24, .inl c3_12_1)), (5, .inl (cy 0, 24, .inl c5_27_2)), (0, .inr (9, (f0.set 2 (.int (-1)))))] g) _ _ := hO
  refine lv_aload_n hx hb dX9_becomes_38 rfl (lv_at hl 1 rfl) ?_
  refine cg_get hC hO 1 (by decide) o1 rfl i_X9 3 (by decide) (List.mem_of_getElem? (i := 8) rfl) f1_3 dX9_becomes_39 ?_
  refine lv_iconst (v := 0) hx hb dX9_becomes_42 (by decide) ?_
  refine lv_aload_n hx hb dX9_becomes_43 rfl (lv_at hl 0 rfl) ?_
  refine cg_get hC hO 0 (by decide) rfl rfl i_X9 3 (by decide) (List.mem_of_getElem? (i := 8) rfl) (fs_ne (by decide) f0_3) dX9_becomes_44 ?_
  refine lv_iconst (v := 0) hx hb dX9_becomes_47 (by decide) ?_
  refine lv_iconst (v := 5) hx hb dX9_becomes_48 (by decide) ?_
  refine cg_copy hC hl.1 hO (List.mem_of_getElem? (i := 2) rfl) (List.mem_of_getElem? (i := 3) rfl) (List.mem_of_getElem? (i := 4) rfl) (List.mem_of_getElem? (i := 5) rfl) 6 7 (by decide) (by decide) a6 a7 (by decide) (by decide) (by decide) (by decide) (by decide) (Nat.le_of_ble_eq_true rfl) (Nat.le_of_ble_eq_true rfl) dX9_becomes_49 (fun H locs hO => ?_)
  have hO : cO D cy A s.heap s 8 ad (cup [(3, .inl (cy 0, 24, .inl c3_12_1)), (5, .inl (cy 0, 24, .inl c5_27_2)), (0, .inr (9, (f0.set 2 (.int (-1))))), (7, .inl (cy 0, 5, .inl (va_cpy c6 c7 (0 : Int32).toNatClampNeg (0 : Int32).toNatClampNeg (5 : Int32).toNatClampNeg)))] g) _ _ := hO
  obtain ⟨c7_49_3, ec7_49_3⟩ : ∃ z, z = (va_cpy c6 c7 (0 : Int32).toNatClampNeg (0 : Int32).toNatClampNeg (5 : Int32).toNatClampNeg) := ⟨_, rfl⟩
  rw [← ec7_49_3] at hO
  have hO : cO D cy A s.heap s 8 ad (cup [(3, .inl (cy 0, 24, .inl c3_12_1)), (5, .inl (cy 0, 24, .inl c5_27_2)), (0, .inr (9, (f0.set 2 (.int (-1))))), (7, .inl (cy 0, 5, .inl c7_49_3))] g) _ _ := hO
  refine lv_aload_n hx hb dX9_becomes_52 rfl (lv_at hl 0 rfl) ?_
  refine lv_aload_n hx hb dX9_becomes_53 rfl (lv_at hl 1 rfl) ?_
  refine cg_get hC hO 1 (by decide) o1 rfl i_X9 4 (by decide) (List.mem_of_getElem? (i := 9) rfl) f1_4 dX9_becomes_54 ?_
  refine cg_put hC hO 0 (by decide) rfl rfl i_X9 tyX9_ok nmX9 4 (by decide) (List.mem_of_getElem? (i := 9) rfl) rfl rfl rfl (fs_lt (fs_ne (by decide) f0_4)) dX9_becomes_57 (fun H locs hO => ?_)
  have hO : cO D cy A s.heap s 8 ad (cup [(3, .inl (cy 0, 24, .inl c3_12_1)), (5, .inl (cy 0, 24, .inl c5_27_2)), (0, .inr (9, ((f0.set 2 (.int (-1))).set 4 (.int 0)))), (7, .inl (cy 0, 5, .inl c7_49_3))] g) _ _ := hO
  exact cg_vret (nw := fun _ => 0) hC hr hlk hO.same (Nat.le_of_ble_eq_true rfl) (Nat.le_of_ble_eq_true rfl) (⟨c3_12_1, c5_27_2, c7_49_3, rfl⟩) dX9_becomes_60

theorem dX11_image_0 : decode cX11_image 0 = .ok (.iload_n 1, 1) := by decide +kernel
theorem dX11_image_1 : decode cX11_image 1 = .ok (.iconst 0, 1) := by decide +kernel
theorem dX11_image_2 : decode cX11_image 2 = .ok (.iconst 2, 1) := by decide +kernel
theorem dX11_image_3 : decode cX11_image 3 = .ok (.invokestatic 107, 3) := by decide +kernel
theorem dX11_image_6 : decode cX11_image 6 = .ok (.ifCond .ne 5, 3) := by decide +kernel
theorem dX11_image_9 : decode cX11_image 9 = .ok (.iconst (-1), 1) := by decide +kernel
theorem dX11_image_10 : decode cX11_image 10 = .ok (.ireturn, 1) := by decide +kernel
theorem dX11_image_11 : decode cX11_image 11 = .ok (.aload_n 0, 1) := by decide +kernel
theorem dX11_image_12 : decode cX11_image 12 = .ok (.getfield 45, 3) := by decide +kernel
theorem dX11_image_15 : decode cX11_image 15 = .ok (.iload_n 1, 1) := by decide +kernel
theorem dX11_image_16 : decode cX11_image 16 = .ok (.aaload, 1) := by decide +kernel
theorem dX11_image_17 : decode cX11_image 17 = .ok (.aload_n 0, 1) := by decide +kernel
theorem dX11_image_18 : decode cX11_image 18 = .ok (.getfield 37, 3) := by decide +kernel
theorem dX11_image_21 : decode cX11_image 21 = .ok (.invokevirtual 282, 3) := by decide +kernel
theorem dX11_image_24 : decode cX11_image 24 = .ok (.aload_n 0, 1) := by decide +kernel
theorem dX11_image_25 : decode cX11_image 25 = .ok (.getfield 37, 3) := by decide +kernel
theorem dX11_image_28 : decode cX11_image 28 = .ok (.getfield 49, 3) := by decide +kernel
theorem dX11_image_31 : decode cX11_image 31 = .ok (.ireturn, 1) := by decide +kernel
def wq_c_X11_image : List Cond := Cond.code yX11_image cX11_image 2 (some .int) :: (([Cond.methodLink RX11 107 yX11_within, Cond.static yX11_within, Cond.initialized RX11, Cond.code yX11_within cX11_within 3 (some .boolean), Cond.fieldLink RX11 45 "CrowToll" "boxes" "[LCrowToll$Stand;", Cond.fieldLink RX11 37 "CrowToll" "stand" "LCrowToll$Stand;", Cond.methodLink RX11 282 yX9_becomes, Cond.instanceMethod yX9_becomes, Cond.selects RX9 yX9_becomes yX9_becomes, Cond.initialized RX9, Cond.code yX9_becomes cX9_becomes 2 none, Cond.fieldLink RX9 9 "CrowToll$Stand" "minute" "[I", Cond.methodLink RX9 41 arraycopyName, Cond.native arraycopyName, Cond.static arraycopyName, Cond.initialized "java/lang/System", Cond.fieldLink RX9 15 "CrowToll$Stand" "sacks" "[I", Cond.fieldLink RX9 37 "CrowToll$Stand" "comes" "I", Cond.fieldLink RX9 18 "CrowToll$Stand" "counts" "[I", Cond.fieldLink RX9 21 "CrowToll$Stand" "carts" "I", Cond.fieldLink RX11 49 "CrowToll$Stand" "carts" "I"] : List Cond) ++ wsX90 ++ wsX110)
set_option maxRecDepth 20000 in
theorem gr_c_X11_image_c_X11_within : GoodIn wq_c_X11_image wq_c_X11_within := List.forall_mem_cons.mpr ⟨⟨(List.mem_of_getElem? (i := 4) rfl), good_of_word rfl⟩, (fun _ h => absurd h List.not_mem_nil)⟩
set_option maxRecDepth 20000 in
theorem gq_c_X11_image_c_X11_within_107 : GoodIn wq_c_X11_image (va_wsS RX11 107 yX11_within wq_c_X11_within) := goodIn_app (List.forall_mem_cons.mpr ⟨⟨(List.mem_of_getElem? (i := 1) rfl), good_of_word rfl⟩, List.forall_mem_cons.mpr ⟨⟨(List.mem_of_getElem? (i := 2) rfl), good_of_word rfl⟩, List.forall_mem_cons.mpr ⟨⟨(List.mem_of_getElem? (i := 3) rfl), good_of_word rfl⟩, (fun _ h => absurd h List.not_mem_nil)⟩⟩⟩) gr_c_X11_image_c_X11_within
set_option maxRecDepth 20000 in
theorem gr_c_X11_image_c_X9_becomes : GoodIn wq_c_X11_image wq_c_X9_becomes := List.forall_mem_cons.mpr ⟨⟨(List.mem_of_getElem? (i := 11) rfl), good_of_word rfl⟩, List.forall_mem_append.mpr ⟨List.forall_mem_cons.mpr ⟨⟨(List.mem_of_getElem? (i := 12) rfl), good_of_word rfl⟩, List.forall_mem_cons.mpr ⟨⟨(List.mem_of_getElem? (i := 13) rfl), good_of_word rfl⟩, List.forall_mem_cons.mpr ⟨⟨(List.mem_of_getElem? (i := 14) rfl), good_of_word rfl⟩, List.forall_mem_cons.mpr ⟨⟨(List.mem_of_getElem? (i := 15) rfl), good_of_word rfl⟩, List.forall_mem_cons.mpr ⟨⟨(List.mem_of_getElem? (i := 16) rfl), good_of_word rfl⟩, List.forall_mem_cons.mpr ⟨⟨(List.mem_of_getElem? (i := 17) rfl), good_of_word rfl⟩, List.forall_mem_cons.mpr ⟨⟨(List.mem_of_getElem? (i := 18) rfl), good_of_word rfl⟩, List.forall_mem_cons.mpr ⟨⟨(List.mem_of_getElem? (i := 19) rfl), good_of_word rfl⟩, List.forall_mem_cons.mpr ⟨⟨(List.mem_of_getElem? (i := 20) rfl), good_of_word rfl⟩, (fun _ h => absurd h List.not_mem_nil)⟩⟩⟩⟩⟩⟩⟩⟩⟩, fun w h => ⟨(fun w h => List.mem_cons_of_mem _ (List.mem_append_left _ (List.mem_append_right _ h))) w h, good_of_word (List.all_eq_true.mp gw_X9 w h)⟩⟩⟩
set_option maxRecDepth 20000 in
theorem gq_c_X11_image_c_X9_becomes_282 : GoodIn wq_c_X11_image (wsV RX11 282 RX9 yX9_becomes wq_c_X9_becomes) := goodIn_app (List.forall_mem_cons.mpr ⟨⟨(List.mem_of_getElem? (i := 7) rfl), good_of_word rfl⟩, List.forall_mem_cons.mpr ⟨⟨(List.mem_of_getElem? (i := 8) rfl), good_of_word rfl⟩, List.forall_mem_cons.mpr ⟨⟨(List.mem_of_getElem? (i := 9) rfl), good_of_word rfl⟩, List.forall_mem_cons.mpr ⟨⟨(List.mem_of_getElem? (i := 10) rfl), good_of_word rfl⟩, (fun _ h => absurd h List.not_mem_nil)⟩⟩⟩⟩) gr_c_X11_image_c_X9_becomes
set_option maxHeartbeats 8000000 in
set_option maxRecDepth 100000 in
theorem c_X11_image (l : Launch) (D : va_G) (cy : Nat → ClassId) (ad : Nat → Nat) (g : Nat → va_E) {f0 : List Value} {f2 : List Value} {c3 : Nat → Int32} {c4 : Nat → Int32} {c5 : Nat → Int32} {f6 : List Value} {c7 : Nat → Int32} {c8 : Nat → Int32} {c9 : Nat → Int32} {f10 : List Value} {c11 : Nat → Int32} {c12 : Nat → Int32} {c13 : Nat → Int32} {f14 : List Value} {c15 : Nat → Int32} {c16 : Nat → Int32} {c17 : Nat → Int32} {n : Int32} (o0 : g 0 = .inr (11, f0)) (f0_4 : f0[4]? = some (.ref (ad 6))) (f0_5 : f0[5]? = some (.ref (ad 1))) (a1 : g 1 = .inl (cy 4, 3, .inr (.inr (.inr (.inr (va_up (va_up (va_up (fun _ => none) (0 : Int32).toNatClampNeg (some (ad 2))) (1 : Int32).toNatClampNeg (some (ad 10))) (2 : Int32).toNatClampNeg (some (ad 14)))))))) (o2 : g 2 = .inr (9, f2)) (f2_0 : f2[0]? = some (.ref (ad 3))) (f2_1 : f2[1]? = some (.ref (ad 4))) (f2_2 : f2[2]? = some (.int 0)) (f2_3 : f2[3]? = some (.ref (ad 5))) (f2_4 : f2[4]? = some (.int (-1))) (a3 : g 3 = .inl (cy 0, 24, .inl c3)) (a4 : g 4 = .inl (cy 0, 24, .inl c4)) (a5 : g 5 = .inl (cy 0, 5, .inl c5)) (o6 : g 6 = .inr (9, f6)) (f6_0 : f6[0]? = some (.ref (ad 7))) (f6_1 : f6[1]? = some (.ref (ad 8))) (f6_2 : f6[2]? = some (.int (-1))) (f6_3 : f6[3]? = some (.ref (ad 9))) (f6_4 : f6[4]? = some (.int 0)) (a7 : g 7 = .inl (cy 0, 24, .inl c7)) (a8 : g 8 = .inl (cy 0, 24, .inl c8)) (a9 : g 9 = .inl (cy 0, 5, .inl c9)) (o10 : g 10 = .inr (9, f10)) (f10_0 : f10[0]? = some (.ref (ad 11))) (f10_1 : f10[1]? = some (.ref (ad 12))) (f10_2 : f10[2]? = some (.int 0)) (f10_3 : f10[3]? = some (.ref (ad 13))) (f10_4 : f10[4]? = some (.int (-1))) (a11 : g 11 = .inl (cy 0, 24, .inl c11)) (a12 : g 12 = .inl (cy 0, 24, .inl c12)) (a13 : g 13 = .inl (cy 0, 5, .inl c13)) (o14 : g 14 = .inr (9, f14)) (f14_0 : f14[0]? = some (.ref (ad 15))) (f14_1 : f14[1]? = some (.ref (ad 16))) (f14_2 : f14[2]? = some (.int 0)) (f14_3 : f14[3]? = some (.ref (ad 17))) (f14_4 : f14[4]? = some (.int (-1))) (a15 : g 15 = .inl (cy 0, 24, .inl c15)) (a16 : g 16 = .inl (cy 0, 24, .inl c16)) (a17 : g 17 = .inl (cy 0, 5, .inl c17)) : cMi l yX11_image wq_c_X11_image { frames := 2, cells := 0, slots := 0, locals := 81 } 18 0 0 0 D cy ad g [.ref (ad 0), .int n] (fun r nw lu => r = ans_image n) := by
  refine cM_of (Qc := fun A => cQi (fun r nw lu => r = ans_image n) D 18 0 ad g A) (cc := cX11_image) (maxL := 2) (ret := (some .int)) (by decide) rfl (Nat.le_of_ble_eq_true rfl) ?_
  intro p e s m below meth c A hC hr hlk hnm hO ls hl
  have hC : CallFix p m c cX11_image 2 s [.ref (ad 0), .int n].toArray wq_c_X11_image RX11 := hC
  obtain ⟨hx, hb, hml, hown, hts⟩ := id hC
  have hl : lv_has ls 2 [(0, .ref (ad 0)), (1, .int n)] := hl
  have i_X11 : ∀ w ∈ wsX110, w ∈ wq_c_X11_image := fun w h => List.mem_cons_of_mem _ (List.mem_append_right _ h)
  have i_X9 : ∀ w ∈ wsX90, w ∈ wq_c_X11_image := fun w h => List.mem_cons_of_mem _ (List.mem_append_left _ (List.mem_append_right _ h))
  refine lv_iload_n hx hb dX11_image_0 rfl (lv_at hl 1 rfl) ?_
  refine lv_iconst (v := 0) hx hb dX11_image_1 (by decide) ?_
  refine lv_iconst (v := 2) hx hb dX11_image_2 (by decide) ?_
  refine cg_Si (As := [.int n, .int 0, .int 2]) (rest := []) (mc := 0) (ms := 0) (rm := { frames := 0, cells := 0, slots := 0, locals := 0 }) hC hl.1 hO [] rfl (c_X11_within l D cy _ _ (x := n) (y := 0) (z := 2) ) gq_c_X11_image_c_X11_within_107 rfl rfl rfl 3 (by decide +kernel) ⟨Nat.le_of_ble_eq_true rfl, Nat.le_of_ble_eq_true rfl⟩ rfl rfl (Nat.le_of_ble_eq_true rfl) dX11_image_3 ⟨Nat.le_of_ble_eq_true rfl, Nat.le_of_ble_eq_true rfl⟩ (fun r_3_3 nw_3_1 l_3_2 H locs hw hO => ?_)
  rcases hw with hw | hw
  · obtain ⟨hr_3_4, rfl, rfl⟩ := hw
    have hO : cO D cy A s.heap s 18 ad (cup [] g) _ _ := hO
    refine lv_if_ne (tgt := 11) hx hb dX11_image_6 (by decide) (fun _ => ?_) (fun h => absurd h (by decide))
    obtain ⟨n_n, hn_n, rfl⟩ := rng_nat (n := 2) hr_3_4 (by decide) rfl
    rcases (show n_n = 0 ∨ n_n = 1 ∨ n_n = 2 by omega) with rfl | rfl | rfl
    · have hl : lv_has ls 2 [(0, .ref (ad 0)), (1, .int 0)] := hl
      refine lv_aload_n hx hb dX11_image_11 rfl (lv_at hl 0 rfl) ?_
      refine cg_get hC hO 0 (by decide) o0 rfl i_X11 5 (by decide) (List.mem_of_getElem? (i := 5) rfl) f0_5 dX11_image_12 ?_
      refine lv_iload_n hx hb dX11_image_15 rfl (lv_at hl 1 rfl) ?_
      refine cg_aald hC hO 1 (by decide) a1 (cin (by decide)) (b := (ad 2)) rfl dX11_image_16 ?_
      refine lv_aload_n hx hb dX11_image_17 rfl (lv_at hl 0 rfl) ?_
      refine cg_get hC hO 0 (by decide) o0 rfl i_X11 4 (by decide) (List.mem_of_getElem? (i := 6) rfl) f0_4 dX11_image_18 ?_
      refine cg_Vv (As := [.ref (ad 6)]) (rest := []) (mc := 0) (ms := 0) (rm := { frames := 1, cells := 0, slots := 0, locals := 60 }) hC hl.1 hO [2, 6, 7, 3, 8, 4, 9, 5] rfl (c_X9_becomes l D cy _ _ (f0 := f2) (c3 := c3) (c5 := c4) (c7 := c5) (f1 := f6) (c2 := c7) (c4 := c8) (c6 := c9) o2 f2_0 f2_1 f2_2 f2_3 f2_4 o6 f6_0 f6_1 f6_2 f6_3 f6_4 a7 a3 a8 a4 a9 a5) gq_c_X11_image_c_X9_becomes_282 rfl rfl rfl 1 (by decide +kernel) ⟨Nat.le_of_ble_eq_true rfl, Nat.le_of_ble_eq_true rfl⟩ rfl (by decide) o2 rfl rfl (Nat.le_of_ble_eq_true rfl) dX11_image_21 ⟨Nat.le_of_ble_eq_true rfl, Nat.le_of_ble_eq_true rfl⟩ (fun nw_21_5 l_21_6 H locs hw hO => ?_)
      obtain ⟨c3_21_8, c5_21_9, c7_21_10, rfl⟩ := hw
      have hO : cO D cy A s.heap s 18 ad (cup [(5, .inl (cy 0, 5, .inl c7_21_10)), (2, .inr (9, ((f2.set 2 (.int (-1))).set 4 (.int 0)))), (4, .inl (cy 0, 24, .inl c5_21_9)), (3, .inl (cy 0, 24, .inl c3_21_8))] g) _ _ := hO
      refine lv_aload_n hx hb dX11_image_24 rfl (lv_at hl 0 rfl) ?_
      refine cg_get hC hO 0 (by decide) o0 rfl i_X11 4 (by decide) (List.mem_of_getElem? (i := 6) rfl) f0_4 dX11_image_25 ?_
      refine cg_get hC hO 6 (by decide) o6 rfl i_X9 4 (by decide) (List.mem_of_getElem? (i := 21) rfl) f6_4 dX11_image_28 ?_
      exact cg_iret (nw := fun _ => 0) hC hr hlk hO.same rfl (Nat.le_of_ble_eq_true rfl) (Nat.le_of_ble_eq_true rfl) ((if_pos hr_3_4).symm) dX11_image_31
    · have hl : lv_has ls 2 [(0, .ref (ad 0)), (1, .int 1)] := hl
      refine lv_aload_n hx hb dX11_image_11 rfl (lv_at hl 0 rfl) ?_
      refine cg_get hC hO 0 (by decide) o0 rfl i_X11 5 (by decide) (List.mem_of_getElem? (i := 5) rfl) f0_5 dX11_image_12 ?_
      refine lv_iload_n hx hb dX11_image_15 rfl (lv_at hl 1 rfl) ?_
      refine cg_aald hC hO 1 (by decide) a1 (cin (by decide)) (b := (ad 10)) rfl dX11_image_16 ?_
      refine lv_aload_n hx hb dX11_image_17 rfl (lv_at hl 0 rfl) ?_
      refine cg_get hC hO 0 (by decide) o0 rfl i_X11 4 (by decide) (List.mem_of_getElem? (i := 6) rfl) f0_4 dX11_image_18 ?_
      refine cg_Vv (As := [.ref (ad 6)]) (rest := []) (mc := 0) (ms := 0) (rm := { frames := 1, cells := 0, slots := 0, locals := 60 }) hC hl.1 hO [10, 6, 7, 11, 8, 12, 9, 13] rfl (c_X9_becomes l D cy _ _ (f0 := f10) (c3 := c11) (c5 := c12) (c7 := c13) (f1 := f6) (c2 := c7) (c4 := c8) (c6 := c9) o10 f10_0 f10_1 f10_2 f10_3 f10_4 o6 f6_0 f6_1 f6_2 f6_3 f6_4 a7 a11 a8 a12 a9 a13) gq_c_X11_image_c_X9_becomes_282 rfl rfl rfl 1 (by decide +kernel) ⟨Nat.le_of_ble_eq_true rfl, Nat.le_of_ble_eq_true rfl⟩ rfl (by decide) o10 rfl rfl (Nat.le_of_ble_eq_true rfl) dX11_image_21 ⟨Nat.le_of_ble_eq_true rfl, Nat.le_of_ble_eq_true rfl⟩ (fun nw_21_11 l_21_12 H locs hw hO => ?_)
      obtain ⟨c3_21_14, c5_21_15, c7_21_16, rfl⟩ := hw
      have hO : cO D cy A s.heap s 18 ad (cup [(13, .inl (cy 0, 5, .inl c7_21_16)), (10, .inr (9, ((f10.set 2 (.int (-1))).set 4 (.int 0)))), (12, .inl (cy 0, 24, .inl c5_21_15)), (11, .inl (cy 0, 24, .inl c3_21_14))] g) _ _ := hO
      refine lv_aload_n hx hb dX11_image_24 rfl (lv_at hl 0 rfl) ?_
      refine cg_get hC hO 0 (by decide) o0 rfl i_X11 4 (by decide) (List.mem_of_getElem? (i := 6) rfl) f0_4 dX11_image_25 ?_
      refine cg_get hC hO 6 (by decide) o6 rfl i_X9 4 (by decide) (List.mem_of_getElem? (i := 21) rfl) f6_4 dX11_image_28 ?_
      exact cg_iret (nw := fun _ => 0) hC hr hlk hO.same rfl (Nat.le_of_ble_eq_true rfl) (Nat.le_of_ble_eq_true rfl) ((if_pos hr_3_4).symm) dX11_image_31
    · have hl : lv_has ls 2 [(0, .ref (ad 0)), (1, .int 2)] := hl
      refine lv_aload_n hx hb dX11_image_11 rfl (lv_at hl 0 rfl) ?_
      refine cg_get hC hO 0 (by decide) o0 rfl i_X11 5 (by decide) (List.mem_of_getElem? (i := 5) rfl) f0_5 dX11_image_12 ?_
      refine lv_iload_n hx hb dX11_image_15 rfl (lv_at hl 1 rfl) ?_
      refine cg_aald hC hO 1 (by decide) a1 (cin (by decide)) (b := (ad 14)) rfl dX11_image_16 ?_
      refine lv_aload_n hx hb dX11_image_17 rfl (lv_at hl 0 rfl) ?_
      refine cg_get hC hO 0 (by decide) o0 rfl i_X11 4 (by decide) (List.mem_of_getElem? (i := 6) rfl) f0_4 dX11_image_18 ?_
      refine cg_Vv (As := [.ref (ad 6)]) (rest := []) (mc := 0) (ms := 0) (rm := { frames := 1, cells := 0, slots := 0, locals := 60 }) hC hl.1 hO [14, 6, 7, 15, 8, 16, 9, 17] rfl (c_X9_becomes l D cy _ _ (f0 := f14) (c3 := c15) (c5 := c16) (c7 := c17) (f1 := f6) (c2 := c7) (c4 := c8) (c6 := c9) o14 f14_0 f14_1 f14_2 f14_3 f14_4 o6 f6_0 f6_1 f6_2 f6_3 f6_4 a7 a15 a8 a16 a9 a17) gq_c_X11_image_c_X9_becomes_282 rfl rfl rfl 1 (by decide +kernel) ⟨Nat.le_of_ble_eq_true rfl, Nat.le_of_ble_eq_true rfl⟩ rfl (by decide) o14 rfl rfl (Nat.le_of_ble_eq_true rfl) dX11_image_21 ⟨Nat.le_of_ble_eq_true rfl, Nat.le_of_ble_eq_true rfl⟩ (fun nw_21_17 l_21_18 H locs hw hO => ?_)
      obtain ⟨c3_21_20, c5_21_21, c7_21_22, rfl⟩ := hw
      have hO : cO D cy A s.heap s 18 ad (cup [(17, .inl (cy 0, 5, .inl c7_21_22)), (14, .inr (9, ((f14.set 2 (.int (-1))).set 4 (.int 0)))), (16, .inl (cy 0, 24, .inl c5_21_21)), (15, .inl (cy 0, 24, .inl c3_21_20))] g) _ _ := hO
      refine lv_aload_n hx hb dX11_image_24 rfl (lv_at hl 0 rfl) ?_
      refine cg_get hC hO 0 (by decide) o0 rfl i_X11 4 (by decide) (List.mem_of_getElem? (i := 6) rfl) f0_4 dX11_image_25 ?_
      refine cg_get hC hO 6 (by decide) o6 rfl i_X9 4 (by decide) (List.mem_of_getElem? (i := 21) rfl) f6_4 dX11_image_28 ?_
      exact cg_iret (nw := fun _ => 0) hC hr hlk hO.same rfl (Nat.le_of_ble_eq_true rfl) (Nat.le_of_ble_eq_true rfl) ((if_pos hr_3_4).symm) dX11_image_31
  · obtain ⟨hr_3_23, rfl, rfl⟩ := hw
    have hO : cO D cy A s.heap s 18 ad (cup [] g) _ _ := hO
    refine lv_if_ne (tgt := 11) hx hb dX11_image_6 (by decide) (fun h => absurd h (by decide)) (fun _ => ?_)
    refine lv_iconst (v := (-1)) hx hb dX11_image_9 (by decide) ?_
    exact cg_iret (nw := fun _ => 0) hC hr hlk hO.same rfl (Nat.le_of_ble_eq_true rfl) (Nat.le_of_ble_eq_true rfl) ((if_neg hr_3_23).symm) dX11_image_10

theorem dX11_back_0 : decode cX11_back 0 = .ok (.iload_n 1, 1) := by decide +kernel
theorem dX11_back_1 : decode cX11_back 1 = .ok (.iconst 0, 1) := by decide +kernel
theorem dX11_back_2 : decode cX11_back 2 = .ok (.iconst 2, 1) := by decide +kernel
theorem dX11_back_3 : decode cX11_back 3 = .ok (.invokestatic 107, 3) := by decide +kernel
theorem dX11_back_6 : decode cX11_back 6 = .ok (.ifCond .eq 16, 3) := by decide +kernel
theorem dX11_back_9 : decode cX11_back 9 = .ok (.aload_n 0, 1) := by decide +kernel
theorem dX11_back_10 : decode cX11_back 10 = .ok (.getfield 45, 3) := by decide +kernel
theorem dX11_back_13 : decode cX11_back 13 = .ok (.iload_n 1, 1) := by decide +kernel
theorem dX11_back_14 : decode cX11_back 14 = .ok (.aaload, 1) := by decide +kernel
theorem dX11_back_15 : decode cX11_back 15 = .ok (.getfield 49, 3) := by decide +kernel
theorem dX11_back_18 : decode cX11_back 18 = .ok (.iconst (-1), 1) := by decide +kernel
theorem dX11_back_19 : decode cX11_back 19 = .ok (.if_icmp .ne 5, 3) := by decide +kernel
theorem dX11_back_22 : decode cX11_back 22 = .ok (.iconst (-1), 1) := by decide +kernel
theorem dX11_back_23 : decode cX11_back 23 = .ok (.ireturn, 1) := by decide +kernel
def wq_c_X11_back : List Cond := Cond.code yX11_back cX11_back 2 (some .int) :: (([Cond.methodLink RX11 107 yX11_within, Cond.static yX11_within, Cond.initialized RX11, Cond.code yX11_within cX11_within 3 (some .boolean), Cond.fieldLink RX11 45 "CrowToll" "boxes" "[LCrowToll$Stand;", Cond.fieldLink RX11 49 "CrowToll$Stand" "carts" "I"] : List Cond) ++ wsX90 ++ wsX110)
set_option maxRecDepth 20000 in
theorem gr_c_X11_back_c_X11_within : GoodIn wq_c_X11_back wq_c_X11_within := List.forall_mem_cons.mpr ⟨⟨(List.mem_of_getElem? (i := 4) rfl), good_of_word rfl⟩, (fun _ h => absurd h List.not_mem_nil)⟩
set_option maxRecDepth 20000 in
theorem gq_c_X11_back_c_X11_within_107 : GoodIn wq_c_X11_back (va_wsS RX11 107 yX11_within wq_c_X11_within) := goodIn_app (List.forall_mem_cons.mpr ⟨⟨(List.mem_of_getElem? (i := 1) rfl), good_of_word rfl⟩, List.forall_mem_cons.mpr ⟨⟨(List.mem_of_getElem? (i := 2) rfl), good_of_word rfl⟩, List.forall_mem_cons.mpr ⟨⟨(List.mem_of_getElem? (i := 3) rfl), good_of_word rfl⟩, (fun _ h => absurd h List.not_mem_nil)⟩⟩⟩) gr_c_X11_back_c_X11_within
set_option maxHeartbeats 8000000 in
set_option maxRecDepth 100000 in
theorem c_X11_back (l : Launch) (D : va_G) (cy : Nat → ClassId) (ad : Nat → Nat) (g : Nat → va_E) {f0 : List Value} {f2 : List Value} {f3 : List Value} {f4 : List Value} {n : Int32} (o0 : g 0 = .inr (11, f0)) (f0_5 : f0[5]? = some (.ref (ad 1))) (a1 : g 1 = .inl (cy 4, 3, .inr (.inr (.inr (.inr (va_up (va_up (va_up (fun _ => none) (0 : Int32).toNatClampNeg (some (ad 2))) (1 : Int32).toNatClampNeg (some (ad 3))) (2 : Int32).toNatClampNeg (some (ad 4)))))))) (o2 : g 2 = .inr (9, f2)) (f2_4 : f2[4]? = some (.int (-1))) (o3 : g 3 = .inr (9, f3)) (f3_4 : f3[4]? = some (.int (-1))) (o4 : g 4 = .inr (9, f4)) (f4_4 : f4[4]? = some (.int (-1))) : cMi l yX11_back wq_c_X11_back { frames := 1, cells := 0, slots := 0, locals := 22 } 5 0 0 0 D cy ad g [.ref (ad 0), .int n] (fun r nw lu => r = -1) := by
  refine cM_of (Qc := fun A => cQi (fun r nw lu => r = -1) D 5 0 ad g A) (cc := cX11_back) (maxL := 2) (ret := (some .int)) (by decide) rfl (Nat.le_of_ble_eq_true rfl) ?_
  intro p e s m below meth c A hC hr hlk hnm hO ls hl
  have hC : CallFix p m c cX11_back 2 s [.ref (ad 0), .int n].toArray wq_c_X11_back RX11 := hC
  obtain ⟨hx, hb, hml, hown, hts⟩ := id hC
  have hl : lv_has ls 2 [(0, .ref (ad 0)), (1, .int n)] := hl
  have i_X11 : ∀ w ∈ wsX110, w ∈ wq_c_X11_back := fun w h => List.mem_cons_of_mem _ (List.mem_append_right _ h)
  have i_X9 : ∀ w ∈ wsX90, w ∈ wq_c_X11_back := fun w h => List.mem_cons_of_mem _ (List.mem_append_left _ (List.mem_append_right _ h))
  refine lv_iload_n hx hb dX11_back_0 rfl (lv_at hl 1 rfl) ?_
  refine lv_iconst (v := 0) hx hb dX11_back_1 (by decide) ?_
  refine lv_iconst (v := 2) hx hb dX11_back_2 (by decide) ?_
  refine cg_Si (As := [.int n, .int 0, .int 2]) (rest := []) (mc := 0) (ms := 0) (rm := { frames := 0, cells := 0, slots := 0, locals := 0 }) hC hl.1 hO [] rfl (c_X11_within l D cy _ _ (x := n) (y := 0) (z := 2) ) gq_c_X11_back_c_X11_within_107 rfl rfl rfl 3 (by decide +kernel) ⟨Nat.le_of_ble_eq_true rfl, Nat.le_of_ble_eq_true rfl⟩ rfl rfl (Nat.le_of_ble_eq_true rfl) dX11_back_3 ⟨Nat.le_of_ble_eq_true rfl, Nat.le_of_ble_eq_true rfl⟩ (fun r_3_3 nw_3_1 l_3_2 H locs hw hO => ?_)
  rcases hw with hw | hw
  · obtain ⟨hr_3_4, rfl, rfl⟩ := hw
    have hO : cO D cy A s.heap s 5 ad (cup [] g) _ _ := hO
    refine lv_if_eq (tgt := 22) hx hb dX11_back_6 (by decide) (fun h => absurd h (by decide)) (fun _ => ?_)
    obtain ⟨n_n, hn_n, rfl⟩ := rng_nat (n := 2) hr_3_4 (by decide) rfl
    rcases (show n_n = 0 ∨ n_n = 1 ∨ n_n = 2 by omega) with rfl | rfl | rfl
    · have hl : lv_has ls 2 [(0, .ref (ad 0)), (1, .int 0)] := hl
      refine lv_aload_n hx hb dX11_back_9 rfl (lv_at hl 0 rfl) ?_
      refine cg_get hC hO 0 (by decide) o0 rfl i_X11 5 (by decide) (List.mem_of_getElem? (i := 5) rfl) f0_5 dX11_back_10 ?_
      refine lv_iload_n hx hb dX11_back_13 rfl (lv_at hl 1 rfl) ?_
      refine cg_aald hC hO 1 (by decide) a1 (cin (by decide)) (b := (ad 2)) rfl dX11_back_14 ?_
      refine cg_get hC hO 2 (by decide) o2 rfl i_X9 4 (by decide) (List.mem_of_getElem? (i := 6) rfl) f2_4 dX11_back_15 ?_
      refine lv_iconst (v := (-1)) hx hb dX11_back_18 (by decide) ?_
      refine lv_icmp_ne (tgt := 24) hx hb dX11_back_19 (by decide) (fun h => absurd h (by decide)) (fun _ => ?_)
      refine lv_iconst (v := (-1)) hx hb dX11_back_22 (by decide) ?_
      exact cg_iret (nw := fun _ => 0) hC hr hlk hO.same rfl (Nat.le_of_ble_eq_true rfl) (Nat.le_of_ble_eq_true rfl) rfl dX11_back_23
    · have hl : lv_has ls 2 [(0, .ref (ad 0)), (1, .int 1)] := hl
      refine lv_aload_n hx hb dX11_back_9 rfl (lv_at hl 0 rfl) ?_
      refine cg_get hC hO 0 (by decide) o0 rfl i_X11 5 (by decide) (List.mem_of_getElem? (i := 5) rfl) f0_5 dX11_back_10 ?_
      refine lv_iload_n hx hb dX11_back_13 rfl (lv_at hl 1 rfl) ?_
      refine cg_aald hC hO 1 (by decide) a1 (cin (by decide)) (b := (ad 3)) rfl dX11_back_14 ?_
      refine cg_get hC hO 3 (by decide) o3 rfl i_X9 4 (by decide) (List.mem_of_getElem? (i := 6) rfl) f3_4 dX11_back_15 ?_
      refine lv_iconst (v := (-1)) hx hb dX11_back_18 (by decide) ?_
      refine lv_icmp_ne (tgt := 24) hx hb dX11_back_19 (by decide) (fun h => absurd h (by decide)) (fun _ => ?_)
      refine lv_iconst (v := (-1)) hx hb dX11_back_22 (by decide) ?_
      exact cg_iret (nw := fun _ => 0) hC hr hlk hO.same rfl (Nat.le_of_ble_eq_true rfl) (Nat.le_of_ble_eq_true rfl) rfl dX11_back_23
    · have hl : lv_has ls 2 [(0, .ref (ad 0)), (1, .int 2)] := hl
      refine lv_aload_n hx hb dX11_back_9 rfl (lv_at hl 0 rfl) ?_
      refine cg_get hC hO 0 (by decide) o0 rfl i_X11 5 (by decide) (List.mem_of_getElem? (i := 5) rfl) f0_5 dX11_back_10 ?_
      refine lv_iload_n hx hb dX11_back_13 rfl (lv_at hl 1 rfl) ?_
      refine cg_aald hC hO 1 (by decide) a1 (cin (by decide)) (b := (ad 4)) rfl dX11_back_14 ?_
      refine cg_get hC hO 4 (by decide) o4 rfl i_X9 4 (by decide) (List.mem_of_getElem? (i := 6) rfl) f4_4 dX11_back_15 ?_
      refine lv_iconst (v := (-1)) hx hb dX11_back_18 (by decide) ?_
      refine lv_icmp_ne (tgt := 24) hx hb dX11_back_19 (by decide) (fun h => absurd h (by decide)) (fun _ => ?_)
      refine lv_iconst (v := (-1)) hx hb dX11_back_22 (by decide) ?_
      exact cg_iret (nw := fun _ => 0) hC hr hlk hO.same rfl (Nat.le_of_ble_eq_true rfl) (Nat.le_of_ble_eq_true rfl) rfl dX11_back_23
  · obtain ⟨hr_3_5, rfl, rfl⟩ := hw
    have hO : cO D cy A s.heap s 5 ad (cup [] g) _ _ := hO
    refine lv_if_eq (tgt := 22) hx hb dX11_back_6 (by decide) (fun _ => ?_) (fun h => absurd h (by decide))
    refine lv_iconst (v := (-1)) hx hb dX11_back_22 (by decide) ?_
    exact cg_iret (nw := fun _ => 0) hC hr hlk hO.same rfl (Nat.le_of_ble_eq_true rfl) (Nat.le_of_ble_eq_true rfl) rfl dX11_back_23
