def wq_k_charAt_10 : List Cond := Cond.code yJ0_charAt_5068e cJ0_charAt_5068e 2 (some .char) :: (([Cond.methodLink RJ0 492 yJ0_isLatin1_aae02, Cond.instanceMethod yJ0_isLatin1_aae02, Cond.selects RJ0 yJ0_isLatin1_aae02 yJ0_isLatin1_aae02, Cond.initialized RJ0, Cond.code yJ0_isLatin1_aae02 cJ0_isLatin1_aae02 1 (some .boolean), Cond.fieldLink RJ0 38 "java/lang/String" "COMPACT_STRINGS" "Z", Cond.fieldLink RJ0 15 "java/lang/String" "coder" "B", Cond.fieldLink RJ0 9 "java/lang/String" "value" "[B", Cond.methodLink RJ0 495 yJ1_charAt_3b067, Cond.static yJ1_charAt_3b067, Cond.initialized RJ1, Cond.code yJ1_charAt_3b067 cJ1_charAt_3b067 2 (some .char), Cond.methodLink RJ1 9 yJ0_checkIndex_df160, Cond.static yJ0_checkIndex_df160, Cond.code yJ0_checkIndex_df160 cJ0_checkIndex_df160 2 none, Cond.fieldLink RJ0 1053 "jdk/internal/util/Preconditions" "SIOOBE_FORMATTER" "Ljava/util/function/BiFunction;", Cond.methodLink RJ0 1059 yJ3_checkIndex_8e157, Cond.static yJ3_checkIndex_8e157, Cond.initialized RJ3, Cond.code yJ3_checkIndex_8e157 cJ3_checkIndex_8e157 3 (some .int)] : List Cond))
set_option maxRecDepth 20000 in
theorem gr_k_charAt_10_k_isLatin1_10 : GoodIn wq_k_charAt_10 wq_k_isLatin1_10 := List.forall_mem_cons.mpr ⟨⟨(List.mem_of_getElem? (i := 5) rfl), good_of_word rfl⟩, List.forall_mem_cons.mpr ⟨⟨(List.mem_of_getElem? (i := 6) rfl), good_of_word rfl⟩, List.forall_mem_cons.mpr ⟨⟨(List.mem_of_getElem? (i := 7) rfl), good_of_word rfl⟩, (fun _ h => absurd h List.not_mem_nil)⟩⟩⟩
set_option maxRecDepth 20000 in
theorem gq_k_charAt_10_k_isLatin1_10_492 : GoodIn wq_k_charAt_10 (wsV RJ0 492 RJ0 yJ0_isLatin1_aae02 wq_k_isLatin1_10) := goodIn_app (List.forall_mem_cons.mpr ⟨⟨(List.mem_of_getElem? (i := 1) rfl), good_of_word rfl⟩, List.forall_mem_cons.mpr ⟨⟨(List.mem_of_getElem? (i := 2) rfl), good_of_word rfl⟩, List.forall_mem_cons.mpr ⟨⟨(List.mem_of_getElem? (i := 3) rfl), good_of_word rfl⟩, List.forall_mem_cons.mpr ⟨⟨(List.mem_of_getElem? (i := 4) rfl), good_of_word rfl⟩, (fun _ h => absurd h List.not_mem_nil)⟩⟩⟩⟩) gr_k_charAt_10_k_isLatin1_10
set_option maxRecDepth 20000 in
theorem gr_k_charAt_10_k_lcharAt_10 : GoodIn wq_k_charAt_10 wq_k_lcharAt_10 := List.forall_mem_cons.mpr ⟨⟨(List.mem_of_getElem? (i := 12) rfl), good_of_word rfl⟩, List.forall_mem_cons.mpr ⟨⟨(List.mem_of_getElem? (i := 13) rfl), good_of_word rfl⟩, List.forall_mem_cons.mpr ⟨⟨(List.mem_of_getElem? (i := 14) rfl), good_of_word rfl⟩, List.forall_mem_cons.mpr ⟨⟨(List.mem_of_getElem? (i := 4) rfl), good_of_word rfl⟩, List.forall_mem_cons.mpr ⟨⟨(List.mem_of_getElem? (i := 15) rfl), good_of_word rfl⟩, List.forall_mem_cons.mpr ⟨⟨(List.mem_of_getElem? (i := 16) rfl), good_of_word rfl⟩, List.forall_mem_cons.mpr ⟨⟨(List.mem_of_getElem? (i := 17) rfl), good_of_word rfl⟩, List.forall_mem_cons.mpr ⟨⟨(List.mem_of_getElem? (i := 18) rfl), good_of_word rfl⟩, List.forall_mem_cons.mpr ⟨⟨(List.mem_of_getElem? (i := 19) rfl), good_of_word rfl⟩, List.forall_mem_cons.mpr ⟨⟨(List.mem_of_getElem? (i := 20) rfl), good_of_word rfl⟩, (fun _ h => absurd h List.not_mem_nil)⟩⟩⟩⟩⟩⟩⟩⟩⟩⟩
set_option maxRecDepth 20000 in
theorem gq_k_charAt_10_k_lcharAt_10_495 : GoodIn wq_k_charAt_10 (va_wsS RJ0 495 yJ1_charAt_3b067 wq_k_lcharAt_10) := goodIn_app (List.forall_mem_cons.mpr ⟨⟨(List.mem_of_getElem? (i := 9) rfl), good_of_word rfl⟩, List.forall_mem_cons.mpr ⟨⟨(List.mem_of_getElem? (i := 10) rfl), good_of_word rfl⟩, List.forall_mem_cons.mpr ⟨⟨(List.mem_of_getElem? (i := 11) rfl), good_of_word rfl⟩, (fun _ h => absurd h List.not_mem_nil)⟩⟩⟩) gr_k_charAt_10_k_lcharAt_10
set_option maxHeartbeats 8000000 in
set_option maxRecDepth 100000 in
theorem k_charAt_10 (l : Launch) (D : va_G) (cy : Nat → ClassId) (ad : Nat → Nat) (g : Nat → va_E) {n : Int32} (p_n : zi 0 4 n) : cMi l yJ0_charAt_5068e wq_k_charAt_10 { frames := 3, cells := 0, slots := 0, locals := 64 } 0 0 0 0 D cy ad g [.ref (cy (100 + 10)), .int n] (fun r nw lu => (zi 0 65535 r) ∧ (lu = [])) := by
  refine cM_of (Qc := fun A => cQi (fun r nw lu => (zi 0 65535 r) ∧ (lu = [])) D 0 0 ad g A) (cc := cJ0_charAt_5068e) (maxL := 2) (ret := (some .char)) (by decide) rfl (Nat.le_of_ble_eq_true rfl) ?_
  intro p e s m below meth c A hC hr hlk hnm hO ls hl
  have hC : CallFix p m c cJ0_charAt_5068e 2 s [.ref (cy (100 + 10)), .int n].toArray wq_k_charAt_10 RJ0 := hC
  obtain ⟨hx, hb, hml, hown, hts⟩ := id hC
  have hl : lv_has ls 2 [(0, .ref (cy (100 + 10))), (1, .int n)] := hl
  refine lv_aload_n hx hb ddJ0_charAt_5068e_0 rfl (lv_at hl 0 rfl) ?_
  refine sg_Vi (As := []) (rest := []) (mc := 0) (ms := 0) (rm := { frames := 0, cells := 0, slots := 0, locals := 0 }) hC hl.1 hO [] (by decide +kernel) 10 (by decide) (k_isLatin1_10 l D cy _ _  ) gq_k_charAt_10_k_isLatin1_10_492 rfl rfl rfl 0 (by decide +kernel) ⟨Nat.le_of_ble_eq_true rfl, Nat.le_of_ble_eq_true rfl⟩ rfl rfl (Nat.le_of_ble_eq_true rfl) ddJ0_charAt_5068e_1 ⟨Nat.le_of_ble_eq_true rfl, Nat.le_of_ble_eq_true rfl⟩ (fun r_1_10 nw_1_8 l_1_9 H locs hw hO => ?_)
  obtain ⟨rfl, rfl⟩ := hw
  have hO : cO D cy A s.heap s 0 ad (cup [] g) _ _ := hO
  refine lv_if_eq (tgt := 16) hx hb ddJ0_charAt_5068e_4 (by decide) (fun h => absurd h (by decide)) (fun _ => ?_)
  refine lv_aload_n hx hb ddJ0_charAt_5068e_7 rfl (lv_at hl 0 rfl) ?_
  refine sg_val hC hO 10 (by decide) (List.mem_of_getElem? (i := 8) rfl) ddJ0_charAt_5068e_8 ?_
  refine lv_iload_n hx hb ddJ0_charAt_5068e_11 rfl (lv_at hl 1 rfl) ?_
  refine cg_Si (As := [.ref (cy (200 + 10)), .int n]) (rest := []) (mc := 0) (ms := 0) (rm := { frames := 2, cells := 0, slots := 0, locals := 43 }) hC hl.1 hO [] (by decide +kernel) (k_lcharAt_10 l D cy _ _ (n := n) p_n) gq_k_charAt_10_k_lcharAt_10_495 rfl rfl rfl 2 (by decide +kernel) ⟨Nat.le_of_ble_eq_true rfl, Nat.le_of_ble_eq_true rfl⟩ rfl rfl (Nat.le_of_ble_eq_true rfl) ddJ0_charAt_5068e_12 ⟨Nat.le_of_ble_eq_true rfl, Nat.le_of_ble_eq_true rfl⟩ (fun r_12_13 nw_12_11 l_12_12 H locs hw hO => ?_)
  obtain ⟨z_12_14, rfl⟩ := hw
  have hO : cO D cy A s.heap s 0 ad (cup [] g) _ _ := hO
  exact cg_iret (nw := fun _ => 0) hC hr hlk hO.same (zi_narC z_12_14) (Nat.le_of_ble_eq_true rfl) (Nat.le_of_ble_eq_true rfl) (⟨z_12_14, rfl⟩) ddJ0_charAt_5068e_15

def wq_k_isLatin1_11 : List Cond := Cond.code yJ0_isLatin1_aae02 cJ0_isLatin1_aae02 1 (some .boolean) :: (([Cond.fieldLink RJ0 38 "java/lang/String" "COMPACT_STRINGS" "Z", Cond.fieldLink RJ0 15 "java/lang/String" "coder" "B"] : List Cond))
set_option maxHeartbeats 8000000 in
set_option maxRecDepth 100000 in
theorem k_isLatin1_11 (l : Launch) (D : va_G) (cy : Nat → ClassId) (ad : Nat → Nat) (g : Nat → va_E)   : cMi l yJ0_isLatin1_aae02 wq_k_isLatin1_11 { frames := 0, cells := 0, slots := 0, locals := 0 } 0 0 0 0 D cy ad g [.ref (cy (100 + 11))] (fun r nw lu => (r = 1) ∧ (lu = [])) := by
  refine cM_of (Qc := fun A => cQi (fun r nw lu => (r = 1) ∧ (lu = [])) D 0 0 ad g A) (cc := cJ0_isLatin1_aae02) (maxL := 1) (ret := (some .boolean)) (by decide) rfl (Nat.le_of_ble_eq_true rfl) ?_
  intro p e s m below meth c A hC hr hlk hnm hO ls hl
  have hC : CallFix p m c cJ0_isLatin1_aae02 1 s [.ref (cy (100 + 11))].toArray wq_k_isLatin1_11 RJ0 := hC
  obtain ⟨hx, hb, hml, hown, hts⟩ := id hC
  have hl : lv_has ls 1 [(0, .ref (cy (100 + 11)))] := hl
  refine sg_com hC hO (List.mem_of_getElem? (i := 1) rfl) ddJ0_isLatin1_aae02_0 ?_
  refine lv_if_eq (tgt := 17) hx hb ddJ0_isLatin1_aae02_3 (by decide) (fun h => absurd h (by decide)) (fun _ => ?_)
  refine lv_aload_n hx hb ddJ0_isLatin1_aae02_6 rfl (lv_at hl 0 rfl) ?_
  refine sg_cod hC hO 11 (by decide) (List.mem_of_getElem? (i := 2) rfl) ddJ0_isLatin1_aae02_7 ?_
  refine lv_if_ne (tgt := 17) hx hb ddJ0_isLatin1_aae02_10 (by decide) (fun h => absurd h (by decide)) (fun _ => ?_)
  refine lv_iconst (v := 1) hx hb ddJ0_isLatin1_aae02_13 (by decide) ?_
  refine lv_goto (tgt := 18) hx hb ddJ0_isLatin1_aae02_14 (by decide) ?_
  exact cg_iret (nw := fun _ => 0) hC hr hlk hO.same rfl (Nat.le_of_ble_eq_true rfl) (Nat.le_of_ble_eq_true rfl) (⟨rfl, rfl⟩) ddJ0_isLatin1_aae02_18

def wq_k_lcharAt_11 : List Cond := Cond.code yJ1_charAt_3b067 cJ1_charAt_3b067 2 (some .char) :: (([Cond.methodLink RJ1 9 yJ0_checkIndex_df160, Cond.static yJ0_checkIndex_df160, Cond.initialized RJ0, Cond.code yJ0_checkIndex_df160 cJ0_checkIndex_df160 2 none, Cond.fieldLink RJ0 1053 "jdk/internal/util/Preconditions" "SIOOBE_FORMATTER" "Ljava/util/function/BiFunction;", Cond.methodLink RJ0 1059 yJ3_checkIndex_8e157, Cond.static yJ3_checkIndex_8e157, Cond.initialized RJ3, Cond.code yJ3_checkIndex_8e157 cJ3_checkIndex_8e157 3 (some .int)] : List Cond))
set_option maxRecDepth 20000 in
theorem gr_k_lcharAt_11_k_checkIndex0_3 : GoodIn wq_k_lcharAt_11 wq_k_checkIndex0_3 := List.forall_mem_cons.mpr ⟨⟨(List.mem_of_getElem? (i := 4) rfl), good_of_word rfl⟩, List.forall_mem_cons.mpr ⟨⟨(List.mem_of_getElem? (i := 5) rfl), good_of_word rfl⟩, List.forall_mem_cons.mpr ⟨⟨(List.mem_of_getElem? (i := 6) rfl), good_of_word rfl⟩, List.forall_mem_cons.mpr ⟨⟨(List.mem_of_getElem? (i := 7) rfl), good_of_word rfl⟩, List.forall_mem_cons.mpr ⟨⟨(List.mem_of_getElem? (i := 8) rfl), good_of_word rfl⟩, List.forall_mem_cons.mpr ⟨⟨(List.mem_of_getElem? (i := 9) rfl), good_of_word rfl⟩, (fun _ h => absurd h List.not_mem_nil)⟩⟩⟩⟩⟩⟩
set_option maxRecDepth 20000 in
theorem gq_k_lcharAt_11_k_checkIndex0_3_9 : GoodIn wq_k_lcharAt_11 (va_wsS RJ1 9 yJ0_checkIndex_df160 wq_k_checkIndex0_3) := goodIn_app (List.forall_mem_cons.mpr ⟨⟨(List.mem_of_getElem? (i := 1) rfl), good_of_word rfl⟩, List.forall_mem_cons.mpr ⟨⟨(List.mem_of_getElem? (i := 2) rfl), good_of_word rfl⟩, List.forall_mem_cons.mpr ⟨⟨(List.mem_of_getElem? (i := 3) rfl), good_of_word rfl⟩, (fun _ h => absurd h List.not_mem_nil)⟩⟩⟩) gr_k_lcharAt_11_k_checkIndex0_3
set_option maxHeartbeats 8000000 in
set_option maxRecDepth 100000 in
theorem k_lcharAt_11 (l : Launch) (D : va_G) (cy : Nat → ClassId) (ad : Nat → Nat) (g : Nat → va_E) {n : Int32} (p_n : zi 0 2 n) : cMi l yJ1_charAt_3b067 wq_k_lcharAt_11 { frames := 2, cells := 0, slots := 0, locals := 43 } 0 0 0 0 D cy ad g [.ref (cy (200 + 11)), .int n] (fun r nw lu => (zi 0 65535 r) ∧ (lu = [])) := by
  refine cM_of (Qc := fun A => cQi (fun r nw lu => (zi 0 65535 r) ∧ (lu = [])) D 0 0 ad g A) (cc := cJ1_charAt_3b067) (maxL := 2) (ret := (some .char)) (by decide) rfl (Nat.le_of_ble_eq_true rfl) ?_
  intro p e s m below meth c A hC hr hlk hnm hO ls hl
  have hC : CallFix p m c cJ1_charAt_3b067 2 s [.ref (cy (200 + 11)), .int n].toArray wq_k_lcharAt_11 RJ1 := hC
  obtain ⟨hx, hb, hml, hown, hts⟩ := id hC
  have hl : lv_has ls 2 [(0, .ref (cy (200 + 11))), (1, .int n)] := hl
  refine lv_iload_n hx hb ddJ1_charAt_3b067_0 rfl (lv_at hl 1 rfl) ?_
  refine lv_aload_n hx hb ddJ1_charAt_3b067_1 rfl (lv_at hl 0 rfl) ?_
  refine sg_len hC hO 11 (by decide) (v := 3) rfl ddJ1_charAt_3b067_2 ?_
  refine cg_Sv (As := [.int n, .int 3]) (rest := []) (mc := 0) (ms := 0) (rm := { frames := 1, cells := 0, slots := 0, locals := 22 }) hC hl.1 hO [] (by decide +kernel) (k_checkIndex0_3 l D cy _ _ (n := n) p_n) gq_k_lcharAt_11_k_checkIndex0_3_9 rfl rfl rfl 2 (by decide +kernel) ⟨Nat.le_of_ble_eq_true rfl, Nat.le_of_ble_eq_true rfl⟩ rfl rfl (Nat.le_of_ble_eq_true rfl) ddJ1_charAt_3b067_3 ⟨Nat.le_of_ble_eq_true rfl, Nat.le_of_ble_eq_true rfl⟩ (fun nw_3_9 l_3_10 H locs hw hO => ?_)
  obtain rfl := hw
  have hO : cO D cy A s.heap s 0 ad (cup [] g) _ _ := hO
  refine lv_aload_n hx hb ddJ1_charAt_3b067_6 rfl (lv_at hl 0 rfl) ?_
  refine lv_iload_n hx hb ddJ1_charAt_3b067_7 rfl (lv_at hl 1 rfl) ?_
  refine sg_bld hC hO 11 (by decide) (zi_in p_n (by decide)) ddJ1_charAt_3b067_8 (fun v_8_12 => ?_)
  refine lv_sipush (v := 255) hx hb ddJ1_charAt_3b067_9 (by decide) ?_
  refine lv_iand hx hb ddJ1_charAt_3b067_12 ?_
  refine zg_top (P := fun v => zi 0 255 v) (zi_and (zi_k (a := 0) (b := 255) (x := 255) rfl)) (fun v_12_13 z_12_14 => ?_)
  refine lv_i2c hx hb ddJ1_charAt_3b067_13 rfl ?_
  refine zg_top (P := fun v => zi 0 65535 v) (zi_i2c _) (fun v_13_15 z_13_16 => ?_)
  exact cg_iret (nw := fun _ => 0) hC hr hlk hO.same (zi_narC z_13_16) (Nat.le_of_ble_eq_true rfl) (Nat.le_of_ble_eq_true rfl) (⟨z_13_16, rfl⟩) ddJ1_charAt_3b067_14

def wq_k_charAt_11 : List Cond := Cond.code yJ0_charAt_5068e cJ0_charAt_5068e 2 (some .char) :: (([Cond.methodLink RJ0 492 yJ0_isLatin1_aae02, Cond.instanceMethod yJ0_isLatin1_aae02, Cond.selects RJ0 yJ0_isLatin1_aae02 yJ0_isLatin1_aae02, Cond.initialized RJ0, Cond.code yJ0_isLatin1_aae02 cJ0_isLatin1_aae02 1 (some .boolean), Cond.fieldLink RJ0 38 "java/lang/String" "COMPACT_STRINGS" "Z", Cond.fieldLink RJ0 15 "java/lang/String" "coder" "B", Cond.fieldLink RJ0 9 "java/lang/String" "value" "[B", Cond.methodLink RJ0 495 yJ1_charAt_3b067, Cond.static yJ1_charAt_3b067, Cond.initialized RJ1, Cond.code yJ1_charAt_3b067 cJ1_charAt_3b067 2 (some .char), Cond.methodLink RJ1 9 yJ0_checkIndex_df160, Cond.static yJ0_checkIndex_df160, Cond.code yJ0_checkIndex_df160 cJ0_checkIndex_df160 2 none, Cond.fieldLink RJ0 1053 "jdk/internal/util/Preconditions" "SIOOBE_FORMATTER" "Ljava/util/function/BiFunction;", Cond.methodLink RJ0 1059 yJ3_checkIndex_8e157, Cond.static yJ3_checkIndex_8e157, Cond.initialized RJ3, Cond.code yJ3_checkIndex_8e157 cJ3_checkIndex_8e157 3 (some .int)] : List Cond))
set_option maxRecDepth 20000 in
theorem gr_k_charAt_11_k_isLatin1_11 : GoodIn wq_k_charAt_11 wq_k_isLatin1_11 := List.forall_mem_cons.mpr ⟨⟨(List.mem_of_getElem? (i := 5) rfl), good_of_word rfl⟩, List.forall_mem_cons.mpr ⟨⟨(List.mem_of_getElem? (i := 6) rfl), good_of_word rfl⟩, List.forall_mem_cons.mpr ⟨⟨(List.mem_of_getElem? (i := 7) rfl), good_of_word rfl⟩, (fun _ h => absurd h List.not_mem_nil)⟩⟩⟩
set_option maxRecDepth 20000 in
theorem gq_k_charAt_11_k_isLatin1_11_492 : GoodIn wq_k_charAt_11 (wsV RJ0 492 RJ0 yJ0_isLatin1_aae02 wq_k_isLatin1_11) := goodIn_app (List.forall_mem_cons.mpr ⟨⟨(List.mem_of_getElem? (i := 1) rfl), good_of_word rfl⟩, List.forall_mem_cons.mpr ⟨⟨(List.mem_of_getElem? (i := 2) rfl), good_of_word rfl⟩, List.forall_mem_cons.mpr ⟨⟨(List.mem_of_getElem? (i := 3) rfl), good_of_word rfl⟩, List.forall_mem_cons.mpr ⟨⟨(List.mem_of_getElem? (i := 4) rfl), good_of_word rfl⟩, (fun _ h => absurd h List.not_mem_nil)⟩⟩⟩⟩) gr_k_charAt_11_k_isLatin1_11
set_option maxRecDepth 20000 in
theorem gr_k_charAt_11_k_lcharAt_11 : GoodIn wq_k_charAt_11 wq_k_lcharAt_11 := List.forall_mem_cons.mpr ⟨⟨(List.mem_of_getElem? (i := 12) rfl), good_of_word rfl⟩, List.forall_mem_cons.mpr ⟨⟨(List.mem_of_getElem? (i := 13) rfl), good_of_word rfl⟩, List.forall_mem_cons.mpr ⟨⟨(List.mem_of_getElem? (i := 14) rfl), good_of_word rfl⟩, List.forall_mem_cons.mpr ⟨⟨(List.mem_of_getElem? (i := 4) rfl), good_of_word rfl⟩, List.forall_mem_cons.mpr ⟨⟨(List.mem_of_getElem? (i := 15) rfl), good_of_word rfl⟩, List.forall_mem_cons.mpr ⟨⟨(List.mem_of_getElem? (i := 16) rfl), good_of_word rfl⟩, List.forall_mem_cons.mpr ⟨⟨(List.mem_of_getElem? (i := 17) rfl), good_of_word rfl⟩, List.forall_mem_cons.mpr ⟨⟨(List.mem_of_getElem? (i := 18) rfl), good_of_word rfl⟩, List.forall_mem_cons.mpr ⟨⟨(List.mem_of_getElem? (i := 19) rfl), good_of_word rfl⟩, List.forall_mem_cons.mpr ⟨⟨(List.mem_of_getElem? (i := 20) rfl), good_of_word rfl⟩, (fun _ h => absurd h List.not_mem_nil)⟩⟩⟩⟩⟩⟩⟩⟩⟩⟩
set_option maxRecDepth 20000 in
theorem gq_k_charAt_11_k_lcharAt_11_495 : GoodIn wq_k_charAt_11 (va_wsS RJ0 495 yJ1_charAt_3b067 wq_k_lcharAt_11) := goodIn_app (List.forall_mem_cons.mpr ⟨⟨(List.mem_of_getElem? (i := 9) rfl), good_of_word rfl⟩, List.forall_mem_cons.mpr ⟨⟨(List.mem_of_getElem? (i := 10) rfl), good_of_word rfl⟩, List.forall_mem_cons.mpr ⟨⟨(List.mem_of_getElem? (i := 11) rfl), good_of_word rfl⟩, (fun _ h => absurd h List.not_mem_nil)⟩⟩⟩) gr_k_charAt_11_k_lcharAt_11
set_option maxHeartbeats 8000000 in
set_option maxRecDepth 100000 in
theorem k_charAt_11 (l : Launch) (D : va_G) (cy : Nat → ClassId) (ad : Nat → Nat) (g : Nat → va_E) {n : Int32} (p_n : zi 0 2 n) : cMi l yJ0_charAt_5068e wq_k_charAt_11 { frames := 3, cells := 0, slots := 0, locals := 64 } 0 0 0 0 D cy ad g [.ref (cy (100 + 11)), .int n] (fun r nw lu => (zi 0 65535 r) ∧ (lu = [])) := by
  refine cM_of (Qc := fun A => cQi (fun r nw lu => (zi 0 65535 r) ∧ (lu = [])) D 0 0 ad g A) (cc := cJ0_charAt_5068e) (maxL := 2) (ret := (some .char)) (by decide) rfl (Nat.le_of_ble_eq_true rfl) ?_
  intro p e s m below meth c A hC hr hlk hnm hO ls hl
  have hC : CallFix p m c cJ0_charAt_5068e 2 s [.ref (cy (100 + 11)), .int n].toArray wq_k_charAt_11 RJ0 := hC
  obtain ⟨hx, hb, hml, hown, hts⟩ := id hC
  have hl : lv_has ls 2 [(0, .ref (cy (100 + 11))), (1, .int n)] := hl
  refine lv_aload_n hx hb ddJ0_charAt_5068e_0 rfl (lv_at hl 0 rfl) ?_
  refine sg_Vi (As := []) (rest := []) (mc := 0) (ms := 0) (rm := { frames := 0, cells := 0, slots := 0, locals := 0 }) hC hl.1 hO [] (by decide +kernel) 11 (by decide) (k_isLatin1_11 l D cy _ _  ) gq_k_charAt_11_k_isLatin1_11_492 rfl rfl rfl 0 (by decide +kernel) ⟨Nat.le_of_ble_eq_true rfl, Nat.le_of_ble_eq_true rfl⟩ rfl rfl (Nat.le_of_ble_eq_true rfl) ddJ0_charAt_5068e_1 ⟨Nat.le_of_ble_eq_true rfl, Nat.le_of_ble_eq_true rfl⟩ (fun r_1_10 nw_1_8 l_1_9 H locs hw hO => ?_)
  obtain ⟨rfl, rfl⟩ := hw
  have hO : cO D cy A s.heap s 0 ad (cup [] g) _ _ := hO
  refine lv_if_eq (tgt := 16) hx hb ddJ0_charAt_5068e_4 (by decide) (fun h => absurd h (by decide)) (fun _ => ?_)
  refine lv_aload_n hx hb ddJ0_charAt_5068e_7 rfl (lv_at hl 0 rfl) ?_
  refine sg_val hC hO 11 (by decide) (List.mem_of_getElem? (i := 8) rfl) ddJ0_charAt_5068e_8 ?_
  refine lv_iload_n hx hb ddJ0_charAt_5068e_11 rfl (lv_at hl 1 rfl) ?_
  refine cg_Si (As := [.ref (cy (200 + 11)), .int n]) (rest := []) (mc := 0) (ms := 0) (rm := { frames := 2, cells := 0, slots := 0, locals := 43 }) hC hl.1 hO [] (by decide +kernel) (k_lcharAt_11 l D cy _ _ (n := n) p_n) gq_k_charAt_11_k_lcharAt_11_495 rfl rfl rfl 2 (by decide +kernel) ⟨Nat.le_of_ble_eq_true rfl, Nat.le_of_ble_eq_true rfl⟩ rfl rfl (Nat.le_of_ble_eq_true rfl) ddJ0_charAt_5068e_12 ⟨Nat.le_of_ble_eq_true rfl, Nat.le_of_ble_eq_true rfl⟩ (fun r_12_13 nw_12_11 l_12_12 H locs hw hO => ?_)
  obtain ⟨z_12_14, rfl⟩ := hw
  have hO : cO D cy A s.heap s 0 ad (cup [] g) _ _ := hO
  exact cg_iret (nw := fun _ => 0) hC hr hlk hO.same (zi_narC z_12_14) (Nat.le_of_ble_eq_true rfl) (Nat.le_of_ble_eq_true rfl) (⟨z_12_14, rfl⟩) ddJ0_charAt_5068e_15

def wq_k_isLatin1_12 : List Cond := Cond.code yJ0_isLatin1_aae02 cJ0_isLatin1_aae02 1 (some .boolean) :: (([Cond.fieldLink RJ0 38 "java/lang/String" "COMPACT_STRINGS" "Z", Cond.fieldLink RJ0 15 "java/lang/String" "coder" "B"] : List Cond))
set_option maxHeartbeats 8000000 in
set_option maxRecDepth 100000 in
theorem k_isLatin1_12 (l : Launch) (D : va_G) (cy : Nat → ClassId) (ad : Nat → Nat) (g : Nat → va_E)   : cMi l yJ0_isLatin1_aae02 wq_k_isLatin1_12 { frames := 0, cells := 0, slots := 0, locals := 0 } 0 0 0 0 D cy ad g [.ref (cy (100 + 12))] (fun r nw lu => (r = 1) ∧ (lu = [])) := by
  refine cM_of (Qc := fun A => cQi (fun r nw lu => (r = 1) ∧ (lu = [])) D 0 0 ad g A) (cc := cJ0_isLatin1_aae02) (maxL := 1) (ret := (some .boolean)) (by decide) rfl (Nat.le_of_ble_eq_true rfl) ?_
  intro p e s m below meth c A hC hr hlk hnm hO ls hl
  have hC : CallFix p m c cJ0_isLatin1_aae02 1 s [.ref (cy (100 + 12))].toArray wq_k_isLatin1_12 RJ0 := hC
  obtain ⟨hx, hb, hml, hown, hts⟩ := id hC
  have hl : lv_has ls 1 [(0, .ref (cy (100 + 12)))] := hl
  refine sg_com hC hO (List.mem_of_getElem? (i := 1) rfl) ddJ0_isLatin1_aae02_0 ?_
  refine lv_if_eq (tgt := 17) hx hb ddJ0_isLatin1_aae02_3 (by decide) (fun h => absurd h (by decide)) (fun _ => ?_)
  refine lv_aload_n hx hb ddJ0_isLatin1_aae02_6 rfl (lv_at hl 0 rfl) ?_
  refine sg_cod hC hO 12 (by decide) (List.mem_of_getElem? (i := 2) rfl) ddJ0_isLatin1_aae02_7 ?_
  refine lv_if_ne (tgt := 17) hx hb ddJ0_isLatin1_aae02_10 (by decide) (fun h => absurd h (by decide)) (fun _ => ?_)
  refine lv_iconst (v := 1) hx hb ddJ0_isLatin1_aae02_13 (by decide) ?_
  refine lv_goto (tgt := 18) hx hb ddJ0_isLatin1_aae02_14 (by decide) ?_
  exact cg_iret (nw := fun _ => 0) hC hr hlk hO.same rfl (Nat.le_of_ble_eq_true rfl) (Nat.le_of_ble_eq_true rfl) (⟨rfl, rfl⟩) ddJ0_isLatin1_aae02_18

def wq_k_lcharAt_12 : List Cond := Cond.code yJ1_charAt_3b067 cJ1_charAt_3b067 2 (some .char) :: (([Cond.methodLink RJ1 9 yJ0_checkIndex_df160, Cond.static yJ0_checkIndex_df160, Cond.initialized RJ0, Cond.code yJ0_checkIndex_df160 cJ0_checkIndex_df160 2 none, Cond.fieldLink RJ0 1053 "jdk/internal/util/Preconditions" "SIOOBE_FORMATTER" "Ljava/util/function/BiFunction;", Cond.methodLink RJ0 1059 yJ3_checkIndex_8e157, Cond.static yJ3_checkIndex_8e157, Cond.initialized RJ3, Cond.code yJ3_checkIndex_8e157 cJ3_checkIndex_8e157 3 (some .int)] : List Cond))
set_option maxRecDepth 20000 in
theorem gr_k_lcharAt_12_k_checkIndex0_3 : GoodIn wq_k_lcharAt_12 wq_k_checkIndex0_3 := List.forall_mem_cons.mpr ⟨⟨(List.mem_of_getElem? (i := 4) rfl), good_of_word rfl⟩, List.forall_mem_cons.mpr ⟨⟨(List.mem_of_getElem? (i := 5) rfl), good_of_word rfl⟩, List.forall_mem_cons.mpr ⟨⟨(List.mem_of_getElem? (i := 6) rfl), good_of_word rfl⟩, List.forall_mem_cons.mpr ⟨⟨(List.mem_of_getElem? (i := 7) rfl), good_of_word rfl⟩, List.forall_mem_cons.mpr ⟨⟨(List.mem_of_getElem? (i := 8) rfl), good_of_word rfl⟩, List.forall_mem_cons.mpr ⟨⟨(List.mem_of_getElem? (i := 9) rfl), good_of_word rfl⟩, (fun _ h => absurd h List.not_mem_nil)⟩⟩⟩⟩⟩⟩
set_option maxRecDepth 20000 in
theorem gq_k_lcharAt_12_k_checkIndex0_3_9 : GoodIn wq_k_lcharAt_12 (va_wsS RJ1 9 yJ0_checkIndex_df160 wq_k_checkIndex0_3) := goodIn_app (List.forall_mem_cons.mpr ⟨⟨(List.mem_of_getElem? (i := 1) rfl), good_of_word rfl⟩, List.forall_mem_cons.mpr ⟨⟨(List.mem_of_getElem? (i := 2) rfl), good_of_word rfl⟩, List.forall_mem_cons.mpr ⟨⟨(List.mem_of_getElem? (i := 3) rfl), good_of_word rfl⟩, (fun _ h => absurd h List.not_mem_nil)⟩⟩⟩) gr_k_lcharAt_12_k_checkIndex0_3
set_option maxHeartbeats 8000000 in
set_option maxRecDepth 100000 in
theorem k_lcharAt_12 (l : Launch) (D : va_G) (cy : Nat → ClassId) (ad : Nat → Nat) (g : Nat → va_E) {n : Int32} (p_n : zi 0 2 n) : cMi l yJ1_charAt_3b067 wq_k_lcharAt_12 { frames := 2, cells := 0, slots := 0, locals := 43 } 0 0 0 0 D cy ad g [.ref (cy (200 + 12)), .int n] (fun r nw lu => (zi 0 65535 r) ∧ (lu = [])) := by
  refine cM_of (Qc := fun A => cQi (fun r nw lu => (zi 0 65535 r) ∧ (lu = [])) D 0 0 ad g A) (cc := cJ1_charAt_3b067) (maxL := 2) (ret := (some .char)) (by decide) rfl (Nat.le_of_ble_eq_true rfl) ?_
  intro p e s m below meth c A hC hr hlk hnm hO ls hl
  have hC : CallFix p m c cJ1_charAt_3b067 2 s [.ref (cy (200 + 12)), .int n].toArray wq_k_lcharAt_12 RJ1 := hC
  obtain ⟨hx, hb, hml, hown, hts⟩ := id hC
  have hl : lv_has ls 2 [(0, .ref (cy (200 + 12))), (1, .int n)] := hl
  refine lv_iload_n hx hb ddJ1_charAt_3b067_0 rfl (lv_at hl 1 rfl) ?_
  refine lv_aload_n hx hb ddJ1_charAt_3b067_1 rfl (lv_at hl 0 rfl) ?_
  refine sg_len hC hO 12 (by decide) (v := 3) rfl ddJ1_charAt_3b067_2 ?_
  refine cg_Sv (As := [.int n, .int 3]) (rest := []) (mc := 0) (ms := 0) (rm := { frames := 1, cells := 0, slots := 0, locals := 22 }) hC hl.1 hO [] (by decide +kernel) (k_checkIndex0_3 l D cy _ _ (n := n) p_n) gq_k_lcharAt_12_k_checkIndex0_3_9 rfl rfl rfl 2 (by decide +kernel) ⟨Nat.le_of_ble_eq_true rfl, Nat.le_of_ble_eq_true rfl⟩ rfl rfl (Nat.le_of_ble_eq_true rfl) ddJ1_charAt_3b067_3 ⟨Nat.le_of_ble_eq_true rfl, Nat.le_of_ble_eq_true rfl⟩ (fun nw_3_9 l_3_10 H locs hw hO => ?_)
  obtain rfl := hw
  have hO : cO D cy A s.heap s 0 ad (cup [] g) _ _ := hO
  refine lv_aload_n hx hb ddJ1_charAt_3b067_6 rfl (lv_at hl 0 rfl) ?_
  refine lv_iload_n hx hb ddJ1_charAt_3b067_7 rfl (lv_at hl 1 rfl) ?_
  refine sg_bld hC hO 12 (by decide) (zi_in p_n (by decide)) ddJ1_charAt_3b067_8 (fun v_8_12 => ?_)
  refine lv_sipush (v := 255) hx hb ddJ1_charAt_3b067_9 (by decide) ?_
  refine lv_iand hx hb ddJ1_charAt_3b067_12 ?_
  refine zg_top (P := fun v => zi 0 255 v) (zi_and (zi_k (a := 0) (b := 255) (x := 255) rfl)) (fun v_12_13 z_12_14 => ?_)
  refine lv_i2c hx hb ddJ1_charAt_3b067_13 rfl ?_
  refine zg_top (P := fun v => zi 0 65535 v) (zi_i2c _) (fun v_13_15 z_13_16 => ?_)
  exact cg_iret (nw := fun _ => 0) hC hr hlk hO.same (zi_narC z_13_16) (Nat.le_of_ble_eq_true rfl) (Nat.le_of_ble_eq_true rfl) (⟨z_13_16, rfl⟩) ddJ1_charAt_3b067_14

def wq_k_charAt_12 : List Cond := Cond.code yJ0_charAt_5068e cJ0_charAt_5068e 2 (some .char) :: (([Cond.methodLink RJ0 492 yJ0_isLatin1_aae02, Cond.instanceMethod yJ0_isLatin1_aae02, Cond.selects RJ0 yJ0_isLatin1_aae02 yJ0_isLatin1_aae02, Cond.initialized RJ0, Cond.code yJ0_isLatin1_aae02 cJ0_isLatin1_aae02 1 (some .boolean), Cond.fieldLink RJ0 38 "java/lang/String" "COMPACT_STRINGS" "Z", Cond.fieldLink RJ0 15 "java/lang/String" "coder" "B", Cond.fieldLink RJ0 9 "java/lang/String" "value" "[B", Cond.methodLink RJ0 495 yJ1_charAt_3b067, Cond.static yJ1_charAt_3b067, Cond.initialized RJ1, Cond.code yJ1_charAt_3b067 cJ1_charAt_3b067 2 (some .char), Cond.methodLink RJ1 9 yJ0_checkIndex_df160, Cond.static yJ0_checkIndex_df160, Cond.code yJ0_checkIndex_df160 cJ0_checkIndex_df160 2 none, Cond.fieldLink RJ0 1053 "jdk/internal/util/Preconditions" "SIOOBE_FORMATTER" "Ljava/util/function/BiFunction;", Cond.methodLink RJ0 1059 yJ3_checkIndex_8e157, Cond.static yJ3_checkIndex_8e157, Cond.initialized RJ3, Cond.code yJ3_checkIndex_8e157 cJ3_checkIndex_8e157 3 (some .int)] : List Cond))
set_option maxRecDepth 20000 in
theorem gr_k_charAt_12_k_isLatin1_12 : GoodIn wq_k_charAt_12 wq_k_isLatin1_12 := List.forall_mem_cons.mpr ⟨⟨(List.mem_of_getElem? (i := 5) rfl), good_of_word rfl⟩, List.forall_mem_cons.mpr ⟨⟨(List.mem_of_getElem? (i := 6) rfl), good_of_word rfl⟩, List.forall_mem_cons.mpr ⟨⟨(List.mem_of_getElem? (i := 7) rfl), good_of_word rfl⟩, (fun _ h => absurd h List.not_mem_nil)⟩⟩⟩
set_option maxRecDepth 20000 in
theorem gq_k_charAt_12_k_isLatin1_12_492 : GoodIn wq_k_charAt_12 (wsV RJ0 492 RJ0 yJ0_isLatin1_aae02 wq_k_isLatin1_12) := goodIn_app (List.forall_mem_cons.mpr ⟨⟨(List.mem_of_getElem? (i := 1) rfl), good_of_word rfl⟩, List.forall_mem_cons.mpr ⟨⟨(List.mem_of_getElem? (i := 2) rfl), good_of_word rfl⟩, List.forall_mem_cons.mpr ⟨⟨(List.mem_of_getElem? (i := 3) rfl), good_of_word rfl⟩, List.forall_mem_cons.mpr ⟨⟨(List.mem_of_getElem? (i := 4) rfl), good_of_word rfl⟩, (fun _ h => absurd h List.not_mem_nil)⟩⟩⟩⟩) gr_k_charAt_12_k_isLatin1_12
set_option maxRecDepth 20000 in
theorem gr_k_charAt_12_k_lcharAt_12 : GoodIn wq_k_charAt_12 wq_k_lcharAt_12 := List.forall_mem_cons.mpr ⟨⟨(List.mem_of_getElem? (i := 12) rfl), good_of_word rfl⟩, List.forall_mem_cons.mpr ⟨⟨(List.mem_of_getElem? (i := 13) rfl), good_of_word rfl⟩, List.forall_mem_cons.mpr ⟨⟨(List.mem_of_getElem? (i := 14) rfl), good_of_word rfl⟩, List.forall_mem_cons.mpr ⟨⟨(List.mem_of_getElem? (i := 4) rfl), good_of_word rfl⟩, List.forall_mem_cons.mpr ⟨⟨(List.mem_of_getElem? (i := 15) rfl), good_of_word rfl⟩, List.forall_mem_cons.mpr ⟨⟨(List.mem_of_getElem? (i := 16) rfl), good_of_word rfl⟩, List.forall_mem_cons.mpr ⟨⟨(List.mem_of_getElem? (i := 17) rfl), good_of_word rfl⟩, List.forall_mem_cons.mpr ⟨⟨(List.mem_of_getElem? (i := 18) rfl), good_of_word rfl⟩, List.forall_mem_cons.mpr ⟨⟨(List.mem_of_getElem? (i := 19) rfl), good_of_word rfl⟩, List.forall_mem_cons.mpr ⟨⟨(List.mem_of_getElem? (i := 20) rfl), good_of_word rfl⟩, (fun _ h => absurd h List.not_mem_nil)⟩⟩⟩⟩⟩⟩⟩⟩⟩⟩
set_option maxRecDepth 20000 in
theorem gq_k_charAt_12_k_lcharAt_12_495 : GoodIn wq_k_charAt_12 (va_wsS RJ0 495 yJ1_charAt_3b067 wq_k_lcharAt_12) := goodIn_app (List.forall_mem_cons.mpr ⟨⟨(List.mem_of_getElem? (i := 9) rfl), good_of_word rfl⟩, List.forall_mem_cons.mpr ⟨⟨(List.mem_of_getElem? (i := 10) rfl), good_of_word rfl⟩, List.forall_mem_cons.mpr ⟨⟨(List.mem_of_getElem? (i := 11) rfl), good_of_word rfl⟩, (fun _ h => absurd h List.not_mem_nil)⟩⟩⟩) gr_k_charAt_12_k_lcharAt_12
set_option maxHeartbeats 8000000 in
set_option maxRecDepth 100000 in
theorem k_charAt_12 (l : Launch) (D : va_G) (cy : Nat → ClassId) (ad : Nat → Nat) (g : Nat → va_E) {n : Int32} (p_n : zi 0 2 n) : cMi l yJ0_charAt_5068e wq_k_charAt_12 { frames := 3, cells := 0, slots := 0, locals := 64 } 0 0 0 0 D cy ad g [.ref (cy (100 + 12)), .int n] (fun r nw lu => (zi 0 65535 r) ∧ (lu = [])) := by
  refine cM_of (Qc := fun A => cQi (fun r nw lu => (zi 0 65535 r) ∧ (lu = [])) D 0 0 ad g A) (cc := cJ0_charAt_5068e) (maxL := 2) (ret := (some .char)) (by decide) rfl (Nat.le_of_ble_eq_true rfl) ?_
  intro p e s m below meth c A hC hr hlk hnm hO ls hl
  have hC : CallFix p m c cJ0_charAt_5068e 2 s [.ref (cy (100 + 12)), .int n].toArray wq_k_charAt_12 RJ0 := hC
  obtain ⟨hx, hb, hml, hown, hts⟩ := id hC
  have hl : lv_has ls 2 [(0, .ref (cy (100 + 12))), (1, .int n)] := hl
  refine lv_aload_n hx hb ddJ0_charAt_5068e_0 rfl (lv_at hl 0 rfl) ?_
  refine sg_Vi (As := []) (rest := []) (mc := 0) (ms := 0) (rm := { frames := 0, cells := 0, slots := 0, locals := 0 }) hC hl.1 hO [] (by decide +kernel) 12 (by decide) (k_isLatin1_12 l D cy _ _  ) gq_k_charAt_12_k_isLatin1_12_492 rfl rfl rfl 0 (by decide +kernel) ⟨Nat.le_of_ble_eq_true rfl, Nat.le_of_ble_eq_true rfl⟩ rfl rfl (Nat.le_of_ble_eq_true rfl) ddJ0_charAt_5068e_1 ⟨Nat.le_of_ble_eq_true rfl, Nat.le_of_ble_eq_true rfl⟩ (fun r_1_10 nw_1_8 l_1_9 H locs hw hO => ?_)
  obtain ⟨rfl, rfl⟩ := hw
  have hO : cO D cy A s.heap s 0 ad (cup [] g) _ _ := hO
  refine lv_if_eq (tgt := 16) hx hb ddJ0_charAt_5068e_4 (by decide) (fun h => absurd h (by decide)) (fun _ => ?_)
  refine lv_aload_n hx hb ddJ0_charAt_5068e_7 rfl (lv_at hl 0 rfl) ?_
  refine sg_val hC hO 12 (by decide) (List.mem_of_getElem? (i := 8) rfl) ddJ0_charAt_5068e_8 ?_
  refine lv_iload_n hx hb ddJ0_charAt_5068e_11 rfl (lv_at hl 1 rfl) ?_
  refine cg_Si (As := [.ref (cy (200 + 12)), .int n]) (rest := []) (mc := 0) (ms := 0) (rm := { frames := 2, cells := 0, slots := 0, locals := 43 }) hC hl.1 hO [] (by decide +kernel) (k_lcharAt_12 l D cy _ _ (n := n) p_n) gq_k_charAt_12_k_lcharAt_12_495 rfl rfl rfl 2 (by decide +kernel) ⟨Nat.le_of_ble_eq_true rfl, Nat.le_of_ble_eq_true rfl⟩ rfl rfl (Nat.le_of_ble_eq_true rfl) ddJ0_charAt_5068e_12 ⟨Nat.le_of_ble_eq_true rfl, Nat.le_of_ble_eq_true rfl⟩ (fun r_12_13 nw_12_11 l_12_12 H locs hw hO => ?_)
  obtain ⟨z_12_14, rfl⟩ := hw
  have hO : cO D cy A s.heap s 0 ad (cup [] g) _ _ := hO
  exact cg_iret (nw := fun _ => 0) hC hr hlk hO.same (zi_narC z_12_14) (Nat.le_of_ble_eq_true rfl) (Nat.le_of_ble_eq_true rfl) (⟨z_12_14, rfl⟩) ddJ0_charAt_5068e_15

def wq_k_isLatin1_13 : List Cond := Cond.code yJ0_isLatin1_aae02 cJ0_isLatin1_aae02 1 (some .boolean) :: (([Cond.fieldLink RJ0 38 "java/lang/String" "COMPACT_STRINGS" "Z", Cond.fieldLink RJ0 15 "java/lang/String" "coder" "B"] : List Cond))
set_option maxHeartbeats 8000000 in
set_option maxRecDepth 100000 in
theorem k_isLatin1_13 (l : Launch) (D : va_G) (cy : Nat → ClassId) (ad : Nat → Nat) (g : Nat → va_E)   : cMi l yJ0_isLatin1_aae02 wq_k_isLatin1_13 { frames := 0, cells := 0, slots := 0, locals := 0 } 0 0 0 0 D cy ad g [.ref (cy (100 + 13))] (fun r nw lu => (r = 1) ∧ (lu = [])) := by
  refine cM_of (Qc := fun A => cQi (fun r nw lu => (r = 1) ∧ (lu = [])) D 0 0 ad g A) (cc := cJ0_isLatin1_aae02) (maxL := 1) (ret := (some .boolean)) (by decide) rfl (Nat.le_of_ble_eq_true rfl) ?_
  intro p e s m below meth c A hC hr hlk hnm hO ls hl
  have hC : CallFix p m c cJ0_isLatin1_aae02 1 s [.ref (cy (100 + 13))].toArray wq_k_isLatin1_13 RJ0 := hC
  obtain ⟨hx, hb, hml, hown, hts⟩ := id hC
  have hl : lv_has ls 1 [(0, .ref (cy (100 + 13)))] := hl
  refine sg_com hC hO (List.mem_of_getElem? (i := 1) rfl) ddJ0_isLatin1_aae02_0 ?_
  refine lv_if_eq (tgt := 17) hx hb ddJ0_isLatin1_aae02_3 (by decide) (fun h => absurd h (by decide)) (fun _ => ?_)
  refine lv_aload_n hx hb ddJ0_isLatin1_aae02_6 rfl (lv_at hl 0 rfl) ?_
  refine sg_cod hC hO 13 (by decide) (List.mem_of_getElem? (i := 2) rfl) ddJ0_isLatin1_aae02_7 ?_
  refine lv_if_ne (tgt := 17) hx hb ddJ0_isLatin1_aae02_10 (by decide) (fun h => absurd h (by decide)) (fun _ => ?_)
  refine lv_iconst (v := 1) hx hb ddJ0_isLatin1_aae02_13 (by decide) ?_
  refine lv_goto (tgt := 18) hx hb ddJ0_isLatin1_aae02_14 (by decide) ?_
  exact cg_iret (nw := fun _ => 0) hC hr hlk hO.same rfl (Nat.le_of_ble_eq_true rfl) (Nat.le_of_ble_eq_true rfl) (⟨rfl, rfl⟩) ddJ0_isLatin1_aae02_18

def wq_k_lcharAt_13 : List Cond := Cond.code yJ1_charAt_3b067 cJ1_charAt_3b067 2 (some .char) :: (([Cond.methodLink RJ1 9 yJ0_checkIndex_df160, Cond.static yJ0_checkIndex_df160, Cond.initialized RJ0, Cond.code yJ0_checkIndex_df160 cJ0_checkIndex_df160 2 none, Cond.fieldLink RJ0 1053 "jdk/internal/util/Preconditions" "SIOOBE_FORMATTER" "Ljava/util/function/BiFunction;", Cond.methodLink RJ0 1059 yJ3_checkIndex_8e157, Cond.static yJ3_checkIndex_8e157, Cond.initialized RJ3, Cond.code yJ3_checkIndex_8e157 cJ3_checkIndex_8e157 3 (some .int)] : List Cond))
set_option maxRecDepth 20000 in
theorem gr_k_lcharAt_13_k_checkIndex0_2 : GoodIn wq_k_lcharAt_13 wq_k_checkIndex0_2 := List.forall_mem_cons.mpr ⟨⟨(List.mem_of_getElem? (i := 4) rfl), good_of_word rfl⟩, List.forall_mem_cons.mpr ⟨⟨(List.mem_of_getElem? (i := 5) rfl), good_of_word rfl⟩, List.forall_mem_cons.mpr ⟨⟨(List.mem_of_getElem? (i := 6) rfl), good_of_word rfl⟩, List.forall_mem_cons.mpr ⟨⟨(List.mem_of_getElem? (i := 7) rfl), good_of_word rfl⟩, List.forall_mem_cons.mpr ⟨⟨(List.mem_of_getElem? (i := 8) rfl), good_of_word rfl⟩, List.forall_mem_cons.mpr ⟨⟨(List.mem_of_getElem? (i := 9) rfl), good_of_word rfl⟩, (fun _ h => absurd h List.not_mem_nil)⟩⟩⟩⟩⟩⟩
set_option maxRecDepth 20000 in
theorem gq_k_lcharAt_13_k_checkIndex0_2_9 : GoodIn wq_k_lcharAt_13 (va_wsS RJ1 9 yJ0_checkIndex_df160 wq_k_checkIndex0_2) := goodIn_app (List.forall_mem_cons.mpr ⟨⟨(List.mem_of_getElem? (i := 1) rfl), good_of_word rfl⟩, List.forall_mem_cons.mpr ⟨⟨(List.mem_of_getElem? (i := 2) rfl), good_of_word rfl⟩, List.forall_mem_cons.mpr ⟨⟨(List.mem_of_getElem? (i := 3) rfl), good_of_word rfl⟩, (fun _ h => absurd h List.not_mem_nil)⟩⟩⟩) gr_k_lcharAt_13_k_checkIndex0_2
set_option maxHeartbeats 8000000 in
set_option maxRecDepth 100000 in
theorem k_lcharAt_13 (l : Launch) (D : va_G) (cy : Nat → ClassId) (ad : Nat → Nat) (g : Nat → va_E) {n : Int32} (p_n : zi 0 1 n) : cMi l yJ1_charAt_3b067 wq_k_lcharAt_13 { frames := 2, cells := 0, slots := 0, locals := 43 } 0 0 0 0 D cy ad g [.ref (cy (200 + 13)), .int n] (fun r nw lu => (zi 0 65535 r) ∧ (lu = [])) := by
  refine cM_of (Qc := fun A => cQi (fun r nw lu => (zi 0 65535 r) ∧ (lu = [])) D 0 0 ad g A) (cc := cJ1_charAt_3b067) (maxL := 2) (ret := (some .char)) (by decide) rfl (Nat.le_of_ble_eq_true rfl) ?_
  intro p e s m below meth c A hC hr hlk hnm hO ls hl
  have hC : CallFix p m c cJ1_charAt_3b067 2 s [.ref (cy (200 + 13)), .int n].toArray wq_k_lcharAt_13 RJ1 := hC
  obtain ⟨hx, hb, hml, hown, hts⟩ := id hC
  have hl : lv_has ls 2 [(0, .ref (cy (200 + 13))), (1, .int n)] := hl
  refine lv_iload_n hx hb ddJ1_charAt_3b067_0 rfl (lv_at hl 1 rfl) ?_
  refine lv_aload_n hx hb ddJ1_charAt_3b067_1 rfl (lv_at hl 0 rfl) ?_
  refine sg_len hC hO 13 (by decide) (v := 2) rfl ddJ1_charAt_3b067_2 ?_
  refine cg_Sv (As := [.int n, .int 2]) (rest := []) (mc := 0) (ms := 0) (rm := { frames := 1, cells := 0, slots := 0, locals := 22 }) hC hl.1 hO [] (by decide +kernel) (k_checkIndex0_2 l D cy _ _ (n := n) p_n) gq_k_lcharAt_13_k_checkIndex0_2_9 rfl rfl rfl 2 (by decide +kernel) ⟨Nat.le_of_ble_eq_true rfl, Nat.le_of_ble_eq_true rfl⟩ rfl rfl (Nat.le_of_ble_eq_true rfl) ddJ1_charAt_3b067_3 ⟨Nat.le_of_ble_eq_true rfl, Nat.le_of_ble_eq_true rfl⟩ (fun nw_3_9 l_3_10 H locs hw hO => ?_)
  obtain rfl := hw
  have hO : cO D cy A s.heap s 0 ad (cup [] g) _ _ := hO
  refine lv_aload_n hx hb ddJ1_charAt_3b067_6 rfl (lv_at hl 0 rfl) ?_
  refine lv_iload_n hx hb ddJ1_charAt_3b067_7 rfl (lv_at hl 1 rfl) ?_
  refine sg_bld hC hO 13 (by decide) (zi_in p_n (by decide)) ddJ1_charAt_3b067_8 (fun v_8_12 => ?_)
  refine lv_sipush (v := 255) hx hb ddJ1_charAt_3b067_9 (by decide) ?_
  refine lv_iand hx hb ddJ1_charAt_3b067_12 ?_
  refine zg_top (P := fun v => zi 0 255 v) (zi_and (zi_k (a := 0) (b := 255) (x := 255) rfl)) (fun v_12_13 z_12_14 => ?_)
  refine lv_i2c hx hb ddJ1_charAt_3b067_13 rfl ?_
  refine zg_top (P := fun v => zi 0 65535 v) (zi_i2c _) (fun v_13_15 z_13_16 => ?_)
  exact cg_iret (nw := fun _ => 0) hC hr hlk hO.same (zi_narC z_13_16) (Nat.le_of_ble_eq_true rfl) (Nat.le_of_ble_eq_true rfl) (⟨z_13_16, rfl⟩) ddJ1_charAt_3b067_14

def wq_k_charAt_13 : List Cond := Cond.code yJ0_charAt_5068e cJ0_charAt_5068e 2 (some .char) :: (([Cond.methodLink RJ0 492 yJ0_isLatin1_aae02, Cond.instanceMethod yJ0_isLatin1_aae02, Cond.selects RJ0 yJ0_isLatin1_aae02 yJ0_isLatin1_aae02, Cond.initialized RJ0, Cond.code yJ0_isLatin1_aae02 cJ0_isLatin1_aae02 1 (some .boolean), Cond.fieldLink RJ0 38 "java/lang/String" "COMPACT_STRINGS" "Z", Cond.fieldLink RJ0 15 "java/lang/String" "coder" "B", Cond.fieldLink RJ0 9 "java/lang/String" "value" "[B", Cond.methodLink RJ0 495 yJ1_charAt_3b067, Cond.static yJ1_charAt_3b067, Cond.initialized RJ1, Cond.code yJ1_charAt_3b067 cJ1_charAt_3b067 2 (some .char), Cond.methodLink RJ1 9 yJ0_checkIndex_df160, Cond.static yJ0_checkIndex_df160, Cond.code yJ0_checkIndex_df160 cJ0_checkIndex_df160 2 none, Cond.fieldLink RJ0 1053 "jdk/internal/util/Preconditions" "SIOOBE_FORMATTER" "Ljava/util/function/BiFunction;", Cond.methodLink RJ0 1059 yJ3_checkIndex_8e157, Cond.static yJ3_checkIndex_8e157, Cond.initialized RJ3, Cond.code yJ3_checkIndex_8e157 cJ3_checkIndex_8e157 3 (some .int)] : List Cond))
set_option maxRecDepth 20000 in
theorem gr_k_charAt_13_k_isLatin1_13 : GoodIn wq_k_charAt_13 wq_k_isLatin1_13 := List.forall_mem_cons.mpr ⟨⟨(List.mem_of_getElem? (i := 5) rfl), good_of_word rfl⟩, List.forall_mem_cons.mpr ⟨⟨(List.mem_of_getElem? (i := 6) rfl), good_of_word rfl⟩, List.forall_mem_cons.mpr ⟨⟨(List.mem_of_getElem? (i := 7) rfl), good_of_word rfl⟩, (fun _ h => absurd h List.not_mem_nil)⟩⟩⟩
set_option maxRecDepth 20000 in
theorem gq_k_charAt_13_k_isLatin1_13_492 : GoodIn wq_k_charAt_13 (wsV RJ0 492 RJ0 yJ0_isLatin1_aae02 wq_k_isLatin1_13) := goodIn_app (List.forall_mem_cons.mpr ⟨⟨(List.mem_of_getElem? (i := 1) rfl), good_of_word rfl⟩, List.forall_mem_cons.mpr ⟨⟨(List.mem_of_getElem? (i := 2) rfl), good_of_word rfl⟩, List.forall_mem_cons.mpr ⟨⟨(List.mem_of_getElem? (i := 3) rfl), good_of_word rfl⟩, List.forall_mem_cons.mpr ⟨⟨(List.mem_of_getElem? (i := 4) rfl), good_of_word rfl⟩, (fun _ h => absurd h List.not_mem_nil)⟩⟩⟩⟩) gr_k_charAt_13_k_isLatin1_13
set_option maxRecDepth 20000 in
theorem gr_k_charAt_13_k_lcharAt_13 : GoodIn wq_k_charAt_13 wq_k_lcharAt_13 := List.forall_mem_cons.mpr ⟨⟨(List.mem_of_getElem? (i := 12) rfl), good_of_word rfl⟩, List.forall_mem_cons.mpr ⟨⟨(List.mem_of_getElem? (i := 13) rfl), good_of_word rfl⟩, List.forall_mem_cons.mpr ⟨⟨(List.mem_of_getElem? (i := 14) rfl), good_of_word rfl⟩, List.forall_mem_cons.mpr ⟨⟨(List.mem_of_getElem? (i := 4) rfl), good_of_word rfl⟩, List.forall_mem_cons.mpr ⟨⟨(List.mem_of_getElem? (i := 15) rfl), good_of_word rfl⟩, List.forall_mem_cons.mpr ⟨⟨(List.mem_of_getElem? (i := 16) rfl), good_of_word rfl⟩, List.forall_mem_cons.mpr ⟨⟨(List.mem_of_getElem? (i := 17) rfl), good_of_word rfl⟩, List.forall_mem_cons.mpr ⟨⟨(List.mem_of_getElem? (i := 18) rfl), good_of_word rfl⟩, List.forall_mem_cons.mpr ⟨⟨(List.mem_of_getElem? (i := 19) rfl), good_of_word rfl⟩, List.forall_mem_cons.mpr ⟨⟨(List.mem_of_getElem? (i := 20) rfl), good_of_word rfl⟩, (fun _ h => absurd h List.not_mem_nil)⟩⟩⟩⟩⟩⟩⟩⟩⟩⟩
set_option maxRecDepth 20000 in
theorem gq_k_charAt_13_k_lcharAt_13_495 : GoodIn wq_k_charAt_13 (va_wsS RJ0 495 yJ1_charAt_3b067 wq_k_lcharAt_13) := goodIn_app (List.forall_mem_cons.mpr ⟨⟨(List.mem_of_getElem? (i := 9) rfl), good_of_word rfl⟩, List.forall_mem_cons.mpr ⟨⟨(List.mem_of_getElem? (i := 10) rfl), good_of_word rfl⟩, List.forall_mem_cons.mpr ⟨⟨(List.mem_of_getElem? (i := 11) rfl), good_of_word rfl⟩, (fun _ h => absurd h List.not_mem_nil)⟩⟩⟩) gr_k_charAt_13_k_lcharAt_13
set_option maxHeartbeats 8000000 in
set_option maxRecDepth 100000 in
theorem k_charAt_13 (l : Launch) (D : va_G) (cy : Nat → ClassId) (ad : Nat → Nat) (g : Nat → va_E) {n : Int32} (p_n : zi 0 1 n) : cMi l yJ0_charAt_5068e wq_k_charAt_13 { frames := 3, cells := 0, slots := 0, locals := 64 } 0 0 0 0 D cy ad g [.ref (cy (100 + 13)), .int n] (fun r nw lu => (zi 0 65535 r) ∧ (lu = [])) := by
  refine cM_of (Qc := fun A => cQi (fun r nw lu => (zi 0 65535 r) ∧ (lu = [])) D 0 0 ad g A) (cc := cJ0_charAt_5068e) (maxL := 2) (ret := (some .char)) (by decide) rfl (Nat.le_of_ble_eq_true rfl) ?_
  intro p e s m below meth c A hC hr hlk hnm hO ls hl
  have hC : CallFix p m c cJ0_charAt_5068e 2 s [.ref (cy (100 + 13)), .int n].toArray wq_k_charAt_13 RJ0 := hC
  obtain ⟨hx, hb, hml, hown, hts⟩ := id hC
  have hl : lv_has ls 2 [(0, .ref (cy (100 + 13))), (1, .int n)] := hl
  refine lv_aload_n hx hb ddJ0_charAt_5068e_0 rfl (lv_at hl 0 rfl) ?_
  refine sg_Vi (As := []) (rest := []) (mc := 0) (ms := 0) (rm := { frames := 0, cells := 0, slots := 0, locals := 0 }) hC hl.1 hO [] (by decide +kernel) 13 (by decide) (k_isLatin1_13 l D cy _ _  ) gq_k_charAt_13_k_isLatin1_13_492 rfl rfl rfl 0 (by decide +kernel) ⟨Nat.le_of_ble_eq_true rfl, Nat.le_of_ble_eq_true rfl⟩ rfl rfl (Nat.le_of_ble_eq_true rfl) ddJ0_charAt_5068e_1 ⟨Nat.le_of_ble_eq_true rfl, Nat.le_of_ble_eq_true rfl⟩ (fun r_1_10 nw_1_8 l_1_9 H locs hw hO => ?_)
  obtain ⟨rfl, rfl⟩ := hw
  have hO : cO D cy A s.heap s 0 ad (cup [] g) _ _ := hO
  refine lv_if_eq (tgt := 16) hx hb ddJ0_charAt_5068e_4 (by decide) (fun h => absurd h (by decide)) (fun _ => ?_)
  refine lv_aload_n hx hb ddJ0_charAt_5068e_7 rfl (lv_at hl 0 rfl) ?_
  refine sg_val hC hO 13 (by decide) (List.mem_of_getElem? (i := 8) rfl) ddJ0_charAt_5068e_8 ?_
  refine lv_iload_n hx hb ddJ0_charAt_5068e_11 rfl (lv_at hl 1 rfl) ?_
  refine cg_Si (As := [.ref (cy (200 + 13)), .int n]) (rest := []) (mc := 0) (ms := 0) (rm := { frames := 2, cells := 0, slots := 0, locals := 43 }) hC hl.1 hO [] (by decide +kernel) (k_lcharAt_13 l D cy _ _ (n := n) p_n) gq_k_charAt_13_k_lcharAt_13_495 rfl rfl rfl 2 (by decide +kernel) ⟨Nat.le_of_ble_eq_true rfl, Nat.le_of_ble_eq_true rfl⟩ rfl rfl (Nat.le_of_ble_eq_true rfl) ddJ0_charAt_5068e_12 ⟨Nat.le_of_ble_eq_true rfl, Nat.le_of_ble_eq_true rfl⟩ (fun r_12_13 nw_12_11 l_12_12 H locs hw hO => ?_)
  obtain ⟨z_12_14, rfl⟩ := hw
  have hO : cO D cy A s.heap s 0 ad (cup [] g) _ _ := hO
  exact cg_iret (nw := fun _ => 0) hC hr hlk hO.same (zi_narC z_12_14) (Nat.le_of_ble_eq_true rfl) (Nat.le_of_ble_eq_true rfl) (⟨z_12_14, rfl⟩) ddJ0_charAt_5068e_15

def wq_k_isLatin1_14 : List Cond := Cond.code yJ0_isLatin1_aae02 cJ0_isLatin1_aae02 1 (some .boolean) :: (([Cond.fieldLink RJ0 38 "java/lang/String" "COMPACT_STRINGS" "Z", Cond.fieldLink RJ0 15 "java/lang/String" "coder" "B"] : List Cond))
set_option maxHeartbeats 8000000 in
set_option maxRecDepth 100000 in
theorem k_isLatin1_14 (l : Launch) (D : va_G) (cy : Nat → ClassId) (ad : Nat → Nat) (g : Nat → va_E)   : cMi l yJ0_isLatin1_aae02 wq_k_isLatin1_14 { frames := 0, cells := 0, slots := 0, locals := 0 } 0 0 0 0 D cy ad g [.ref (cy (100 + 14))] (fun r nw lu => (r = 1) ∧ (lu = [])) := by
  refine cM_of (Qc := fun A => cQi (fun r nw lu => (r = 1) ∧ (lu = [])) D 0 0 ad g A) (cc := cJ0_isLatin1_aae02) (maxL := 1) (ret := (some .boolean)) (by decide) rfl (Nat.le_of_ble_eq_true rfl) ?_
  intro p e s m below meth c A hC hr hlk hnm hO ls hl
  have hC : CallFix p m c cJ0_isLatin1_aae02 1 s [.ref (cy (100 + 14))].toArray wq_k_isLatin1_14 RJ0 := hC
  obtain ⟨hx, hb, hml, hown, hts⟩ := id hC
  have hl : lv_has ls 1 [(0, .ref (cy (100 + 14)))] := hl
  refine sg_com hC hO (List.mem_of_getElem? (i := 1) rfl) ddJ0_isLatin1_aae02_0 ?_
  refine lv_if_eq (tgt := 17) hx hb ddJ0_isLatin1_aae02_3 (by decide) (fun h => absurd h (by decide)) (fun _ => ?_)
  refine lv_aload_n hx hb ddJ0_isLatin1_aae02_6 rfl (lv_at hl 0 rfl) ?_
  refine sg_cod hC hO 14 (by decide) (List.mem_of_getElem? (i := 2) rfl) ddJ0_isLatin1_aae02_7 ?_
  refine lv_if_ne (tgt := 17) hx hb ddJ0_isLatin1_aae02_10 (by decide) (fun h => absurd h (by decide)) (fun _ => ?_)
  refine lv_iconst (v := 1) hx hb ddJ0_isLatin1_aae02_13 (by decide) ?_
  refine lv_goto (tgt := 18) hx hb ddJ0_isLatin1_aae02_14 (by decide) ?_
  exact cg_iret (nw := fun _ => 0) hC hr hlk hO.same rfl (Nat.le_of_ble_eq_true rfl) (Nat.le_of_ble_eq_true rfl) (⟨rfl, rfl⟩) ddJ0_isLatin1_aae02_18

def wq_k_lcharAt_14 : List Cond := Cond.code yJ1_charAt_3b067 cJ1_charAt_3b067 2 (some .char) :: (([Cond.methodLink RJ1 9 yJ0_checkIndex_df160, Cond.static yJ0_checkIndex_df160, Cond.initialized RJ0, Cond.code yJ0_checkIndex_df160 cJ0_checkIndex_df160 2 none, Cond.fieldLink RJ0 1053 "jdk/internal/util/Preconditions" "SIOOBE_FORMATTER" "Ljava/util/function/BiFunction;", Cond.methodLink RJ0 1059 yJ3_checkIndex_8e157, Cond.static yJ3_checkIndex_8e157, Cond.initialized RJ3, Cond.code yJ3_checkIndex_8e157 cJ3_checkIndex_8e157 3 (some .int)] : List Cond))
set_option maxRecDepth 20000 in
theorem gr_k_lcharAt_14_k_checkIndex0_3 : GoodIn wq_k_lcharAt_14 wq_k_checkIndex0_3 := List.forall_mem_cons.mpr ⟨⟨(List.mem_of_getElem? (i := 4) rfl), good_of_word rfl⟩, List.forall_mem_cons.mpr ⟨⟨(List.mem_of_getElem? (i := 5) rfl), good_of_word rfl⟩, List.forall_mem_cons.mpr ⟨⟨(List.mem_of_getElem? (i := 6) rfl), good_of_word rfl⟩, List.forall_mem_cons.mpr ⟨⟨(List.mem_of_getElem? (i := 7) rfl), good_of_word rfl⟩, List.forall_mem_cons.mpr ⟨⟨(List.mem_of_getElem? (i := 8) rfl), good_of_word rfl⟩, List.forall_mem_cons.mpr ⟨⟨(List.mem_of_getElem? (i := 9) rfl), good_of_word rfl⟩, (fun _ h => absurd h List.not_mem_nil)⟩⟩⟩⟩⟩⟩
set_option maxRecDepth 20000 in
theorem gq_k_lcharAt_14_k_checkIndex0_3_9 : GoodIn wq_k_lcharAt_14 (va_wsS RJ1 9 yJ0_checkIndex_df160 wq_k_checkIndex0_3) := goodIn_app (List.forall_mem_cons.mpr ⟨⟨(List.mem_of_getElem? (i := 1) rfl), good_of_word rfl⟩, List.forall_mem_cons.mpr ⟨⟨(List.mem_of_getElem? (i := 2) rfl), good_of_word rfl⟩, List.forall_mem_cons.mpr ⟨⟨(List.mem_of_getElem? (i := 3) rfl), good_of_word rfl⟩, (fun _ h => absurd h List.not_mem_nil)⟩⟩⟩) gr_k_lcharAt_14_k_checkIndex0_3
set_option maxHeartbeats 8000000 in
set_option maxRecDepth 100000 in
theorem k_lcharAt_14 (l : Launch) (D : va_G) (cy : Nat → ClassId) (ad : Nat → Nat) (g : Nat → va_E) {n : Int32} (p_n : zi 0 2 n) : cMi l yJ1_charAt_3b067 wq_k_lcharAt_14 { frames := 2, cells := 0, slots := 0, locals := 43 } 0 0 0 0 D cy ad g [.ref (cy (200 + 14)), .int n] (fun r nw lu => (zi 0 65535 r) ∧ (lu = [])) := by
  refine cM_of (Qc := fun A => cQi (fun r nw lu => (zi 0 65535 r) ∧ (lu = [])) D 0 0 ad g A) (cc := cJ1_charAt_3b067) (maxL := 2) (ret := (some .char)) (by decide) rfl (Nat.le_of_ble_eq_true rfl) ?_
  intro p e s m below meth c A hC hr hlk hnm hO ls hl
  have hC : CallFix p m c cJ1_charAt_3b067 2 s [.ref (cy (200 + 14)), .int n].toArray wq_k_lcharAt_14 RJ1 := hC
  obtain ⟨hx, hb, hml, hown, hts⟩ := id hC
  have hl : lv_has ls 2 [(0, .ref (cy (200 + 14))), (1, .int n)] := hl
  refine lv_iload_n hx hb ddJ1_charAt_3b067_0 rfl (lv_at hl 1 rfl) ?_
  refine lv_aload_n hx hb ddJ1_charAt_3b067_1 rfl (lv_at hl 0 rfl) ?_
  refine sg_len hC hO 14 (by decide) (v := 3) rfl ddJ1_charAt_3b067_2 ?_
  refine cg_Sv (As := [.int n, .int 3]) (rest := []) (mc := 0) (ms := 0) (rm := { frames := 1, cells := 0, slots := 0, locals := 22 }) hC hl.1 hO [] (by decide +kernel) (k_checkIndex0_3 l D cy _ _ (n := n) p_n) gq_k_lcharAt_14_k_checkIndex0_3_9 rfl rfl rfl 2 (by decide +kernel) ⟨Nat.le_of_ble_eq_true rfl, Nat.le_of_ble_eq_true rfl⟩ rfl rfl (Nat.le_of_ble_eq_true rfl) ddJ1_charAt_3b067_3 ⟨Nat.le_of_ble_eq_true rfl, Nat.le_of_ble_eq_true rfl⟩ (fun nw_3_9 l_3_10 H locs hw hO => ?_)
  obtain rfl := hw
  have hO : cO D cy A s.heap s 0 ad (cup [] g) _ _ := hO
  refine lv_aload_n hx hb ddJ1_charAt_3b067_6 rfl (lv_at hl 0 rfl) ?_
  refine lv_iload_n hx hb ddJ1_charAt_3b067_7 rfl (lv_at hl 1 rfl) ?_
  refine sg_bld hC hO 14 (by decide) (zi_in p_n (by decide)) ddJ1_charAt_3b067_8 (fun v_8_12 => ?_)
  refine lv_sipush (v := 255) hx hb ddJ1_charAt_3b067_9 (by decide) ?_
  refine lv_iand hx hb ddJ1_charAt_3b067_12 ?_
  refine zg_top (P := fun v => zi 0 255 v) (zi_and (zi_k (a := 0) (b := 255) (x := 255) rfl)) (fun v_12_13 z_12_14 => ?_)
  refine lv_i2c hx hb ddJ1_charAt_3b067_13 rfl ?_
  refine zg_top (P := fun v => zi 0 65535 v) (zi_i2c _) (fun v_13_15 z_13_16 => ?_)
  exact cg_iret (nw := fun _ => 0) hC hr hlk hO.same (zi_narC z_13_16) (Nat.le_of_ble_eq_true rfl) (Nat.le_of_ble_eq_true rfl) (⟨z_13_16, rfl⟩) ddJ1_charAt_3b067_14

def wq_k_charAt_14 : List Cond := Cond.code yJ0_charAt_5068e cJ0_charAt_5068e 2 (some .char) :: (([Cond.methodLink RJ0 492 yJ0_isLatin1_aae02, Cond.instanceMethod yJ0_isLatin1_aae02, Cond.selects RJ0 yJ0_isLatin1_aae02 yJ0_isLatin1_aae02, Cond.initialized RJ0, Cond.code yJ0_isLatin1_aae02 cJ0_isLatin1_aae02 1 (some .boolean), Cond.fieldLink RJ0 38 "java/lang/String" "COMPACT_STRINGS" "Z", Cond.fieldLink RJ0 15 "java/lang/String" "coder" "B", Cond.fieldLink RJ0 9 "java/lang/String" "value" "[B", Cond.methodLink RJ0 495 yJ1_charAt_3b067, Cond.static yJ1_charAt_3b067, Cond.initialized RJ1, Cond.code yJ1_charAt_3b067 cJ1_charAt_3b067 2 (some .char), Cond.methodLink RJ1 9 yJ0_checkIndex_df160, Cond.static yJ0_checkIndex_df160, Cond.code yJ0_checkIndex_df160 cJ0_checkIndex_df160 2 none, Cond.fieldLink RJ0 1053 "jdk/internal/util/Preconditions" "SIOOBE_FORMATTER" "Ljava/util/function/BiFunction;", Cond.methodLink RJ0 1059 yJ3_checkIndex_8e157, Cond.static yJ3_checkIndex_8e157, Cond.initialized RJ3, Cond.code yJ3_checkIndex_8e157 cJ3_checkIndex_8e157 3 (some .int)] : List Cond))
set_option maxRecDepth 20000 in
theorem gr_k_charAt_14_k_isLatin1_14 : GoodIn wq_k_charAt_14 wq_k_isLatin1_14 := List.forall_mem_cons.mpr ⟨⟨(List.mem_of_getElem? (i := 5) rfl), good_of_word rfl⟩, List.forall_mem_cons.mpr ⟨⟨(List.mem_of_getElem? (i := 6) rfl), good_of_word rfl⟩, List.forall_mem_cons.mpr ⟨⟨(List.mem_of_getElem? (i := 7) rfl), good_of_word rfl⟩, (fun _ h => absurd h List.not_mem_nil)⟩⟩⟩
set_option maxRecDepth 20000 in
theorem gq_k_charAt_14_k_isLatin1_14_492 : GoodIn wq_k_charAt_14 (wsV RJ0 492 RJ0 yJ0_isLatin1_aae02 wq_k_isLatin1_14) := goodIn_app (List.forall_mem_cons.mpr ⟨⟨(List.mem_of_getElem? (i := 1) rfl), good_of_word rfl⟩, List.forall_mem_cons.mpr ⟨⟨(List.mem_of_getElem? (i := 2) rfl), good_of_word rfl⟩, List.forall_mem_cons.mpr ⟨⟨(List.mem_of_getElem? (i := 3) rfl), good_of_word rfl⟩, List.forall_mem_cons.mpr ⟨⟨(List.mem_of_getElem? (i := 4) rfl), good_of_word rfl⟩, (fun _ h => absurd h List.not_mem_nil)⟩⟩⟩⟩) gr_k_charAt_14_k_isLatin1_14
set_option maxRecDepth 20000 in
theorem gr_k_charAt_14_k_lcharAt_14 : GoodIn wq_k_charAt_14 wq_k_lcharAt_14 := List.forall_mem_cons.mpr ⟨⟨(List.mem_of_getElem? (i := 12) rfl), good_of_word rfl⟩, List.forall_mem_cons.mpr ⟨⟨(List.mem_of_getElem? (i := 13) rfl), good_of_word rfl⟩, List.forall_mem_cons.mpr ⟨⟨(List.mem_of_getElem? (i := 14) rfl), good_of_word rfl⟩, List.forall_mem_cons.mpr ⟨⟨(List.mem_of_getElem? (i := 4) rfl), good_of_word rfl⟩, List.forall_mem_cons.mpr ⟨⟨(List.mem_of_getElem? (i := 15) rfl), good_of_word rfl⟩, List.forall_mem_cons.mpr ⟨⟨(List.mem_of_getElem? (i := 16) rfl), good_of_word rfl⟩, List.forall_mem_cons.mpr ⟨⟨(List.mem_of_getElem? (i := 17) rfl), good_of_word rfl⟩, List.forall_mem_cons.mpr ⟨⟨(List.mem_of_getElem? (i := 18) rfl), good_of_word rfl⟩, List.forall_mem_cons.mpr ⟨⟨(List.mem_of_getElem? (i := 19) rfl), good_of_word rfl⟩, List.forall_mem_cons.mpr ⟨⟨(List.mem_of_getElem? (i := 20) rfl), good_of_word rfl⟩, (fun _ h => absurd h List.not_mem_nil)⟩⟩⟩⟩⟩⟩⟩⟩⟩⟩
set_option maxRecDepth 20000 in
theorem gq_k_charAt_14_k_lcharAt_14_495 : GoodIn wq_k_charAt_14 (va_wsS RJ0 495 yJ1_charAt_3b067 wq_k_lcharAt_14) := goodIn_app (List.forall_mem_cons.mpr ⟨⟨(List.mem_of_getElem? (i := 9) rfl), good_of_word rfl⟩, List.forall_mem_cons.mpr ⟨⟨(List.mem_of_getElem? (i := 10) rfl), good_of_word rfl⟩, List.forall_mem_cons.mpr ⟨⟨(List.mem_of_getElem? (i := 11) rfl), good_of_word rfl⟩, (fun _ h => absurd h List.not_mem_nil)⟩⟩⟩) gr_k_charAt_14_k_lcharAt_14
set_option maxHeartbeats 8000000 in
set_option maxRecDepth 100000 in
theorem k_charAt_14 (l : Launch) (D : va_G) (cy : Nat → ClassId) (ad : Nat → Nat) (g : Nat → va_E) {n : Int32} (p_n : zi 0 2 n) : cMi l yJ0_charAt_5068e wq_k_charAt_14 { frames := 3, cells := 0, slots := 0, locals := 64 } 0 0 0 0 D cy ad g [.ref (cy (100 + 14)), .int n] (fun r nw lu => (zi 0 65535 r) ∧ (lu = [])) := by
  refine cM_of (Qc := fun A => cQi (fun r nw lu => (zi 0 65535 r) ∧ (lu = [])) D 0 0 ad g A) (cc := cJ0_charAt_5068e) (maxL := 2) (ret := (some .char)) (by decide) rfl (Nat.le_of_ble_eq_true rfl) ?_
  intro p e s m below meth c A hC hr hlk hnm hO ls hl
  have hC : CallFix p m c cJ0_charAt_5068e 2 s [.ref (cy (100 + 14)), .int n].toArray wq_k_charAt_14 RJ0 := hC
  obtain ⟨hx, hb, hml, hown, hts⟩ := id hC
  have hl : lv_has ls 2 [(0, .ref (cy (100 + 14))), (1, .int n)] := hl
  refine lv_aload_n hx hb ddJ0_charAt_5068e_0 rfl (lv_at hl 0 rfl) ?_
  refine sg_Vi (As := []) (rest := []) (mc := 0) (ms := 0) (rm := { frames := 0, cells := 0, slots := 0, locals := 0 }) hC hl.1 hO [] (by decide +kernel) 14 (by decide) (k_isLatin1_14 l D cy _ _  ) gq_k_charAt_14_k_isLatin1_14_492 rfl rfl rfl 0 (by decide +kernel) ⟨Nat.le_of_ble_eq_true rfl, Nat.le_of_ble_eq_true rfl⟩ rfl rfl (Nat.le_of_ble_eq_true rfl) ddJ0_charAt_5068e_1 ⟨Nat.le_of_ble_eq_true rfl, Nat.le_of_ble_eq_true rfl⟩ (fun r_1_10 nw_1_8 l_1_9 H locs hw hO => ?_)
  obtain ⟨rfl, rfl⟩ := hw
  have hO : cO D cy A s.heap s 0 ad (cup [] g) _ _ := hO
  refine lv_if_eq (tgt := 16) hx hb ddJ0_charAt_5068e_4 (by decide) (fun h => absurd h (by decide)) (fun _ => ?_)
  refine lv_aload_n hx hb ddJ0_charAt_5068e_7 rfl (lv_at hl 0 rfl) ?_
  refine sg_val hC hO 14 (by decide) (List.mem_of_getElem? (i := 8) rfl) ddJ0_charAt_5068e_8 ?_
  refine lv_iload_n hx hb ddJ0_charAt_5068e_11 rfl (lv_at hl 1 rfl) ?_
  refine cg_Si (As := [.ref (cy (200 + 14)), .int n]) (rest := []) (mc := 0) (ms := 0) (rm := { frames := 2, cells := 0, slots := 0, locals := 43 }) hC hl.1 hO [] (by decide +kernel) (k_lcharAt_14 l D cy _ _ (n := n) p_n) gq_k_charAt_14_k_lcharAt_14_495 rfl rfl rfl 2 (by decide +kernel) ⟨Nat.le_of_ble_eq_true rfl, Nat.le_of_ble_eq_true rfl⟩ rfl rfl (Nat.le_of_ble_eq_true rfl) ddJ0_charAt_5068e_12 ⟨Nat.le_of_ble_eq_true rfl, Nat.le_of_ble_eq_true rfl⟩ (fun r_12_13 nw_12_11 l_12_12 H locs hw hO => ?_)
  obtain ⟨z_12_14, rfl⟩ := hw
  have hO : cO D cy A s.heap s 0 ad (cup [] g) _ _ := hO
  exact cg_iret (nw := fun _ => 0) hC hr hlk hO.same (zi_narC z_12_14) (Nat.le_of_ble_eq_true rfl) (Nat.le_of_ble_eq_true rfl) (⟨z_12_14, rfl⟩) ddJ0_charAt_5068e_15

theorem ddJ1_canEncode_9a6ad_0 : decode cJ1_canEncode_9a6ad 0 = .ok (.iload_n 0, 1) := by decide +kernel
theorem ddJ1_canEncode_9a6ad_1 : decode cJ1_canEncode_9a6ad 1 = .ok (.ifCond .lt 14, 3) := by decide +kernel
theorem ddJ1_canEncode_9a6ad_4 : decode cJ1_canEncode_9a6ad 4 = .ok (.iload_n 0, 1) := by decide +kernel
theorem ddJ1_canEncode_9a6ad_5 : decode cJ1_canEncode_9a6ad 5 = .ok (.sipush 255, 3) := by decide +kernel
theorem ddJ1_canEncode_9a6ad_8 : decode cJ1_canEncode_9a6ad 8 = .ok (.if_icmp .gt 7, 3) := by decide +kernel
theorem ddJ1_canEncode_9a6ad_11 : decode cJ1_canEncode_9a6ad 11 = .ok (.iconst 1, 1) := by decide +kernel
theorem ddJ1_canEncode_9a6ad_12 : decode cJ1_canEncode_9a6ad 12 = .ok (.goto 4, 3) := by decide +kernel
theorem ddJ1_canEncode_9a6ad_15 : decode cJ1_canEncode_9a6ad 15 = .ok (.iconst 0, 1) := by decide +kernel
theorem ddJ1_canEncode_9a6ad_16 : decode cJ1_canEncode_9a6ad 16 = .ok (.ireturn, 1) := by decide +kernel
def wq_k_J1_canEncode_9a6ad : List Cond := Cond.code yJ1_canEncode_9a6ad cJ1_canEncode_9a6ad 1 (some .boolean) :: (([] : List Cond))
set_option maxHeartbeats 8000000 in
set_option maxRecDepth 100000 in
theorem k_J1_canEncode_9a6ad (l : Launch) (D : va_G) (cy : Nat → ClassId) (ad : Nat → Nat) (g : Nat → va_E) {n : Int32}  : cMi l yJ1_canEncode_9a6ad wq_k_J1_canEncode_9a6ad { frames := 0, cells := 0, slots := 0, locals := 0 } 0 0 0 0 D cy ad g [.int n] (fun r nw lu => ((zi 0 255 n) ∧ ((0 : Int32).toInt ≤ (n : Int32).toInt) ∧ ((n : Int32).toInt ≤ (255 : Int32).toInt) ∧ (r = 1) ∧ (lu = [])) ∨ ((r = 0) ∧ (lu = []))) := by
  refine cM_of (Qc := fun A => cQi (fun r nw lu => ((zi 0 255 n) ∧ ((0 : Int32).toInt ≤ (n : Int32).toInt) ∧ ((n : Int32).toInt ≤ (255 : Int32).toInt) ∧ (r = 1) ∧ (lu = [])) ∨ ((r = 0) ∧ (lu = []))) D 0 0 ad g A) (cc := cJ1_canEncode_9a6ad) (maxL := 1) (ret := (some .boolean)) (by decide) rfl (Nat.le_of_ble_eq_true rfl) ?_
  intro p e s m below meth c A hC hr hlk hnm hO ls hl
  have hC : CallFix p m c cJ1_canEncode_9a6ad 1 s [.int n].toArray wq_k_J1_canEncode_9a6ad RJ1 := hC
  obtain ⟨hx, hb, hml, hown, hts⟩ := id hC
  have hl : lv_has ls 1 [(0, .int n)] := hl
  refine lv_iload_n hx hb ddJ1_canEncode_9a6ad_0 rfl (lv_at hl 0 rfl) ?_
  refine lv_if_lt (tgt := 15) hx hb ddJ1_canEncode_9a6ad_1 (by decide) (fun h_1_11 => ?_) (fun h_1_11 => ?_)
  · have q_1_12 := zr_lt h_1_11
    have z_1_13 : zi (-2147483648) (-1) n := zu_lt q_1_12 (zi_all n) (zi_k (a := 0) (b := 0) (x := 0) rfl) (by decide)
    refine lv_iconst (v := 0) hx hb ddJ1_canEncode_9a6ad_15 (by decide) ?_
    exact cg_iret (nw := fun _ => 0) hC hr hlk hO.same rfl (Nat.le_of_ble_eq_true rfl) (Nat.le_of_ble_eq_true rfl) (Or.inr ⟨rfl, rfl⟩) ddJ1_canEncode_9a6ad_16
  · have q_1_14 := zr_nlt h_1_11
    have z_1_15 : zi 0 2147483647 n := zd_le q_1_14 (zi_k (a := 0) (b := 0) (x := 0) rfl) (zi_all n) (by decide)
    refine lv_iload_n hx hb ddJ1_canEncode_9a6ad_4 rfl (lv_at hl 0 rfl) ?_
    refine lv_sipush (v := 255) hx hb ddJ1_canEncode_9a6ad_5 (by decide) ?_
    refine lv_icmp_gt (tgt := 15) hx hb ddJ1_canEncode_9a6ad_8 (by decide) (fun h_8_16 => ?_) (fun h_8_16 => ?_)
    · have q_8_17 := zr_lt h_8_16
      have z_8_18 : zi 256 2147483647 n := zd_lt q_8_17 (zi_k (a := 255) (b := 255) (x := 255) rfl) z_1_15 (by decide)
      refine lv_iconst (v := 0) hx hb ddJ1_canEncode_9a6ad_15 (by decide) ?_
      exact cg_iret (nw := fun _ => 0) hC hr hlk hO.same rfl (Nat.le_of_ble_eq_true rfl) (Nat.le_of_ble_eq_true rfl) (Or.inr ⟨rfl, rfl⟩) ddJ1_canEncode_9a6ad_16
    · have q_8_19 := zr_nlt h_8_16
      have z_8_20 : zi 0 255 n := zu_le q_8_19 z_1_15 (zi_k (a := 255) (b := 255) (x := 255) rfl) (by decide)
      refine lv_iconst (v := 1) hx hb ddJ1_canEncode_9a6ad_11 (by decide) ?_
      refine lv_goto (tgt := 16) hx hb ddJ1_canEncode_9a6ad_12 (by decide) ?_
      exact cg_iret (nw := fun _ => 0) hC hr hlk hO.same rfl (Nat.le_of_ble_eq_true rfl) (Nat.le_of_ble_eq_true rfl) (Or.inl ⟨z_8_20, q_1_14, q_8_19, rfl, rfl⟩) ddJ1_canEncode_9a6ad_16

theorem ddJ1_indexOfChar_4cfef_0 : decode cJ1_indexOfChar_4cfef 0 = .ok (.iload_n 1, 1) := by decide +kernel
theorem ddJ1_indexOfChar_4cfef_1 : decode cJ1_indexOfChar_4cfef 1 = .ok (.i2b, 1) := by decide +kernel
theorem ddJ1_indexOfChar_4cfef_2 : decode cJ1_indexOfChar_4cfef 2 = .ok (.istore 4, 2) := by decide +kernel
theorem ddJ1_indexOfChar_4cfef_4 : decode cJ1_indexOfChar_4cfef 4 = .ok (.iload_n 2, 1) := by decide +kernel
theorem ddJ1_indexOfChar_4cfef_5 : decode cJ1_indexOfChar_4cfef 5 = .ok (.istore 5, 2) := by decide +kernel
theorem ddJ1_indexOfChar_4cfef_7 : decode cJ1_indexOfChar_4cfef 7 = .ok (.iload 5, 2) := by decide +kernel
theorem ddJ1_indexOfChar_4cfef_9 : decode cJ1_indexOfChar_4cfef 9 = .ok (.iload_n 3, 1) := by decide +kernel
theorem ddJ1_indexOfChar_4cfef_10 : decode cJ1_indexOfChar_4cfef 10 = .ok (.if_icmp .ge 21, 3) := by decide +kernel
theorem ddJ1_indexOfChar_4cfef_13 : decode cJ1_indexOfChar_4cfef 13 = .ok (.aload_n 0, 1) := by decide +kernel
theorem ddJ1_indexOfChar_4cfef_14 : decode cJ1_indexOfChar_4cfef 14 = .ok (.iload 5, 2) := by decide +kernel
theorem ddJ1_indexOfChar_4cfef_16 : decode cJ1_indexOfChar_4cfef 16 = .ok (.baload, 1) := by decide +kernel
theorem ddJ1_indexOfChar_4cfef_17 : decode cJ1_indexOfChar_4cfef 17 = .ok (.iload 4, 2) := by decide +kernel
theorem ddJ1_indexOfChar_4cfef_19 : decode cJ1_indexOfChar_4cfef 19 = .ok (.if_icmp .ne 6, 3) := by decide +kernel
theorem ddJ1_indexOfChar_4cfef_22 : decode cJ1_indexOfChar_4cfef 22 = .ok (.iload 5, 2) := by decide +kernel
theorem ddJ1_indexOfChar_4cfef_24 : decode cJ1_indexOfChar_4cfef 24 = .ok (.ireturn, 1) := by decide +kernel
theorem ddJ1_indexOfChar_4cfef_25 : decode cJ1_indexOfChar_4cfef 25 = .ok (.iinc 5 1, 3) := by decide +kernel
theorem ddJ1_indexOfChar_4cfef_28 : decode cJ1_indexOfChar_4cfef 28 = .ok (.goto (-21), 3) := by decide +kernel
theorem ddJ1_indexOfChar_4cfef_31 : decode cJ1_indexOfChar_4cfef 31 = .ok (.iconst (-1), 1) := by decide +kernel
theorem ddJ1_indexOfChar_4cfef_32 : decode cJ1_indexOfChar_4cfef 32 = .ok (.ireturn, 1) := by decide +kernel
def wq_k_J1_indexOfChar_4cfef : List Cond := Cond.code yJ1_indexOfChar_4cfef cJ1_indexOfChar_4cfef 6 (some .int) :: (([] : List Cond))
set_option maxHeartbeats 8000000 in
set_option maxRecDepth 100000 in
theorem k_J1_indexOfChar_4cfef (l : Launch) (D : va_G) (cy : Nat → ClassId) (ad : Nat → Nat) (g : Nat → va_E) {ch : Int32} {lo : Int32} {hi : Int32} (p_lo : zi 0 11 lo) (p_hi : zi 0 11 hi) : cMi l yJ1_indexOfChar_4cfef wq_k_J1_indexOfChar_4cfef { frames := 0, cells := 0, slots := 0, locals := 0 } 0 0 0 0 D cy ad g [.ref (cy (200 + 15)), .int ch, .int lo, .int hi] (fun r nw lu => (zi (-1) 10 r) ∧ (lu = [])) := by
  refine cM_of (Qc := fun A => cQi (fun r nw lu => (zi (-1) 10 r) ∧ (lu = [])) D 0 0 ad g A) (cc := cJ1_indexOfChar_4cfef) (maxL := 6) (ret := (some .int)) (by decide) rfl (Nat.le_of_ble_eq_true rfl) ?_
  intro p e s m below meth c A hC hr hlk hnm hO ls hl
  have hC : CallFix p m c cJ1_indexOfChar_4cfef 6 s [.ref (cy (200 + 15)), .int ch, .int lo, .int hi].toArray wq_k_J1_indexOfChar_4cfef RJ1 := hC
  obtain ⟨hx, hb, hml, hown, hts⟩ := id hC
  have hl : lv_has ls 6 [(0, .ref (cy (200 + 15))), (1, .int ch), (2, .int lo), (3, .int hi)] := hl
  refine lv_iload_n hx hb ddJ1_indexOfChar_4cfef_0 rfl (lv_at hl 1 rfl) ?_
  refine lv_i2b hx hb ddJ1_indexOfChar_4cfef_1 rfl ?_
  refine lv_topi (fun v_1_42 _ => ?_)
  refine lv_istore (lv' := [(4, .int v_1_42), (0, .ref (cy (200 + 15))), (1, .int ch), (2, .int lo), (3, .int hi)]) hx hb ddJ1_indexOfChar_4cfef_2 hl (by decide) rfl (fun ls hl => ?_)
  refine lv_iload_n hx hb ddJ1_indexOfChar_4cfef_4 rfl (lv_at hl 3 rfl) ?_
  refine lv_istore (lv' := [(5, .int lo), (4, .int v_1_42), (0, .ref (cy (200 + 15))), (1, .int ch), (2, .int lo), (3, .int hi)]) hx hb ddJ1_indexOfChar_4cfef_5 hl (by decide) rfl (fun ls hl => ?_)
  have loop_7_83 : ∀ (d_7_84 : Nat) (v_7_69 : Int32), zi 0 11 v_7_69 → (11 + 1 - v_7_69.toInt).toNat < d_7_84 → ∀ (H : Heap) (locs : List Loc), cO D cy A s.heap s 0 ad (cup [] g) H locs → ∀ ls : Array Slot, lv_has ls 6 [(5, .int v_7_69), (4, .int v_1_42), (0, .ref (cy (200 + 15))), (1, .int ch), (2, .int lo), (3, .int hi)] → W p l e { frames := 0, cells := 0, slots := 0, locals := 0 } s m [.ref (cy (200 + 15)), .int ch, .int lo, .int hi].toArray below meth c H locs 0 0 (MQ below (cQi (fun r nw lu => (zi (-1) 10 r) ∧ (lu = [])) D 0 0 ad g A) [.ref (cy (200 + 15)), .int ch, .int lo, .int hi].toArray s 0 0 A) (F0 m 7 ls [])  := by
    intro d_7_84
    induction d_7_84 with
    | zero => intro v_7_69 z_7_70 mu_7_85; exact absurd mu_7_85 (Nat.not_lt_zero _)
    | succ d_7_84 ih_7_86 =>
      intro v_7_69 z_7_70 mu_7_85 H locs hO ls hl
      refine lv_iload hx hb ddJ1_indexOfChar_4cfef_7 (lv_at hl 0 rfl) ?_
      refine lv_iload_n hx hb ddJ1_indexOfChar_4cfef_9 rfl (lv_at hl 5 rfl) ?_
      refine lv_icmp_ge (tgt := 31) hx hb ddJ1_indexOfChar_4cfef_10 (by decide) (fun h_10_87 => ?_) (fun h_10_87 => ?_)
      · have q_10_88 := zr_le h_10_87
        refine lv_iconst (v := (-1)) hx hb ddJ1_indexOfChar_4cfef_31 (by decide) ?_
        exact cg_iret (nw := fun _ => 0) hC hr hlk hO.same rfl (Nat.le_of_ble_eq_true rfl) (Nat.le_of_ble_eq_true rfl) (⟨(zi_k (a := (-1)) (b := 10) (x := (-1)) rfl), rfl⟩) ddJ1_indexOfChar_4cfef_32
      · have q_10_89 := zr_nle h_10_87
        have z_10_90 : zi 0 10 v_7_69 := zu_lt q_10_89 z_7_70 p_hi (by decide)
        have z_10_91 : zi 1 11 hi := zd_lt q_10_89 z_7_70 p_hi (by decide)
        refine lv_aload_n hx hb ddJ1_indexOfChar_4cfef_13 rfl (lv_at hl 2 rfl) ?_
        refine lv_iload hx hb ddJ1_indexOfChar_4cfef_14 (lv_at hl 0 rfl) ?_
        refine sg_bld hC hO 15 (by decide) (zi_in z_10_90 (by decide)) ddJ1_indexOfChar_4cfef_16 (fun v_16_92 => ?_)
        refine lv_iload hx hb ddJ1_indexOfChar_4cfef_17 (lv_at hl 1 rfl) ?_
        refine lv_icmp_ne (tgt := 25) hx hb ddJ1_indexOfChar_4cfef_19 (by decide) (fun h_19_93 => ?_) (fun h_19_93 => ?_)
        · obtain ⟨v_25_94, e_25_95, z_25_96, q_25_97⟩ := zi_inc (e := 1) (f := 11) 1 z_10_90 (by decide)
          refine lv_iinc (v := v_25_94) (lv' := [(5, .int v_25_94), (4, .int v_1_42), (0, .ref (cy (200 + 15))), (1, .int ch), (2, .int lo), (3, .int hi)]) hx hb ddJ1_indexOfChar_4cfef_25 hl (k := 0) rfl e_25_95 (by decide) rfl (fun ls hl => ?_)
          refine lv_goto (tgt := 7) hx hb ddJ1_indexOfChar_4cfef_28 (by decide) ?_
          exact ih_7_86 v_25_94 (zi_w (c := 0) (d := 11) z_25_96 (by decide)) (zm_up q_25_97 ((zi_w (c := 0) (d := 11) z_25_96 (by decide))).2 (by decide) mu_7_85) _ _ hO ls (lv_sub hl [0, 1, 2, 3, 4, 5] rfl)
        · have q_19_98 := zr_eq h_19_93
          refine lv_iload hx hb ddJ1_indexOfChar_4cfef_22 (lv_at hl 0 rfl) ?_
          exact cg_iret (nw := fun _ => 0) hC hr hlk hO.same rfl (Nat.le_of_ble_eq_true rfl) (Nat.le_of_ble_eq_true rfl) (⟨(zi_w (c := (-1)) (d := 10) z_10_90 (by decide)), rfl⟩) ddJ1_indexOfChar_4cfef_24
  exact loop_7_83 ((11 + 1 - (lo : Int32).toInt).toNat + 1) lo p_lo (Nat.lt_succ_self _) _ _ hO ls (lv_sub hl [0, 1, 2, 3, 4, 5] rfl)

theorem ddJ1_indexOf_4cfef_0 : decode cJ1_indexOf_4cfef 0 = .ok (.iload_n 1, 1) := by decide +kernel
theorem ddJ1_indexOf_4cfef_1 : decode cJ1_indexOf_4cfef 1 = .ok (.invokestatic 88, 3) := by decide +kernel
theorem ddJ1_indexOf_4cfef_4 : decode cJ1_indexOf_4cfef 4 = .ok (.ifCond .ne 5, 3) := by decide +kernel
theorem ddJ1_indexOf_4cfef_7 : decode cJ1_indexOf_4cfef 7 = .ok (.iconst (-1), 1) := by decide +kernel
theorem ddJ1_indexOf_4cfef_8 : decode cJ1_indexOf_4cfef 8 = .ok (.ireturn, 1) := by decide +kernel
theorem ddJ1_indexOf_4cfef_9 : decode cJ1_indexOf_4cfef 9 = .ok (.iload_n 2, 1) := by decide +kernel
theorem ddJ1_indexOf_4cfef_10 : decode cJ1_indexOf_4cfef 10 = .ok (.iconst 0, 1) := by decide +kernel
theorem ddJ1_indexOf_4cfef_11 : decode cJ1_indexOf_4cfef 11 = .ok (.invokestatic 92, 3) := by decide +kernel
theorem ddJ1_indexOf_4cfef_14 : decode cJ1_indexOf_4cfef 14 = .ok (.istore_n 2, 1) := by decide +kernel
theorem ddJ1_indexOf_4cfef_15 : decode cJ1_indexOf_4cfef 15 = .ok (.iload_n 3, 1) := by decide +kernel
theorem ddJ1_indexOf_4cfef_16 : decode cJ1_indexOf_4cfef 16 = .ok (.aload_n 0, 1) := by decide +kernel
theorem ddJ1_indexOf_4cfef_17 : decode cJ1_indexOf_4cfef 17 = .ok (.arraylength, 1) := by decide +kernel
theorem ddJ1_indexOf_4cfef_18 : decode cJ1_indexOf_4cfef 18 = .ok (.invokestatic 38, 3) := by decide +kernel
theorem ddJ1_indexOf_4cfef_21 : decode cJ1_indexOf_4cfef 21 = .ok (.istore_n 3, 1) := by decide +kernel
theorem ddJ1_indexOf_4cfef_22 : decode cJ1_indexOf_4cfef 22 = .ok (.iload_n 2, 1) := by decide +kernel
theorem ddJ1_indexOf_4cfef_23 : decode cJ1_indexOf_4cfef 23 = .ok (.iload_n 3, 1) := by decide +kernel
theorem ddJ1_indexOf_4cfef_24 : decode cJ1_indexOf_4cfef 24 = .ok (.if_icmp .lt 5, 3) := by decide +kernel
theorem ddJ1_indexOf_4cfef_29 : decode cJ1_indexOf_4cfef 29 = .ok (.aload_n 0, 1) := by decide +kernel
theorem ddJ1_indexOf_4cfef_30 : decode cJ1_indexOf_4cfef 30 = .ok (.iload_n 1, 1) := by decide +kernel
theorem ddJ1_indexOf_4cfef_31 : decode cJ1_indexOf_4cfef 31 = .ok (.iload_n 2, 1) := by decide +kernel
theorem ddJ1_indexOf_4cfef_32 : decode cJ1_indexOf_4cfef 32 = .ok (.iload_n 3, 1) := by decide +kernel
theorem ddJ1_indexOf_4cfef_33 : decode cJ1_indexOf_4cfef 33 = .ok (.invokestatic 95, 3) := by decide +kernel
theorem ddJ1_indexOf_4cfef_36 : decode cJ1_indexOf_4cfef 36 = .ok (.ireturn, 1) := by decide +kernel
def wq_k_J1_indexOf_4cfef : List Cond := Cond.code yJ1_indexOf_4cfef cJ1_indexOf_4cfef 4 (some .int) :: (([Cond.methodLink RJ1 88 yJ1_canEncode_9a6ad, Cond.static yJ1_canEncode_9a6ad, Cond.initialized RJ1, Cond.code yJ1_canEncode_9a6ad cJ1_canEncode_9a6ad 1 (some .boolean), Cond.methodLink RJ1 92 Lib.Math.max.name, Cond.static Lib.Math.max.name, Cond.initialized "java/lang/Math", Cond.code Lib.Math.max.name Lib.Math.max.code 2 (some .int), Cond.methodLink RJ1 38 Lib.Math.min.name, Cond.static Lib.Math.min.name, Cond.code Lib.Math.min.name Lib.Math.min.code 2 (some .int), Cond.methodLink RJ1 95 yJ1_indexOfChar_4cfef, Cond.static yJ1_indexOfChar_4cfef, Cond.code yJ1_indexOfChar_4cfef cJ1_indexOfChar_4cfef 6 (some .int)] : List Cond))
set_option maxRecDepth 20000 in
theorem gr_k_J1_indexOf_4cfef_k_J1_canEncode_9a6ad : GoodIn wq_k_J1_indexOf_4cfef wq_k_J1_canEncode_9a6ad := List.forall_mem_cons.mpr ⟨⟨(List.mem_of_getElem? (i := 4) rfl), good_of_word rfl⟩, (fun _ h => absurd h List.not_mem_nil)⟩
set_option maxRecDepth 20000 in
theorem gq_k_J1_indexOf_4cfef_k_J1_canEncode_9a6ad_88 : GoodIn wq_k_J1_indexOf_4cfef (va_wsS RJ1 88 yJ1_canEncode_9a6ad wq_k_J1_canEncode_9a6ad) := goodIn_app (List.forall_mem_cons.mpr ⟨⟨(List.mem_of_getElem? (i := 1) rfl), good_of_word rfl⟩, List.forall_mem_cons.mpr ⟨⟨(List.mem_of_getElem? (i := 2) rfl), good_of_word rfl⟩, List.forall_mem_cons.mpr ⟨⟨(List.mem_of_getElem? (i := 3) rfl), good_of_word rfl⟩, (fun _ h => absurd h List.not_mem_nil)⟩⟩⟩) gr_k_J1_indexOf_4cfef_k_J1_canEncode_9a6ad
set_option maxRecDepth 20000 in
theorem gr_k_J1_indexOf_4cfef_k_J1_indexOfChar_4cfef : GoodIn wq_k_J1_indexOf_4cfef wq_k_J1_indexOfChar_4cfef := List.forall_mem_cons.mpr ⟨⟨(List.mem_of_getElem? (i := 14) rfl), good_of_word rfl⟩, (fun _ h => absurd h List.not_mem_nil)⟩
set_option maxRecDepth 20000 in
theorem gq_k_J1_indexOf_4cfef_k_J1_indexOfChar_4cfef_95 : GoodIn wq_k_J1_indexOf_4cfef (va_wsS RJ1 95 yJ1_indexOfChar_4cfef wq_k_J1_indexOfChar_4cfef) := goodIn_app (List.forall_mem_cons.mpr ⟨⟨(List.mem_of_getElem? (i := 12) rfl), good_of_word rfl⟩, List.forall_mem_cons.mpr ⟨⟨(List.mem_of_getElem? (i := 13) rfl), good_of_word rfl⟩, List.forall_mem_cons.mpr ⟨⟨(List.mem_of_getElem? (i := 3) rfl), good_of_word rfl⟩, (fun _ h => absurd h List.not_mem_nil)⟩⟩⟩) gr_k_J1_indexOf_4cfef_k_J1_indexOfChar_4cfef
set_option maxHeartbeats 8000000 in
set_option maxRecDepth 100000 in
theorem k_J1_indexOf_4cfef (l : Launch) (D : va_G) (cy : Nat → ClassId) (ad : Nat → Nat) (g : Nat → va_E) {ch : Int32} {lo : Int32} {hi : Int32} (p_lo : zi 0 0 lo) (p_hi : zi 11 11 hi) : cMi l yJ1_indexOf_4cfef wq_k_J1_indexOf_4cfef { frames := 1, cells := 0, slots := 0, locals := 25 } 0 0 0 0 D cy ad g [.ref (cy (200 + 15)), .int ch, .int lo, .int hi] (fun r nw lu => (zi (-1) 10 r) ∧ (lu = [])) := by
  refine cM_of (Qc := fun A => cQi (fun r nw lu => (zi (-1) 10 r) ∧ (lu = [])) D 0 0 ad g A) (cc := cJ1_indexOf_4cfef) (maxL := 4) (ret := (some .int)) (by decide) rfl (Nat.le_of_ble_eq_true rfl) ?_
  intro p e s m below meth c A hC hr hlk hnm hO ls hl
  have hC : CallFix p m c cJ1_indexOf_4cfef 4 s [.ref (cy (200 + 15)), .int ch, .int lo, .int hi].toArray wq_k_J1_indexOf_4cfef RJ1 := hC
  obtain ⟨hx, hb, hml, hown, hts⟩ := id hC
  have hl : lv_has ls 4 [(0, .ref (cy (200 + 15))), (1, .int ch), (2, .int lo), (3, .int hi)] := hl
  refine lv_iload_n hx hb ddJ1_indexOf_4cfef_0 rfl (lv_at hl 1 rfl) ?_
  refine cg_Si (As := [.int ch]) (rest := []) (mc := 0) (ms := 0) (rm := { frames := 0, cells := 0, slots := 0, locals := 0 }) hC hl.1 hO [] (by decide +kernel) (k_J1_canEncode_9a6ad l D cy _ _ (n := ch) ) gq_k_J1_indexOf_4cfef_k_J1_canEncode_9a6ad_88 rfl rfl rfl 1 (by decide +kernel) ⟨Nat.le_of_ble_eq_true rfl, Nat.le_of_ble_eq_true rfl⟩ rfl rfl (Nat.le_of_ble_eq_true rfl) ddJ1_indexOf_4cfef_1 ⟨Nat.le_of_ble_eq_true rfl, Nat.le_of_ble_eq_true rfl⟩ (fun r_1_21 nw_1_19 l_1_20 H locs hw hO => ?_)
  rcases hw with hw | hw
  · obtain ⟨z_1_22, q_1_23, q_1_24, rfl, rfl⟩ := hw
    have hO : cO D cy A s.heap s 0 ad (cup [] g) _ _ := hO
    have q_1_25 := q_1_23
    have q_1_26 := q_1_24
    refine lv_if_ne (tgt := 9) hx hb ddJ1_indexOf_4cfef_4 (by decide) (fun _ => ?_) (fun h => absurd h (by decide))
    refine lv_iload_n hx hb ddJ1_indexOf_4cfef_9 rfl (lv_at hl 2 rfl) ?_
    refine lv_iconst (v := 0) hx hb ddJ1_indexOf_4cfef_10 (by decide) ?_
    refine cg_max hC hl.1 (List.mem_of_getElem? (i := 5) rfl) (List.mem_of_getElem? (i := 6) rfl) (List.mem_of_getElem? (i := 7) rfl) (List.mem_of_getElem? (i := 8) rfl) (Nat.le_of_ble_eq_true rfl) (Nat.le_of_ble_eq_true rfl) (Nat.le_of_ble_eq_true rfl) (Nat.le_of_ble_eq_true rfl) ddJ1_indexOf_4cfef_11 ?_
    refine zg_top (P := fun v => zi 0 0 v) (zi_max p_lo (zi_k (a := 0) (b := 0) (x := 0) rfl) (by decide)) (fun v_11_27 z_11_28 => ?_)
    refine lv_istore_n (lv' := [(2, .int v_11_27), (0, .ref (cy (200 + 15))), (1, .int ch), (3, .int hi)]) hx hb ddJ1_indexOf_4cfef_14 rfl hl (by decide) rfl (fun ls hl => ?_)
    refine lv_iload_n hx hb ddJ1_indexOf_4cfef_15 rfl (lv_at hl 3 rfl) ?_
    refine lv_aload_n hx hb ddJ1_indexOf_4cfef_16 rfl (lv_at hl 1 rfl) ?_
    refine sg_len hC hO 15 (by decide) (v := 11) rfl ddJ1_indexOf_4cfef_17 ?_
    refine cg_min hC hl.1 (List.mem_of_getElem? (i := 9) rfl) (List.mem_of_getElem? (i := 10) rfl) (List.mem_of_getElem? (i := 7) rfl) (List.mem_of_getElem? (i := 11) rfl) (Nat.le_of_ble_eq_true rfl) (Nat.le_of_ble_eq_true rfl) (Nat.le_of_ble_eq_true rfl) (Nat.le_of_ble_eq_true rfl) ddJ1_indexOf_4cfef_18 ?_
    refine zg_top (P := fun v => zi 11 11 v) (zi_min p_hi (zi_k (a := 11) (b := 11) (x := 11) rfl) (by decide)) (fun v_18_29 z_18_30 => ?_)
    refine lv_istore_n (lv' := [(3, .int v_18_29), (2, .int v_11_27), (0, .ref (cy (200 + 15))), (1, .int ch)]) hx hb ddJ1_indexOf_4cfef_21 rfl hl (by decide) rfl (fun ls hl => ?_)
    refine lv_iload_n hx hb ddJ1_indexOf_4cfef_22 rfl (lv_at hl 1 rfl) ?_
    refine lv_iload_n hx hb ddJ1_indexOf_4cfef_23 rfl (lv_at hl 0 rfl) ?_
    refine lv_icmp_lt (tgt := 29) hx hb ddJ1_indexOf_4cfef_24 (by decide) (fun h_24_31 => ?_) (fun h_24_31 => (zx_le (zr_nlt h_24_31) z_18_30 z_11_28 (by decide)).elim)
    have q_24_32 := zr_lt h_24_31
    refine lv_aload_n hx hb ddJ1_indexOf_4cfef_29 rfl (lv_at hl 2 rfl) ?_
    refine lv_iload_n hx hb ddJ1_indexOf_4cfef_30 rfl (lv_at hl 3 rfl) ?_
    refine lv_iload_n hx hb ddJ1_indexOf_4cfef_31 rfl (lv_at hl 1 rfl) ?_
    refine lv_iload_n hx hb ddJ1_indexOf_4cfef_32 rfl (lv_at hl 0 rfl) ?_
    refine cg_Si (As := [.ref (cy (200 + 15)), .int ch, .int v_11_27, .int v_18_29]) (rest := []) (mc := 0) (ms := 0) (rm := { frames := 0, cells := 0, slots := 0, locals := 0 }) hC hl.1 hO [] (by decide +kernel) (k_J1_indexOfChar_4cfef l D cy _ _ (ch := ch) (lo := v_11_27) (hi := v_18_29) (zi_w (c := 0) (d := 11) z_11_28 (by decide)) (zi_w (c := 0) (d := 11) z_18_30 (by decide))) gq_k_J1_indexOf_4cfef_k_J1_indexOfChar_4cfef_95 rfl rfl rfl 4 (by decide +kernel) ⟨Nat.le_of_ble_eq_true rfl, Nat.le_of_ble_eq_true rfl⟩ rfl rfl (Nat.le_of_ble_eq_true rfl) ddJ1_indexOf_4cfef_33 ⟨Nat.le_of_ble_eq_true rfl, Nat.le_of_ble_eq_true rfl⟩ (fun r_33_35 nw_33_33 l_33_34 H locs hw hO => ?_)
    obtain ⟨z_33_36, rfl⟩ := hw
    have hO : cO D cy A s.heap s 0 ad (cup [] g) _ _ := hO
    exact cg_iret (nw := fun _ => 0) hC hr hlk hO.same rfl (Nat.le_of_ble_eq_true rfl) (Nat.le_of_ble_eq_true rfl) (⟨z_33_36, rfl⟩) ddJ1_indexOf_4cfef_36
  · obtain ⟨rfl, rfl⟩ := hw
    have hO : cO D cy A s.heap s 0 ad (cup [] g) _ _ := hO
    refine lv_if_ne (tgt := 9) hx hb ddJ1_indexOf_4cfef_4 (by decide) (fun h => absurd h (by decide)) (fun _ => ?_)
    refine lv_iconst (v := (-1)) hx hb ddJ1_indexOf_4cfef_7 (by decide) ?_
    exact cg_iret (nw := fun _ => 0) hC hr hlk hO.same rfl (Nat.le_of_ble_eq_true rfl) (Nat.le_of_ble_eq_true rfl) (⟨(zi_k (a := (-1)) (b := 10) (x := (-1)) rfl), rfl⟩) ddJ1_indexOf_4cfef_8

theorem ddJ0_indexOf_7cf53_0 : decode cJ0_indexOf_7cf53 0 = .ok (.aload_n 0, 1) := by decide +kernel
theorem ddJ0_indexOf_7cf53_1 : decode cJ0_indexOf_7cf53 1 = .ok (.invokevirtual 492, 3) := by decide +kernel
theorem ddJ0_indexOf_7cf53_4 : decode cJ0_indexOf_7cf53 4 = .ok (.ifCond .eq 19, 3) := by decide +kernel
theorem ddJ0_indexOf_7cf53_7 : decode cJ0_indexOf_7cf53 7 = .ok (.aload_n 0, 1) := by decide +kernel
theorem ddJ0_indexOf_7cf53_8 : decode cJ0_indexOf_7cf53 8 = .ok (.getfield 9, 3) := by decide +kernel
theorem ddJ0_indexOf_7cf53_11 : decode cJ0_indexOf_7cf53 11 = .ok (.iload_n 1, 1) := by decide +kernel
theorem ddJ0_indexOf_7cf53_12 : decode cJ0_indexOf_7cf53 12 = .ok (.iload_n 2, 1) := by decide +kernel
theorem ddJ0_indexOf_7cf53_13 : decode cJ0_indexOf_7cf53 13 = .ok (.aload_n 0, 1) := by decide +kernel
theorem ddJ0_indexOf_7cf53_14 : decode cJ0_indexOf_7cf53 14 = .ok (.invokevirtual 505, 3) := by decide +kernel
theorem ddJ0_indexOf_7cf53_17 : decode cJ0_indexOf_7cf53 17 = .ok (.invokestatic 637, 3) := by decide +kernel
theorem ddJ0_indexOf_7cf53_20 : decode cJ0_indexOf_7cf53 20 = .ok (.goto 16, 3) := by decide +kernel
theorem ddJ0_indexOf_7cf53_36 : decode cJ0_indexOf_7cf53 36 = .ok (.ireturn, 1) := by decide +kernel
def wq_k_J0_indexOf_7cf53 : List Cond := Cond.code yJ0_indexOf_7cf53 cJ0_indexOf_7cf53 3 (some .int) :: (([Cond.methodLink RJ0 492 yJ0_isLatin1_aae02, Cond.instanceMethod yJ0_isLatin1_aae02, Cond.selects RJ0 yJ0_isLatin1_aae02 yJ0_isLatin1_aae02, Cond.initialized RJ0, Cond.code yJ0_isLatin1_aae02 cJ0_isLatin1_aae02 1 (some .boolean), Cond.fieldLink RJ0 38 "java/lang/String" "COMPACT_STRINGS" "Z", Cond.fieldLink RJ0 15 "java/lang/String" "coder" "B", Cond.fieldLink RJ0 9 "java/lang/String" "value" "[B", Cond.methodLink RJ0 505 yJ0_length_8abf5, Cond.instanceMethod yJ0_length_8abf5, Cond.selects RJ0 yJ0_length_8abf5 yJ0_length_8abf5, Cond.code yJ0_length_8abf5 cJ0_length_8abf5 1 (some .int), Cond.methodLink RJ0 335 yJ0_coder_7d493, Cond.instanceMethod yJ0_coder_7d493, Cond.selects RJ0 yJ0_coder_7d493 yJ0_coder_7d493, Cond.code yJ0_coder_7d493 cJ0_coder_7d493 1 (some .byte), Cond.methodLink RJ0 637 yJ1_indexOf_4cfef, Cond.static yJ1_indexOf_4cfef, Cond.initialized RJ1, Cond.code yJ1_indexOf_4cfef cJ1_indexOf_4cfef 4 (some .int), Cond.methodLink RJ1 88 yJ1_canEncode_9a6ad, Cond.static yJ1_canEncode_9a6ad, Cond.code yJ1_canEncode_9a6ad cJ1_canEncode_9a6ad 1 (some .boolean), Cond.methodLink RJ1 92 Lib.Math.max.name, Cond.static Lib.Math.max.name, Cond.initialized "java/lang/Math", Cond.code Lib.Math.max.name Lib.Math.max.code 2 (some .int), Cond.methodLink RJ1 38 Lib.Math.min.name, Cond.static Lib.Math.min.name, Cond.code Lib.Math.min.name Lib.Math.min.code 2 (some .int), Cond.methodLink RJ1 95 yJ1_indexOfChar_4cfef, Cond.static yJ1_indexOfChar_4cfef, Cond.code yJ1_indexOfChar_4cfef cJ1_indexOfChar_4cfef 6 (some .int)] : List Cond))
set_option maxRecDepth 20000 in
theorem gr_k_J0_indexOf_7cf53_k_isLatin1_15 : GoodIn wq_k_J0_indexOf_7cf53 wq_k_isLatin1_15 := List.forall_mem_cons.mpr ⟨⟨(List.mem_of_getElem? (i := 5) rfl), good_of_word rfl⟩, List.forall_mem_cons.mpr ⟨⟨(List.mem_of_getElem? (i := 6) rfl), good_of_word rfl⟩, List.forall_mem_cons.mpr ⟨⟨(List.mem_of_getElem? (i := 7) rfl), good_of_word rfl⟩, (fun _ h => absurd h List.not_mem_nil)⟩⟩⟩
set_option maxRecDepth 20000 in
theorem gq_k_J0_indexOf_7cf53_k_isLatin1_15_492 : GoodIn wq_k_J0_indexOf_7cf53 (wsV RJ0 492 RJ0 yJ0_isLatin1_aae02 wq_k_isLatin1_15) := goodIn_app (List.forall_mem_cons.mpr ⟨⟨(List.mem_of_getElem? (i := 1) rfl), good_of_word rfl⟩, List.forall_mem_cons.mpr ⟨⟨(List.mem_of_getElem? (i := 2) rfl), good_of_word rfl⟩, List.forall_mem_cons.mpr ⟨⟨(List.mem_of_getElem? (i := 3) rfl), good_of_word rfl⟩, List.forall_mem_cons.mpr ⟨⟨(List.mem_of_getElem? (i := 4) rfl), good_of_word rfl⟩, (fun _ h => absurd h List.not_mem_nil)⟩⟩⟩⟩) gr_k_J0_indexOf_7cf53_k_isLatin1_15
set_option maxRecDepth 20000 in
theorem gr_k_J0_indexOf_7cf53_k_length_15 : GoodIn wq_k_J0_indexOf_7cf53 wq_k_length_15 := List.forall_mem_cons.mpr ⟨⟨(List.mem_of_getElem? (i := 12) rfl), good_of_word rfl⟩, List.forall_mem_cons.mpr ⟨⟨(List.mem_of_getElem? (i := 8) rfl), good_of_word rfl⟩, List.forall_mem_cons.mpr ⟨⟨(List.mem_of_getElem? (i := 13) rfl), good_of_word rfl⟩, List.forall_mem_cons.mpr ⟨⟨(List.mem_of_getElem? (i := 14) rfl), good_of_word rfl⟩, List.forall_mem_cons.mpr ⟨⟨(List.mem_of_getElem? (i := 15) rfl), good_of_word rfl⟩, List.forall_mem_cons.mpr ⟨⟨(List.mem_of_getElem? (i := 4) rfl), good_of_word rfl⟩, List.forall_mem_cons.mpr ⟨⟨(List.mem_of_getElem? (i := 16) rfl), good_of_word rfl⟩, List.forall_mem_cons.mpr ⟨⟨(List.mem_of_getElem? (i := 6) rfl), good_of_word rfl⟩, List.forall_mem_cons.mpr ⟨⟨(List.mem_of_getElem? (i := 7) rfl), good_of_word rfl⟩, (fun _ h => absurd h List.not_mem_nil)⟩⟩⟩⟩⟩⟩⟩⟩⟩
set_option maxRecDepth 20000 in
theorem gq_k_J0_indexOf_7cf53_k_length_15_505 : GoodIn wq_k_J0_indexOf_7cf53 (wsV RJ0 505 RJ0 yJ0_length_8abf5 wq_k_length_15) := goodIn_app (List.forall_mem_cons.mpr ⟨⟨(List.mem_of_getElem? (i := 9) rfl), good_of_word rfl⟩, List.forall_mem_cons.mpr ⟨⟨(List.mem_of_getElem? (i := 10) rfl), good_of_word rfl⟩, List.forall_mem_cons.mpr ⟨⟨(List.mem_of_getElem? (i := 11) rfl), good_of_word rfl⟩, List.forall_mem_cons.mpr ⟨⟨(List.mem_of_getElem? (i := 4) rfl), good_of_word rfl⟩, (fun _ h => absurd h List.not_mem_nil)⟩⟩⟩⟩) gr_k_J0_indexOf_7cf53_k_length_15
set_option maxRecDepth 20000 in
theorem gr_k_J0_indexOf_7cf53_k_J1_indexOf_4cfef : GoodIn wq_k_J0_indexOf_7cf53 wq_k_J1_indexOf_4cfef := List.forall_mem_cons.mpr ⟨⟨(List.mem_of_getElem? (i := 20) rfl), good_of_word rfl⟩, List.forall_mem_cons.mpr ⟨⟨(List.mem_of_getElem? (i := 21) rfl), good_of_word rfl⟩, List.forall_mem_cons.mpr ⟨⟨(List.mem_of_getElem? (i := 22) rfl), good_of_word rfl⟩, List.forall_mem_cons.mpr ⟨⟨(List.mem_of_getElem? (i := 19) rfl), good_of_word rfl⟩, List.forall_mem_cons.mpr ⟨⟨(List.mem_of_getElem? (i := 23) rfl), good_of_word rfl⟩, List.forall_mem_cons.mpr ⟨⟨(List.mem_of_getElem? (i := 24) rfl), good_of_word rfl⟩, List.forall_mem_cons.mpr ⟨⟨(List.mem_of_getElem? (i := 25) rfl), good_of_word rfl⟩, List.forall_mem_cons.mpr ⟨⟨(List.mem_of_getElem? (i := 26) rfl), good_of_word rfl⟩, List.forall_mem_cons.mpr ⟨⟨(List.mem_of_getElem? (i := 27) rfl), good_of_word rfl⟩, List.forall_mem_cons.mpr ⟨⟨(List.mem_of_getElem? (i := 28) rfl), good_of_word rfl⟩, List.forall_mem_cons.mpr ⟨⟨(List.mem_of_getElem? (i := 29) rfl), good_of_word rfl⟩, List.forall_mem_cons.mpr ⟨⟨(List.mem_of_getElem? (i := 30) rfl), good_of_word rfl⟩, List.forall_mem_cons.mpr ⟨⟨(List.mem_of_getElem? (i := 31) rfl), good_of_word rfl⟩, List.forall_mem_cons.mpr ⟨⟨(List.mem_of_getElem? (i := 32) rfl), good_of_word rfl⟩, List.forall_mem_cons.mpr ⟨⟨(List.mem_of_getElem? (i := 33) rfl), good_of_word rfl⟩, (fun _ h => absurd h List.not_mem_nil)⟩⟩⟩⟩⟩⟩⟩⟩⟩⟩⟩⟩⟩⟩⟩
set_option maxRecDepth 20000 in
theorem gq_k_J0_indexOf_7cf53_k_J1_indexOf_4cfef_637 : GoodIn wq_k_J0_indexOf_7cf53 (va_wsS RJ0 637 yJ1_indexOf_4cfef wq_k_J1_indexOf_4cfef) := goodIn_app (List.forall_mem_cons.mpr ⟨⟨(List.mem_of_getElem? (i := 17) rfl), good_of_word rfl⟩, List.forall_mem_cons.mpr ⟨⟨(List.mem_of_getElem? (i := 18) rfl), good_of_word rfl⟩, List.forall_mem_cons.mpr ⟨⟨(List.mem_of_getElem? (i := 19) rfl), good_of_word rfl⟩, (fun _ h => absurd h List.not_mem_nil)⟩⟩⟩) gr_k_J0_indexOf_7cf53_k_J1_indexOf_4cfef
set_option maxHeartbeats 8000000 in
set_option maxRecDepth 100000 in
theorem k_J0_indexOf_7cf53 (l : Launch) (D : va_G) (cy : Nat → ClassId) (ad : Nat → Nat) (g : Nat → va_E) {ch : Int32} {lo : Int32} (p_lo : zi 0 0 lo) : cMi l yJ0_indexOf_7cf53 wq_k_J0_indexOf_7cf53 { frames := 2, cells := 0, slots := 0, locals := 48 } 0 0 0 0 D cy ad g [.ref (cy (100 + 15)), .int ch, .int lo] (fun r nw lu => (zi (-1) 10 r) ∧ (lu = [])) := by
  refine cM_of (Qc := fun A => cQi (fun r nw lu => (zi (-1) 10 r) ∧ (lu = [])) D 0 0 ad g A) (cc := cJ0_indexOf_7cf53) (maxL := 3) (ret := (some .int)) (by decide) rfl (Nat.le_of_ble_eq_true rfl) ?_
  intro p e s m below meth c A hC hr hlk hnm hO ls hl
  have hC : CallFix p m c cJ0_indexOf_7cf53 3 s [.ref (cy (100 + 15)), .int ch, .int lo].toArray wq_k_J0_indexOf_7cf53 RJ0 := hC
  obtain ⟨hx, hb, hml, hown, hts⟩ := id hC
  have hl : lv_has ls 3 [(0, .ref (cy (100 + 15))), (1, .int ch), (2, .int lo)] := hl
  refine lv_aload_n hx hb ddJ0_indexOf_7cf53_0 rfl (lv_at hl 0 rfl) ?_
  refine sg_Vi (As := []) (rest := []) (mc := 0) (ms := 0) (rm := { frames := 0, cells := 0, slots := 0, locals := 0 }) hC hl.1 hO [] (by decide +kernel) 15 (by decide) (k_isLatin1_15 l D cy _ _  ) gq_k_J0_indexOf_7cf53_k_isLatin1_15_492 rfl rfl rfl 0 (by decide +kernel) ⟨Nat.le_of_ble_eq_true rfl, Nat.le_of_ble_eq_true rfl⟩ rfl rfl (Nat.le_of_ble_eq_true rfl) ddJ0_indexOf_7cf53_1 ⟨Nat.le_of_ble_eq_true rfl, Nat.le_of_ble_eq_true rfl⟩ (fun r_1_13 nw_1_11 l_1_12 H locs hw hO => ?_)
  obtain ⟨rfl, rfl⟩ := hw
  have hO : cO D cy A s.heap s 0 ad (cup [] g) _ _ := hO
  refine lv_if_eq (tgt := 23) hx hb ddJ0_indexOf_7cf53_4 (by decide) (fun h => absurd h (by decide)) (fun _ => ?_)
  refine lv_aload_n hx hb ddJ0_indexOf_7cf53_7 rfl (lv_at hl 0 rfl) ?_
  refine sg_val hC hO 15 (by decide) (List.mem_of_getElem? (i := 8) rfl) ddJ0_indexOf_7cf53_8 ?_
  refine lv_iload_n hx hb ddJ0_indexOf_7cf53_11 rfl (lv_at hl 1 rfl) ?_
  refine lv_iload_n hx hb ddJ0_indexOf_7cf53_12 rfl (lv_at hl 2 rfl) ?_
  refine lv_aload_n hx hb ddJ0_indexOf_7cf53_13 rfl (lv_at hl 0 rfl) ?_
  refine sg_Vi (As := []) (rest := [.int lo, .int ch, .ref (cy (200 + 15))]) (mc := 0) (ms := 0) (rm := { frames := 1, cells := 0, slots := 0, locals := 20 }) hC hl.1 hO [] (by decide +kernel) 15 (by decide) (k_length_15 l D cy _ _  ) gq_k_J0_indexOf_7cf53_k_length_15_505 rfl rfl rfl 0 (by decide +kernel) ⟨Nat.le_of_ble_eq_true rfl, Nat.le_of_ble_eq_true rfl⟩ rfl rfl (Nat.le_of_ble_eq_true rfl) ddJ0_indexOf_7cf53_14 ⟨Nat.le_of_ble_eq_true rfl, Nat.le_of_ble_eq_true rfl⟩ (fun r_14_16 nw_14_14 l_14_15 H locs hw hO => ?_)
  obtain ⟨rfl, rfl⟩ := hw
  have hO : cO D cy A s.heap s 0 ad (cup [] g) _ _ := hO
  refine cg_Si (As := [.ref (cy (200 + 15)), .int ch, .int lo, .int 11]) (rest := []) (mc := 0) (ms := 0) (rm := { frames := 1, cells := 0, slots := 0, locals := 25 }) hC hl.1 hO [] (by decide +kernel) (k_J1_indexOf_4cfef l D cy _ _ (ch := ch) (lo := lo) (hi := 11) p_lo (zi_k (a := 11) (b := 11) (x := 11) rfl)) gq_k_J0_indexOf_7cf53_k_J1_indexOf_4cfef_637 rfl rfl rfl 4 (by decide +kernel) ⟨Nat.le_of_ble_eq_true rfl, Nat.le_of_ble_eq_true rfl⟩ rfl rfl (Nat.le_of_ble_eq_true rfl) ddJ0_indexOf_7cf53_17 ⟨Nat.le_of_ble_eq_true rfl, Nat.le_of_ble_eq_true rfl⟩ (fun r_17_19 nw_17_17 l_17_18 H locs hw hO => ?_)
  obtain ⟨z_17_20, rfl⟩ := hw
  have hO : cO D cy A s.heap s 0 ad (cup [] g) _ _ := hO
  refine lv_goto (tgt := 36) hx hb ddJ0_indexOf_7cf53_20 (by decide) ?_
  exact cg_iret (nw := fun _ => 0) hC hr hlk hO.same rfl (Nat.le_of_ble_eq_true rfl) (Nat.le_of_ble_eq_true rfl) (⟨z_17_20, rfl⟩) ddJ0_indexOf_7cf53_36

theorem ddJ0_indexOf_0f7a4_0 : decode cJ0_indexOf_0f7a4 0 = .ok (.aload_n 0, 1) := by decide +kernel
theorem ddJ0_indexOf_0f7a4_1 : decode cJ0_indexOf_0f7a4 1 = .ok (.iload_n 1, 1) := by decide +kernel
theorem ddJ0_indexOf_0f7a4_2 : decode cJ0_indexOf_0f7a4 2 = .ok (.iconst 0, 1) := by decide +kernel
theorem ddJ0_indexOf_0f7a4_3 : decode cJ0_indexOf_0f7a4 3 = .ok (.invokevirtual 633, 3) := by decide +kernel
theorem ddJ0_indexOf_0f7a4_6 : decode cJ0_indexOf_0f7a4 6 = .ok (.ireturn, 1) := by decide +kernel
def wq_k_J0_indexOf_0f7a4 : List Cond := Cond.code yJ0_indexOf_0f7a4 cJ0_indexOf_0f7a4 2 (some .int) :: (([Cond.methodLink RJ0 633 yJ0_indexOf_7cf53, Cond.instanceMethod yJ0_indexOf_7cf53, Cond.selects RJ0 yJ0_indexOf_7cf53 yJ0_indexOf_7cf53, Cond.initialized RJ0, Cond.code yJ0_indexOf_7cf53 cJ0_indexOf_7cf53 3 (some .int), Cond.methodLink RJ0 492 yJ0_isLatin1_aae02, Cond.instanceMethod yJ0_isLatin1_aae02, Cond.selects RJ0 yJ0_isLatin1_aae02 yJ0_isLatin1_aae02, Cond.code yJ0_isLatin1_aae02 cJ0_isLatin1_aae02 1 (some .boolean), Cond.fieldLink RJ0 38 "java/lang/String" "COMPACT_STRINGS" "Z", Cond.fieldLink RJ0 15 "java/lang/String" "coder" "B", Cond.fieldLink RJ0 9 "java/lang/String" "value" "[B", Cond.methodLink RJ0 505 yJ0_length_8abf5, Cond.instanceMethod yJ0_length_8abf5, Cond.selects RJ0 yJ0_length_8abf5 yJ0_length_8abf5, Cond.code yJ0_length_8abf5 cJ0_length_8abf5 1 (some .int), Cond.methodLink RJ0 335 yJ0_coder_7d493, Cond.instanceMethod yJ0_coder_7d493, Cond.selects RJ0 yJ0_coder_7d493 yJ0_coder_7d493, Cond.code yJ0_coder_7d493 cJ0_coder_7d493 1 (some .byte), Cond.methodLink RJ0 637 yJ1_indexOf_4cfef, Cond.static yJ1_indexOf_4cfef, Cond.initialized RJ1, Cond.code yJ1_indexOf_4cfef cJ1_indexOf_4cfef 4 (some .int), Cond.methodLink RJ1 88 yJ1_canEncode_9a6ad, Cond.static yJ1_canEncode_9a6ad, Cond.code yJ1_canEncode_9a6ad cJ1_canEncode_9a6ad 1 (some .boolean), Cond.methodLink RJ1 92 Lib.Math.max.name, Cond.static Lib.Math.max.name, Cond.initialized "java/lang/Math", Cond.code Lib.Math.max.name Lib.Math.max.code 2 (some .int), Cond.methodLink RJ1 38 Lib.Math.min.name, Cond.static Lib.Math.min.name, Cond.code Lib.Math.min.name Lib.Math.min.code 2 (some .int), Cond.methodLink RJ1 95 yJ1_indexOfChar_4cfef, Cond.static yJ1_indexOfChar_4cfef, Cond.code yJ1_indexOfChar_4cfef cJ1_indexOfChar_4cfef 6 (some .int)] : List Cond))
set_option maxRecDepth 20000 in
theorem gr_k_J0_indexOf_0f7a4_k_J0_indexOf_7cf53 : GoodIn wq_k_J0_indexOf_0f7a4 wq_k_J0_indexOf_7cf53 := List.forall_mem_cons.mpr ⟨⟨(List.mem_of_getElem? (i := 5) rfl), good_of_word rfl⟩, List.forall_mem_cons.mpr ⟨⟨(List.mem_of_getElem? (i := 6) rfl), good_of_word rfl⟩, List.forall_mem_cons.mpr ⟨⟨(List.mem_of_getElem? (i := 7) rfl), good_of_word rfl⟩, List.forall_mem_cons.mpr ⟨⟨(List.mem_of_getElem? (i := 8) rfl), good_of_word rfl⟩, List.forall_mem_cons.mpr ⟨⟨(List.mem_of_getElem? (i := 4) rfl), good_of_word rfl⟩, List.forall_mem_cons.mpr ⟨⟨(List.mem_of_getElem? (i := 9) rfl), good_of_word rfl⟩, List.forall_mem_cons.mpr ⟨⟨(List.mem_of_getElem? (i := 10) rfl), good_of_word rfl⟩, List.forall_mem_cons.mpr ⟨⟨(List.mem_of_getElem? (i := 11) rfl), good_of_word rfl⟩, List.forall_mem_cons.mpr ⟨⟨(List.mem_of_getElem? (i := 12) rfl), good_of_word rfl⟩, List.forall_mem_cons.mpr ⟨⟨(List.mem_of_getElem? (i := 13) rfl), good_of_word rfl⟩, List.forall_mem_cons.mpr ⟨⟨(List.mem_of_getElem? (i := 14) rfl), good_of_word rfl⟩, List.forall_mem_cons.mpr ⟨⟨(List.mem_of_getElem? (i := 15) rfl), good_of_word rfl⟩, List.forall_mem_cons.mpr ⟨⟨(List.mem_of_getElem? (i := 16) rfl), good_of_word rfl⟩, List.forall_mem_cons.mpr ⟨⟨(List.mem_of_getElem? (i := 17) rfl), good_of_word rfl⟩, List.forall_mem_cons.mpr ⟨⟨(List.mem_of_getElem? (i := 18) rfl), good_of_word rfl⟩, List.forall_mem_cons.mpr ⟨⟨(List.mem_of_getElem? (i := 19) rfl), good_of_word rfl⟩, List.forall_mem_cons.mpr ⟨⟨(List.mem_of_getElem? (i := 20) rfl), good_of_word rfl⟩, List.forall_mem_cons.mpr ⟨⟨(List.mem_of_getElem? (i := 21) rfl), good_of_word rfl⟩, List.forall_mem_cons.mpr ⟨⟨(List.mem_of_getElem? (i := 22) rfl), good_of_word rfl⟩, List.forall_mem_cons.mpr ⟨⟨(List.mem_of_getElem? (i := 23) rfl), good_of_word rfl⟩, List.forall_mem_cons.mpr ⟨⟨(List.mem_of_getElem? (i := 24) rfl), good_of_word rfl⟩, List.forall_mem_cons.mpr ⟨⟨(List.mem_of_getElem? (i := 25) rfl), good_of_word rfl⟩, List.forall_mem_cons.mpr ⟨⟨(List.mem_of_getElem? (i := 26) rfl), good_of_word rfl⟩, List.forall_mem_cons.mpr ⟨⟨(List.mem_of_getElem? (i := 27) rfl), good_of_word rfl⟩, List.forall_mem_cons.mpr ⟨⟨(List.mem_of_getElem? (i := 28) rfl), good_of_word rfl⟩, List.forall_mem_cons.mpr ⟨⟨(List.mem_of_getElem? (i := 29) rfl), good_of_word rfl⟩, List.forall_mem_cons.mpr ⟨⟨(List.mem_of_getElem? (i := 30) rfl), good_of_word rfl⟩, List.forall_mem_cons.mpr ⟨⟨(List.mem_of_getElem? (i := 31) rfl), good_of_word rfl⟩, List.forall_mem_cons.mpr ⟨⟨(List.mem_of_getElem? (i := 32) rfl), good_of_word rfl⟩, List.forall_mem_cons.mpr ⟨⟨(List.mem_of_getElem? (i := 33) rfl), good_of_word rfl⟩, List.forall_mem_cons.mpr ⟨⟨(List.mem_of_getElem? (i := 34) rfl), good_of_word rfl⟩, List.forall_mem_cons.mpr ⟨⟨(List.mem_of_getElem? (i := 35) rfl), good_of_word rfl⟩, List.forall_mem_cons.mpr ⟨⟨(List.mem_of_getElem? (i := 36) rfl), good_of_word rfl⟩, List.forall_mem_cons.mpr ⟨⟨(List.mem_of_getElem? (i := 37) rfl), good_of_word rfl⟩, (fun _ h => absurd h List.not_mem_nil)⟩⟩⟩⟩⟩⟩⟩⟩⟩⟩⟩⟩⟩⟩⟩⟩⟩⟩⟩⟩⟩⟩⟩⟩⟩⟩⟩⟩⟩⟩⟩⟩⟩⟩
set_option maxRecDepth 20000 in
theorem gq_k_J0_indexOf_0f7a4_k_J0_indexOf_7cf53_633 : GoodIn wq_k_J0_indexOf_0f7a4 (wsV RJ0 633 RJ0 yJ0_indexOf_7cf53 wq_k_J0_indexOf_7cf53) := goodIn_app (List.forall_mem_cons.mpr ⟨⟨(List.mem_of_getElem? (i := 1) rfl), good_of_word rfl⟩, List.forall_mem_cons.mpr ⟨⟨(List.mem_of_getElem? (i := 2) rfl), good_of_word rfl⟩, List.forall_mem_cons.mpr ⟨⟨(List.mem_of_getElem? (i := 3) rfl), good_of_word rfl⟩, List.forall_mem_cons.mpr ⟨⟨(List.mem_of_getElem? (i := 4) rfl), good_of_word rfl⟩, (fun _ h => absurd h List.not_mem_nil)⟩⟩⟩⟩) gr_k_J0_indexOf_0f7a4_k_J0_indexOf_7cf53
set_option maxHeartbeats 8000000 in
set_option maxRecDepth 100000 in
theorem k_J0_indexOf_0f7a4 (l : Launch) (D : va_G) (cy : Nat → ClassId) (ad : Nat → Nat) (g : Nat → va_E) {ch : Int32}  : cMi l yJ0_indexOf_0f7a4 wq_k_J0_indexOf_0f7a4 { frames := 3, cells := 0, slots := 0, locals := 70 } 0 0 0 0 D cy ad g [.ref (cy (100 + 15)), .int ch] (fun r nw lu => (zi (-1) 10 r) ∧ (lu = [])) := by
  refine cM_of (Qc := fun A => cQi (fun r nw lu => (zi (-1) 10 r) ∧ (lu = [])) D 0 0 ad g A) (cc := cJ0_indexOf_0f7a4) (maxL := 2) (ret := (some .int)) (by decide) rfl (Nat.le_of_ble_eq_true rfl) ?_
  intro p e s m below meth c A hC hr hlk hnm hO ls hl
  have hC : CallFix p m c cJ0_indexOf_0f7a4 2 s [.ref (cy (100 + 15)), .int ch].toArray wq_k_J0_indexOf_0f7a4 RJ0 := hC
  obtain ⟨hx, hb, hml, hown, hts⟩ := id hC
  have hl : lv_has ls 2 [(0, .ref (cy (100 + 15))), (1, .int ch)] := hl
  refine lv_aload_n hx hb ddJ0_indexOf_0f7a4_0 rfl (lv_at hl 0 rfl) ?_
  refine lv_iload_n hx hb ddJ0_indexOf_0f7a4_1 rfl (lv_at hl 1 rfl) ?_
  refine lv_iconst (v := 0) hx hb ddJ0_indexOf_0f7a4_2 (by decide) ?_
  refine sg_Vi (As := [.int ch, .int 0]) (rest := []) (mc := 0) (ms := 0) (rm := { frames := 2, cells := 0, slots := 0, locals := 48 }) hC hl.1 hO [] (by decide +kernel) 15 (by decide) (k_J0_indexOf_7cf53 l D cy _ _ (ch := ch) (lo := 0) (zi_k (a := 0) (b := 0) (x := 0) rfl)) gq_k_J0_indexOf_0f7a4_k_J0_indexOf_7cf53_633 rfl rfl rfl 2 (by decide +kernel) ⟨Nat.le_of_ble_eq_true rfl, Nat.le_of_ble_eq_true rfl⟩ rfl rfl (Nat.le_of_ble_eq_true rfl) ddJ0_indexOf_0f7a4_3 ⟨Nat.le_of_ble_eq_true rfl, Nat.le_of_ble_eq_true rfl⟩ (fun r_3_7 nw_3_5 l_3_6 H locs hw hO => ?_)
  obtain ⟨z_3_8, rfl⟩ := hw
  have hO : cO D cy A s.heap s 0 ad (cup [] g) _ _ := hO
  exact cg_iret (nw := fun _ => 0) hC hr hlk hO.same rfl (Nat.le_of_ble_eq_true rfl) (Nat.le_of_ble_eq_true rfl) (⟨z_3_8, rfl⟩) ddJ0_indexOf_0f7a4_6

