theorem ddJ1_charAt_3b067_0 : decode cJ1_charAt_3b067 0 = .ok (.iload_n 1, 1) := by decide +kernel
theorem ddJ1_charAt_3b067_1 : decode cJ1_charAt_3b067 1 = .ok (.aload_n 0, 1) := by decide +kernel
theorem ddJ1_charAt_3b067_2 : decode cJ1_charAt_3b067 2 = .ok (.arraylength, 1) := by decide +kernel
theorem ddJ1_charAt_3b067_3 : decode cJ1_charAt_3b067 3 = .ok (.invokestatic 9, 3) := by decide +kernel
theorem ddJ1_charAt_3b067_6 : decode cJ1_charAt_3b067 6 = .ok (.aload_n 0, 1) := by decide +kernel
theorem ddJ1_charAt_3b067_7 : decode cJ1_charAt_3b067 7 = .ok (.iload_n 1, 1) := by decide +kernel
theorem ddJ1_charAt_3b067_8 : decode cJ1_charAt_3b067 8 = .ok (.baload, 1) := by decide +kernel
theorem ddJ1_charAt_3b067_9 : decode cJ1_charAt_3b067 9 = .ok (.sipush 255, 3) := by decide +kernel
theorem ddJ1_charAt_3b067_12 : decode cJ1_charAt_3b067 12 = .ok (.iand, 1) := by decide +kernel
theorem ddJ1_charAt_3b067_13 : decode cJ1_charAt_3b067 13 = .ok (.i2c, 1) := by decide +kernel
theorem ddJ1_charAt_3b067_14 : decode cJ1_charAt_3b067 14 = .ok (.ireturn, 1) := by decide +kernel
def wq_k_lcharAt_0 : List Cond := Cond.code yJ1_charAt_3b067 cJ1_charAt_3b067 2 (some .char) :: (([Cond.methodLink RJ1 9 yJ0_checkIndex_df160, Cond.static yJ0_checkIndex_df160, Cond.initialized RJ0, Cond.code yJ0_checkIndex_df160 cJ0_checkIndex_df160 2 none, Cond.fieldLink RJ0 1053 "jdk/internal/util/Preconditions" "SIOOBE_FORMATTER" "Ljava/util/function/BiFunction;", Cond.methodLink RJ0 1059 yJ3_checkIndex_8e157, Cond.static yJ3_checkIndex_8e157, Cond.initialized RJ3, Cond.code yJ3_checkIndex_8e157 cJ3_checkIndex_8e157 3 (some .int)] : List Cond))
set_option maxRecDepth 20000 in
theorem gr_k_lcharAt_0_k_checkIndex0_4 : GoodIn wq_k_lcharAt_0 wq_k_checkIndex0_4 := List.forall_mem_cons.mpr ⟨⟨(List.mem_of_getElem? (i := 4) rfl), good_of_word rfl⟩, List.forall_mem_cons.mpr ⟨⟨(List.mem_of_getElem? (i := 5) rfl), good_of_word rfl⟩, List.forall_mem_cons.mpr ⟨⟨(List.mem_of_getElem? (i := 6) rfl), good_of_word rfl⟩, List.forall_mem_cons.mpr ⟨⟨(List.mem_of_getElem? (i := 7) rfl), good_of_word rfl⟩, List.forall_mem_cons.mpr ⟨⟨(List.mem_of_getElem? (i := 8) rfl), good_of_word rfl⟩, List.forall_mem_cons.mpr ⟨⟨(List.mem_of_getElem? (i := 9) rfl), good_of_word rfl⟩, (fun _ h => absurd h List.not_mem_nil)⟩⟩⟩⟩⟩⟩
set_option maxRecDepth 20000 in
theorem gq_k_lcharAt_0_k_checkIndex0_4_9 : GoodIn wq_k_lcharAt_0 (va_wsS RJ1 9 yJ0_checkIndex_df160 wq_k_checkIndex0_4) := goodIn_app (List.forall_mem_cons.mpr ⟨⟨(List.mem_of_getElem? (i := 1) rfl), good_of_word rfl⟩, List.forall_mem_cons.mpr ⟨⟨(List.mem_of_getElem? (i := 2) rfl), good_of_word rfl⟩, List.forall_mem_cons.mpr ⟨⟨(List.mem_of_getElem? (i := 3) rfl), good_of_word rfl⟩, (fun _ h => absurd h List.not_mem_nil)⟩⟩⟩) gr_k_lcharAt_0_k_checkIndex0_4
set_option maxHeartbeats 8000000 in
set_option maxRecDepth 100000 in
theorem k_lcharAt_0 (l : Launch) (D : va_G) (cy : Nat → ClassId) (ad : Nat → Nat) (g : Nat → va_E) {n : Int32} (p_n : zi 0 3 n) : cMi l yJ1_charAt_3b067 wq_k_lcharAt_0 { frames := 2, cells := 0, slots := 0, locals := 43 } 0 0 0 0 D cy ad g [.ref (cy (200 + 0)), .int n] (fun r nw lu => (zi 0 65535 r) ∧ (lu = [])) := by
  refine cM_of (Qc := fun A => cQi (fun r nw lu => (zi 0 65535 r) ∧ (lu = [])) D 0 0 ad g A) (cc := cJ1_charAt_3b067) (maxL := 2) (ret := (some .char)) (by decide) rfl (Nat.le_of_ble_eq_true rfl) ?_
  intro p e s m below meth c A hC hr hlk hnm hO ls hl
  have hC : CallFix p m c cJ1_charAt_3b067 2 s [.ref (cy (200 + 0)), .int n].toArray wq_k_lcharAt_0 RJ1 := hC
  obtain ⟨hx, hb, hml, hown, hts⟩ := id hC
  have hl : lv_has ls 2 [(0, .ref (cy (200 + 0))), (1, .int n)] := hl
  refine lv_iload_n hx hb ddJ1_charAt_3b067_0 rfl (lv_at hl 1 rfl) ?_
  refine lv_aload_n hx hb ddJ1_charAt_3b067_1 rfl (lv_at hl 0 rfl) ?_
  refine sg_len hC hO 0 (by decide) (v := 4) rfl ddJ1_charAt_3b067_2 ?_
  refine cg_Sv (As := [.int n, .int 4]) (rest := []) (mc := 0) (ms := 0) (rm := { frames := 1, cells := 0, slots := 0, locals := 22 }) hC hl.1 hO [] (by decide +kernel) (k_checkIndex0_4 l D cy _ _ (n := n) p_n) gq_k_lcharAt_0_k_checkIndex0_4_9 rfl rfl rfl 2 (by decide +kernel) ⟨Nat.le_of_ble_eq_true rfl, Nat.le_of_ble_eq_true rfl⟩ rfl rfl (Nat.le_of_ble_eq_true rfl) ddJ1_charAt_3b067_3 ⟨Nat.le_of_ble_eq_true rfl, Nat.le_of_ble_eq_true rfl⟩ (fun nw_3_9 l_3_10 H locs hw hO => ?_)
  obtain rfl := hw
  have hO : cO D cy A s.heap s 0 ad (cup [] g) _ _ := hO
  refine lv_aload_n hx hb ddJ1_charAt_3b067_6 rfl (lv_at hl 0 rfl) ?_
  refine lv_iload_n hx hb ddJ1_charAt_3b067_7 rfl (lv_at hl 1 rfl) ?_
  refine sg_bld hC hO 0 (by decide) (zi_in p_n (by decide)) ddJ1_charAt_3b067_8 (fun v_8_12 => ?_)
  refine lv_sipush (v := 255) hx hb ddJ1_charAt_3b067_9 (by decide) ?_
  refine lv_iand hx hb ddJ1_charAt_3b067_12 ?_
  refine zg_top (P := fun v => zi 0 255 v) (zi_and (zi_k (a := 0) (b := 255) (x := 255) rfl)) (fun v_12_13 z_12_14 => ?_)
  refine lv_i2c hx hb ddJ1_charAt_3b067_13 rfl ?_
  refine zg_top (P := fun v => zi 0 65535 v) (zi_i2c _) (fun v_13_15 z_13_16 => ?_)
  exact cg_iret (nw := fun _ => 0) hC hr hlk hO.same (zi_narC z_13_16) (Nat.le_of_ble_eq_true rfl) (Nat.le_of_ble_eq_true rfl) (⟨z_13_16, rfl⟩) ddJ1_charAt_3b067_14

theorem ddJ0_charAt_5068e_0 : decode cJ0_charAt_5068e 0 = .ok (.aload_n 0, 1) := by decide +kernel
theorem ddJ0_charAt_5068e_1 : decode cJ0_charAt_5068e 1 = .ok (.invokevirtual 492, 3) := by decide +kernel
theorem ddJ0_charAt_5068e_4 : decode cJ0_charAt_5068e 4 = .ok (.ifCond .eq 12, 3) := by decide +kernel
theorem ddJ0_charAt_5068e_7 : decode cJ0_charAt_5068e 7 = .ok (.aload_n 0, 1) := by decide +kernel
theorem ddJ0_charAt_5068e_8 : decode cJ0_charAt_5068e 8 = .ok (.getfield 9, 3) := by decide +kernel
theorem ddJ0_charAt_5068e_11 : decode cJ0_charAt_5068e 11 = .ok (.iload_n 1, 1) := by decide +kernel
theorem ddJ0_charAt_5068e_12 : decode cJ0_charAt_5068e 12 = .ok (.invokestatic 495, 3) := by decide +kernel
theorem ddJ0_charAt_5068e_15 : decode cJ0_charAt_5068e 15 = .ok (.ireturn, 1) := by decide +kernel
def wq_k_charAt_0 : List Cond := Cond.code yJ0_charAt_5068e cJ0_charAt_5068e 2 (some .char) :: (([Cond.methodLink RJ0 492 yJ0_isLatin1_aae02, Cond.instanceMethod yJ0_isLatin1_aae02, Cond.selects RJ0 yJ0_isLatin1_aae02 yJ0_isLatin1_aae02, Cond.initialized RJ0, Cond.code yJ0_isLatin1_aae02 cJ0_isLatin1_aae02 1 (some .boolean), Cond.fieldLink RJ0 38 "java/lang/String" "COMPACT_STRINGS" "Z", Cond.fieldLink RJ0 15 "java/lang/String" "coder" "B", Cond.fieldLink RJ0 9 "java/lang/String" "value" "[B", Cond.methodLink RJ0 495 yJ1_charAt_3b067, Cond.static yJ1_charAt_3b067, Cond.initialized RJ1, Cond.code yJ1_charAt_3b067 cJ1_charAt_3b067 2 (some .char), Cond.methodLink RJ1 9 yJ0_checkIndex_df160, Cond.static yJ0_checkIndex_df160, Cond.code yJ0_checkIndex_df160 cJ0_checkIndex_df160 2 none, Cond.fieldLink RJ0 1053 "jdk/internal/util/Preconditions" "SIOOBE_FORMATTER" "Ljava/util/function/BiFunction;", Cond.methodLink RJ0 1059 yJ3_checkIndex_8e157, Cond.static yJ3_checkIndex_8e157, Cond.initialized RJ3, Cond.code yJ3_checkIndex_8e157 cJ3_checkIndex_8e157 3 (some .int)] : List Cond))
set_option maxRecDepth 20000 in
theorem gr_k_charAt_0_k_isLatin1_0 : GoodIn wq_k_charAt_0 wq_k_isLatin1_0 := List.forall_mem_cons.mpr ⟨⟨(List.mem_of_getElem? (i := 5) rfl), good_of_word rfl⟩, List.forall_mem_cons.mpr ⟨⟨(List.mem_of_getElem? (i := 6) rfl), good_of_word rfl⟩, List.forall_mem_cons.mpr ⟨⟨(List.mem_of_getElem? (i := 7) rfl), good_of_word rfl⟩, (fun _ h => absurd h List.not_mem_nil)⟩⟩⟩
set_option maxRecDepth 20000 in
theorem gq_k_charAt_0_k_isLatin1_0_492 : GoodIn wq_k_charAt_0 (wsV RJ0 492 RJ0 yJ0_isLatin1_aae02 wq_k_isLatin1_0) := goodIn_app (List.forall_mem_cons.mpr ⟨⟨(List.mem_of_getElem? (i := 1) rfl), good_of_word rfl⟩, List.forall_mem_cons.mpr ⟨⟨(List.mem_of_getElem? (i := 2) rfl), good_of_word rfl⟩, List.forall_mem_cons.mpr ⟨⟨(List.mem_of_getElem? (i := 3) rfl), good_of_word rfl⟩, List.forall_mem_cons.mpr ⟨⟨(List.mem_of_getElem? (i := 4) rfl), good_of_word rfl⟩, (fun _ h => absurd h List.not_mem_nil)⟩⟩⟩⟩) gr_k_charAt_0_k_isLatin1_0
set_option maxRecDepth 20000 in
theorem gr_k_charAt_0_k_lcharAt_0 : GoodIn wq_k_charAt_0 wq_k_lcharAt_0 := List.forall_mem_cons.mpr ⟨⟨(List.mem_of_getElem? (i := 12) rfl), good_of_word rfl⟩, List.forall_mem_cons.mpr ⟨⟨(List.mem_of_getElem? (i := 13) rfl), good_of_word rfl⟩, List.forall_mem_cons.mpr ⟨⟨(List.mem_of_getElem? (i := 14) rfl), good_of_word rfl⟩, List.forall_mem_cons.mpr ⟨⟨(List.mem_of_getElem? (i := 4) rfl), good_of_word rfl⟩, List.forall_mem_cons.mpr ⟨⟨(List.mem_of_getElem? (i := 15) rfl), good_of_word rfl⟩, List.forall_mem_cons.mpr ⟨⟨(List.mem_of_getElem? (i := 16) rfl), good_of_word rfl⟩, List.forall_mem_cons.mpr ⟨⟨(List.mem_of_getElem? (i := 17) rfl), good_of_word rfl⟩, List.forall_mem_cons.mpr ⟨⟨(List.mem_of_getElem? (i := 18) rfl), good_of_word rfl⟩, List.forall_mem_cons.mpr ⟨⟨(List.mem_of_getElem? (i := 19) rfl), good_of_word rfl⟩, List.forall_mem_cons.mpr ⟨⟨(List.mem_of_getElem? (i := 20) rfl), good_of_word rfl⟩, (fun _ h => absurd h List.not_mem_nil)⟩⟩⟩⟩⟩⟩⟩⟩⟩⟩
set_option maxRecDepth 20000 in
theorem gq_k_charAt_0_k_lcharAt_0_495 : GoodIn wq_k_charAt_0 (va_wsS RJ0 495 yJ1_charAt_3b067 wq_k_lcharAt_0) := goodIn_app (List.forall_mem_cons.mpr ⟨⟨(List.mem_of_getElem? (i := 9) rfl), good_of_word rfl⟩, List.forall_mem_cons.mpr ⟨⟨(List.mem_of_getElem? (i := 10) rfl), good_of_word rfl⟩, List.forall_mem_cons.mpr ⟨⟨(List.mem_of_getElem? (i := 11) rfl), good_of_word rfl⟩, (fun _ h => absurd h List.not_mem_nil)⟩⟩⟩) gr_k_charAt_0_k_lcharAt_0
set_option maxHeartbeats 8000000 in
set_option maxRecDepth 100000 in
theorem k_charAt_0 (l : Launch) (D : va_G) (cy : Nat → ClassId) (ad : Nat → Nat) (g : Nat → va_E) {n : Int32} (p_n : zi 0 3 n) : cMi l yJ0_charAt_5068e wq_k_charAt_0 { frames := 3, cells := 0, slots := 0, locals := 64 } 0 0 0 0 D cy ad g [.ref (cy (100 + 0)), .int n] (fun r nw lu => (zi 0 65535 r) ∧ (lu = [])) := by
  refine cM_of (Qc := fun A => cQi (fun r nw lu => (zi 0 65535 r) ∧ (lu = [])) D 0 0 ad g A) (cc := cJ0_charAt_5068e) (maxL := 2) (ret := (some .char)) (by decide) rfl (Nat.le_of_ble_eq_true rfl) ?_
  intro p e s m below meth c A hC hr hlk hnm hO ls hl
  have hC : CallFix p m c cJ0_charAt_5068e 2 s [.ref (cy (100 + 0)), .int n].toArray wq_k_charAt_0 RJ0 := hC
  obtain ⟨hx, hb, hml, hown, hts⟩ := id hC
  have hl : lv_has ls 2 [(0, .ref (cy (100 + 0))), (1, .int n)] := hl
  refine lv_aload_n hx hb ddJ0_charAt_5068e_0 rfl (lv_at hl 0 rfl) ?_
  refine sg_Vi (As := []) (rest := []) (mc := 0) (ms := 0) (rm := { frames := 0, cells := 0, slots := 0, locals := 0 }) hC hl.1 hO [] (by decide +kernel) 0 (by decide) (k_isLatin1_0 l D cy _ _  ) gq_k_charAt_0_k_isLatin1_0_492 rfl rfl rfl 0 (by decide +kernel) ⟨Nat.le_of_ble_eq_true rfl, Nat.le_of_ble_eq_true rfl⟩ rfl rfl (Nat.le_of_ble_eq_true rfl) ddJ0_charAt_5068e_1 ⟨Nat.le_of_ble_eq_true rfl, Nat.le_of_ble_eq_true rfl⟩ (fun r_1_10 nw_1_8 l_1_9 H locs hw hO => ?_)
  obtain ⟨rfl, rfl⟩ := hw
  have hO : cO D cy A s.heap s 0 ad (cup [] g) _ _ := hO
  refine lv_if_eq (tgt := 16) hx hb ddJ0_charAt_5068e_4 (by decide) (fun h => absurd h (by decide)) (fun _ => ?_)
  refine lv_aload_n hx hb ddJ0_charAt_5068e_7 rfl (lv_at hl 0 rfl) ?_
  refine sg_val hC hO 0 (by decide) (List.mem_of_getElem? (i := 8) rfl) ddJ0_charAt_5068e_8 ?_
  refine lv_iload_n hx hb ddJ0_charAt_5068e_11 rfl (lv_at hl 1 rfl) ?_
  refine cg_Si (As := [.ref (cy (200 + 0)), .int n]) (rest := []) (mc := 0) (ms := 0) (rm := { frames := 2, cells := 0, slots := 0, locals := 43 }) hC hl.1 hO [] (by decide +kernel) (k_lcharAt_0 l D cy _ _ (n := n) p_n) gq_k_charAt_0_k_lcharAt_0_495 rfl rfl rfl 2 (by decide +kernel) ⟨Nat.le_of_ble_eq_true rfl, Nat.le_of_ble_eq_true rfl⟩ rfl rfl (Nat.le_of_ble_eq_true rfl) ddJ0_charAt_5068e_12 ⟨Nat.le_of_ble_eq_true rfl, Nat.le_of_ble_eq_true rfl⟩ (fun r_12_13 nw_12_11 l_12_12 H locs hw hO => ?_)
  obtain ⟨z_12_14, rfl⟩ := hw
  have hO : cO D cy A s.heap s 0 ad (cup [] g) _ _ := hO
  exact cg_iret (nw := fun _ => 0) hC hr hlk hO.same (zi_narC z_12_14) (Nat.le_of_ble_eq_true rfl) (Nat.le_of_ble_eq_true rfl) (⟨z_12_14, rfl⟩) ddJ0_charAt_5068e_15

def wq_k_isLatin1_1 : List Cond := Cond.code yJ0_isLatin1_aae02 cJ0_isLatin1_aae02 1 (some .boolean) :: (([Cond.fieldLink RJ0 38 "java/lang/String" "COMPACT_STRINGS" "Z", Cond.fieldLink RJ0 15 "java/lang/String" "coder" "B"] : List Cond))
set_option maxHeartbeats 8000000 in
set_option maxRecDepth 100000 in
theorem k_isLatin1_1 (l : Launch) (D : va_G) (cy : Nat → ClassId) (ad : Nat → Nat) (g : Nat → va_E)   : cMi l yJ0_isLatin1_aae02 wq_k_isLatin1_1 { frames := 0, cells := 0, slots := 0, locals := 0 } 0 0 0 0 D cy ad g [.ref (cy (100 + 1))] (fun r nw lu => (r = 1) ∧ (lu = [])) := by
  refine cM_of (Qc := fun A => cQi (fun r nw lu => (r = 1) ∧ (lu = [])) D 0 0 ad g A) (cc := cJ0_isLatin1_aae02) (maxL := 1) (ret := (some .boolean)) (by decide) rfl (Nat.le_of_ble_eq_true rfl) ?_
  intro p e s m below meth c A hC hr hlk hnm hO ls hl
  have hC : CallFix p m c cJ0_isLatin1_aae02 1 s [.ref (cy (100 + 1))].toArray wq_k_isLatin1_1 RJ0 := hC
  obtain ⟨hx, hb, hml, hown, hts⟩ := id hC
  have hl : lv_has ls 1 [(0, .ref (cy (100 + 1)))] := hl
  refine sg_com hC hO (List.mem_of_getElem? (i := 1) rfl) ddJ0_isLatin1_aae02_0 ?_
  refine lv_if_eq (tgt := 17) hx hb ddJ0_isLatin1_aae02_3 (by decide) (fun h => absurd h (by decide)) (fun _ => ?_)
  refine lv_aload_n hx hb ddJ0_isLatin1_aae02_6 rfl (lv_at hl 0 rfl) ?_
  refine sg_cod hC hO 1 (by decide) (List.mem_of_getElem? (i := 2) rfl) ddJ0_isLatin1_aae02_7 ?_
  refine lv_if_ne (tgt := 17) hx hb ddJ0_isLatin1_aae02_10 (by decide) (fun h => absurd h (by decide)) (fun _ => ?_)
  refine lv_iconst (v := 1) hx hb ddJ0_isLatin1_aae02_13 (by decide) ?_
  refine lv_goto (tgt := 18) hx hb ddJ0_isLatin1_aae02_14 (by decide) ?_
  exact cg_iret (nw := fun _ => 0) hC hr hlk hO.same rfl (Nat.le_of_ble_eq_true rfl) (Nat.le_of_ble_eq_true rfl) (⟨rfl, rfl⟩) ddJ0_isLatin1_aae02_18

def wq_k_lcharAt_1 : List Cond := Cond.code yJ1_charAt_3b067 cJ1_charAt_3b067 2 (some .char) :: (([Cond.methodLink RJ1 9 yJ0_checkIndex_df160, Cond.static yJ0_checkIndex_df160, Cond.initialized RJ0, Cond.code yJ0_checkIndex_df160 cJ0_checkIndex_df160 2 none, Cond.fieldLink RJ0 1053 "jdk/internal/util/Preconditions" "SIOOBE_FORMATTER" "Ljava/util/function/BiFunction;", Cond.methodLink RJ0 1059 yJ3_checkIndex_8e157, Cond.static yJ3_checkIndex_8e157, Cond.initialized RJ3, Cond.code yJ3_checkIndex_8e157 cJ3_checkIndex_8e157 3 (some .int)] : List Cond))
set_option maxRecDepth 20000 in
theorem gr_k_lcharAt_1_k_checkIndex0_4 : GoodIn wq_k_lcharAt_1 wq_k_checkIndex0_4 := List.forall_mem_cons.mpr ⟨⟨(List.mem_of_getElem? (i := 4) rfl), good_of_word rfl⟩, List.forall_mem_cons.mpr ⟨⟨(List.mem_of_getElem? (i := 5) rfl), good_of_word rfl⟩, List.forall_mem_cons.mpr ⟨⟨(List.mem_of_getElem? (i := 6) rfl), good_of_word rfl⟩, List.forall_mem_cons.mpr ⟨⟨(List.mem_of_getElem? (i := 7) rfl), good_of_word rfl⟩, List.forall_mem_cons.mpr ⟨⟨(List.mem_of_getElem? (i := 8) rfl), good_of_word rfl⟩, List.forall_mem_cons.mpr ⟨⟨(List.mem_of_getElem? (i := 9) rfl), good_of_word rfl⟩, (fun _ h => absurd h List.not_mem_nil)⟩⟩⟩⟩⟩⟩
set_option maxRecDepth 20000 in
theorem gq_k_lcharAt_1_k_checkIndex0_4_9 : GoodIn wq_k_lcharAt_1 (va_wsS RJ1 9 yJ0_checkIndex_df160 wq_k_checkIndex0_4) := goodIn_app (List.forall_mem_cons.mpr ⟨⟨(List.mem_of_getElem? (i := 1) rfl), good_of_word rfl⟩, List.forall_mem_cons.mpr ⟨⟨(List.mem_of_getElem? (i := 2) rfl), good_of_word rfl⟩, List.forall_mem_cons.mpr ⟨⟨(List.mem_of_getElem? (i := 3) rfl), good_of_word rfl⟩, (fun _ h => absurd h List.not_mem_nil)⟩⟩⟩) gr_k_lcharAt_1_k_checkIndex0_4
set_option maxHeartbeats 8000000 in
set_option maxRecDepth 100000 in
theorem k_lcharAt_1 (l : Launch) (D : va_G) (cy : Nat → ClassId) (ad : Nat → Nat) (g : Nat → va_E) {n : Int32} (p_n : zi 0 3 n) : cMi l yJ1_charAt_3b067 wq_k_lcharAt_1 { frames := 2, cells := 0, slots := 0, locals := 43 } 0 0 0 0 D cy ad g [.ref (cy (200 + 1)), .int n] (fun r nw lu => (zi 0 65535 r) ∧ (lu = [])) := by
  refine cM_of (Qc := fun A => cQi (fun r nw lu => (zi 0 65535 r) ∧ (lu = [])) D 0 0 ad g A) (cc := cJ1_charAt_3b067) (maxL := 2) (ret := (some .char)) (by decide) rfl (Nat.le_of_ble_eq_true rfl) ?_
  intro p e s m below meth c A hC hr hlk hnm hO ls hl
  have hC : CallFix p m c cJ1_charAt_3b067 2 s [.ref (cy (200 + 1)), .int n].toArray wq_k_lcharAt_1 RJ1 := hC
  obtain ⟨hx, hb, hml, hown, hts⟩ := id hC
  have hl : lv_has ls 2 [(0, .ref (cy (200 + 1))), (1, .int n)] := hl
  refine lv_iload_n hx hb ddJ1_charAt_3b067_0 rfl (lv_at hl 1 rfl) ?_
  refine lv_aload_n hx hb ddJ1_charAt_3b067_1 rfl (lv_at hl 0 rfl) ?_
  refine sg_len hC hO 1 (by decide) (v := 4) rfl ddJ1_charAt_3b067_2 ?_
  refine cg_Sv (As := [.int n, .int 4]) (rest := []) (mc := 0) (ms := 0) (rm := { frames := 1, cells := 0, slots := 0, locals := 22 }) hC hl.1 hO [] (by decide +kernel) (k_checkIndex0_4 l D cy _ _ (n := n) p_n) gq_k_lcharAt_1_k_checkIndex0_4_9 rfl rfl rfl 2 (by decide +kernel) ⟨Nat.le_of_ble_eq_true rfl, Nat.le_of_ble_eq_true rfl⟩ rfl rfl (Nat.le_of_ble_eq_true rfl) ddJ1_charAt_3b067_3 ⟨Nat.le_of_ble_eq_true rfl, Nat.le_of_ble_eq_true rfl⟩ (fun nw_3_9 l_3_10 H locs hw hO => ?_)
  obtain rfl := hw
  have hO : cO D cy A s.heap s 0 ad (cup [] g) _ _ := hO
  refine lv_aload_n hx hb ddJ1_charAt_3b067_6 rfl (lv_at hl 0 rfl) ?_
  refine lv_iload_n hx hb ddJ1_charAt_3b067_7 rfl (lv_at hl 1 rfl) ?_
  refine sg_bld hC hO 1 (by decide) (zi_in p_n (by decide)) ddJ1_charAt_3b067_8 (fun v_8_12 => ?_)
  refine lv_sipush (v := 255) hx hb ddJ1_charAt_3b067_9 (by decide) ?_
  refine lv_iand hx hb ddJ1_charAt_3b067_12 ?_
  refine zg_top (P := fun v => zi 0 255 v) (zi_and (zi_k (a := 0) (b := 255) (x := 255) rfl)) (fun v_12_13 z_12_14 => ?_)
  refine lv_i2c hx hb ddJ1_charAt_3b067_13 rfl ?_
  refine zg_top (P := fun v => zi 0 65535 v) (zi_i2c _) (fun v_13_15 z_13_16 => ?_)
  exact cg_iret (nw := fun _ => 0) hC hr hlk hO.same (zi_narC z_13_16) (Nat.le_of_ble_eq_true rfl) (Nat.le_of_ble_eq_true rfl) (⟨z_13_16, rfl⟩) ddJ1_charAt_3b067_14

def wq_k_charAt_1 : List Cond := Cond.code yJ0_charAt_5068e cJ0_charAt_5068e 2 (some .char) :: (([Cond.methodLink RJ0 492 yJ0_isLatin1_aae02, Cond.instanceMethod yJ0_isLatin1_aae02, Cond.selects RJ0 yJ0_isLatin1_aae02 yJ0_isLatin1_aae02, Cond.initialized RJ0, Cond.code yJ0_isLatin1_aae02 cJ0_isLatin1_aae02 1 (some .boolean), Cond.fieldLink RJ0 38 "java/lang/String" "COMPACT_STRINGS" "Z", Cond.fieldLink RJ0 15 "java/lang/String" "coder" "B", Cond.fieldLink RJ0 9 "java/lang/String" "value" "[B", Cond.methodLink RJ0 495 yJ1_charAt_3b067, Cond.static yJ1_charAt_3b067, Cond.initialized RJ1, Cond.code yJ1_charAt_3b067 cJ1_charAt_3b067 2 (some .char), Cond.methodLink RJ1 9 yJ0_checkIndex_df160, Cond.static yJ0_checkIndex_df160, Cond.code yJ0_checkIndex_df160 cJ0_checkIndex_df160 2 none, Cond.fieldLink RJ0 1053 "jdk/internal/util/Preconditions" "SIOOBE_FORMATTER" "Ljava/util/function/BiFunction;", Cond.methodLink RJ0 1059 yJ3_checkIndex_8e157, Cond.static yJ3_checkIndex_8e157, Cond.initialized RJ3, Cond.code yJ3_checkIndex_8e157 cJ3_checkIndex_8e157 3 (some .int)] : List Cond))
set_option maxRecDepth 20000 in
theorem gr_k_charAt_1_k_isLatin1_1 : GoodIn wq_k_charAt_1 wq_k_isLatin1_1 := List.forall_mem_cons.mpr ⟨⟨(List.mem_of_getElem? (i := 5) rfl), good_of_word rfl⟩, List.forall_mem_cons.mpr ⟨⟨(List.mem_of_getElem? (i := 6) rfl), good_of_word rfl⟩, List.forall_mem_cons.mpr ⟨⟨(List.mem_of_getElem? (i := 7) rfl), good_of_word rfl⟩, (fun _ h => absurd h List.not_mem_nil)⟩⟩⟩
set_option maxRecDepth 20000 in
theorem gq_k_charAt_1_k_isLatin1_1_492 : GoodIn wq_k_charAt_1 (wsV RJ0 492 RJ0 yJ0_isLatin1_aae02 wq_k_isLatin1_1) := goodIn_app (List.forall_mem_cons.mpr ⟨⟨(List.mem_of_getElem? (i := 1) rfl), good_of_word rfl⟩, List.forall_mem_cons.mpr ⟨⟨(List.mem_of_getElem? (i := 2) rfl), good_of_word rfl⟩, List.forall_mem_cons.mpr ⟨⟨(List.mem_of_getElem? (i := 3) rfl), good_of_word rfl⟩, List.forall_mem_cons.mpr ⟨⟨(List.mem_of_getElem? (i := 4) rfl), good_of_word rfl⟩, (fun _ h => absurd h List.not_mem_nil)⟩⟩⟩⟩) gr_k_charAt_1_k_isLatin1_1
set_option maxRecDepth 20000 in
theorem gr_k_charAt_1_k_lcharAt_1 : GoodIn wq_k_charAt_1 wq_k_lcharAt_1 := List.forall_mem_cons.mpr ⟨⟨(List.mem_of_getElem? (i := 12) rfl), good_of_word rfl⟩, List.forall_mem_cons.mpr ⟨⟨(List.mem_of_getElem? (i := 13) rfl), good_of_word rfl⟩, List.forall_mem_cons.mpr ⟨⟨(List.mem_of_getElem? (i := 14) rfl), good_of_word rfl⟩, List.forall_mem_cons.mpr ⟨⟨(List.mem_of_getElem? (i := 4) rfl), good_of_word rfl⟩, List.forall_mem_cons.mpr ⟨⟨(List.mem_of_getElem? (i := 15) rfl), good_of_word rfl⟩, List.forall_mem_cons.mpr ⟨⟨(List.mem_of_getElem? (i := 16) rfl), good_of_word rfl⟩, List.forall_mem_cons.mpr ⟨⟨(List.mem_of_getElem? (i := 17) rfl), good_of_word rfl⟩, List.forall_mem_cons.mpr ⟨⟨(List.mem_of_getElem? (i := 18) rfl), good_of_word rfl⟩, List.forall_mem_cons.mpr ⟨⟨(List.mem_of_getElem? (i := 19) rfl), good_of_word rfl⟩, List.forall_mem_cons.mpr ⟨⟨(List.mem_of_getElem? (i := 20) rfl), good_of_word rfl⟩, (fun _ h => absurd h List.not_mem_nil)⟩⟩⟩⟩⟩⟩⟩⟩⟩⟩
set_option maxRecDepth 20000 in
theorem gq_k_charAt_1_k_lcharAt_1_495 : GoodIn wq_k_charAt_1 (va_wsS RJ0 495 yJ1_charAt_3b067 wq_k_lcharAt_1) := goodIn_app (List.forall_mem_cons.mpr ⟨⟨(List.mem_of_getElem? (i := 9) rfl), good_of_word rfl⟩, List.forall_mem_cons.mpr ⟨⟨(List.mem_of_getElem? (i := 10) rfl), good_of_word rfl⟩, List.forall_mem_cons.mpr ⟨⟨(List.mem_of_getElem? (i := 11) rfl), good_of_word rfl⟩, (fun _ h => absurd h List.not_mem_nil)⟩⟩⟩) gr_k_charAt_1_k_lcharAt_1
set_option maxHeartbeats 8000000 in
set_option maxRecDepth 100000 in
theorem k_charAt_1 (l : Launch) (D : va_G) (cy : Nat → ClassId) (ad : Nat → Nat) (g : Nat → va_E) {n : Int32} (p_n : zi 0 3 n) : cMi l yJ0_charAt_5068e wq_k_charAt_1 { frames := 3, cells := 0, slots := 0, locals := 64 } 0 0 0 0 D cy ad g [.ref (cy (100 + 1)), .int n] (fun r nw lu => (zi 0 65535 r) ∧ (lu = [])) := by
  refine cM_of (Qc := fun A => cQi (fun r nw lu => (zi 0 65535 r) ∧ (lu = [])) D 0 0 ad g A) (cc := cJ0_charAt_5068e) (maxL := 2) (ret := (some .char)) (by decide) rfl (Nat.le_of_ble_eq_true rfl) ?_
  intro p e s m below meth c A hC hr hlk hnm hO ls hl
  have hC : CallFix p m c cJ0_charAt_5068e 2 s [.ref (cy (100 + 1)), .int n].toArray wq_k_charAt_1 RJ0 := hC
  obtain ⟨hx, hb, hml, hown, hts⟩ := id hC
  have hl : lv_has ls 2 [(0, .ref (cy (100 + 1))), (1, .int n)] := hl
  refine lv_aload_n hx hb ddJ0_charAt_5068e_0 rfl (lv_at hl 0 rfl) ?_
  refine sg_Vi (As := []) (rest := []) (mc := 0) (ms := 0) (rm := { frames := 0, cells := 0, slots := 0, locals := 0 }) hC hl.1 hO [] (by decide +kernel) 1 (by decide) (k_isLatin1_1 l D cy _ _  ) gq_k_charAt_1_k_isLatin1_1_492 rfl rfl rfl 0 (by decide +kernel) ⟨Nat.le_of_ble_eq_true rfl, Nat.le_of_ble_eq_true rfl⟩ rfl rfl (Nat.le_of_ble_eq_true rfl) ddJ0_charAt_5068e_1 ⟨Nat.le_of_ble_eq_true rfl, Nat.le_of_ble_eq_true rfl⟩ (fun r_1_10 nw_1_8 l_1_9 H locs hw hO => ?_)
  obtain ⟨rfl, rfl⟩ := hw
  have hO : cO D cy A s.heap s 0 ad (cup [] g) _ _ := hO
  refine lv_if_eq (tgt := 16) hx hb ddJ0_charAt_5068e_4 (by decide) (fun h => absurd h (by decide)) (fun _ => ?_)
  refine lv_aload_n hx hb ddJ0_charAt_5068e_7 rfl (lv_at hl 0 rfl) ?_
  refine sg_val hC hO 1 (by decide) (List.mem_of_getElem? (i := 8) rfl) ddJ0_charAt_5068e_8 ?_
  refine lv_iload_n hx hb ddJ0_charAt_5068e_11 rfl (lv_at hl 1 rfl) ?_
  refine cg_Si (As := [.ref (cy (200 + 1)), .int n]) (rest := []) (mc := 0) (ms := 0) (rm := { frames := 2, cells := 0, slots := 0, locals := 43 }) hC hl.1 hO [] (by decide +kernel) (k_lcharAt_1 l D cy _ _ (n := n) p_n) gq_k_charAt_1_k_lcharAt_1_495 rfl rfl rfl 2 (by decide +kernel) ⟨Nat.le_of_ble_eq_true rfl, Nat.le_of_ble_eq_true rfl⟩ rfl rfl (Nat.le_of_ble_eq_true rfl) ddJ0_charAt_5068e_12 ⟨Nat.le_of_ble_eq_true rfl, Nat.le_of_ble_eq_true rfl⟩ (fun r_12_13 nw_12_11 l_12_12 H locs hw hO => ?_)
  obtain ⟨z_12_14, rfl⟩ := hw
  have hO : cO D cy A s.heap s 0 ad (cup [] g) _ _ := hO
  exact cg_iret (nw := fun _ => 0) hC hr hlk hO.same (zi_narC z_12_14) (Nat.le_of_ble_eq_true rfl) (Nat.le_of_ble_eq_true rfl) (⟨z_12_14, rfl⟩) ddJ0_charAt_5068e_15

def wq_k_isLatin1_2 : List Cond := Cond.code yJ0_isLatin1_aae02 cJ0_isLatin1_aae02 1 (some .boolean) :: (([Cond.fieldLink RJ0 38 "java/lang/String" "COMPACT_STRINGS" "Z", Cond.fieldLink RJ0 15 "java/lang/String" "coder" "B"] : List Cond))
set_option maxHeartbeats 8000000 in
set_option maxRecDepth 100000 in
theorem k_isLatin1_2 (l : Launch) (D : va_G) (cy : Nat → ClassId) (ad : Nat → Nat) (g : Nat → va_E)   : cMi l yJ0_isLatin1_aae02 wq_k_isLatin1_2 { frames := 0, cells := 0, slots := 0, locals := 0 } 0 0 0 0 D cy ad g [.ref (cy (100 + 2))] (fun r nw lu => (r = 1) ∧ (lu = [])) := by
  refine cM_of (Qc := fun A => cQi (fun r nw lu => (r = 1) ∧ (lu = [])) D 0 0 ad g A) (cc := cJ0_isLatin1_aae02) (maxL := 1) (ret := (some .boolean)) (by decide) rfl (Nat.le_of_ble_eq_true rfl) ?_
  intro p e s m below meth c A hC hr hlk hnm hO ls hl
  have hC : CallFix p m c cJ0_isLatin1_aae02 1 s [.ref (cy (100 + 2))].toArray wq_k_isLatin1_2 RJ0 := hC
  obtain ⟨hx, hb, hml, hown, hts⟩ := id hC
  have hl : lv_has ls 1 [(0, .ref (cy (100 + 2)))] := hl
  refine sg_com hC hO (List.mem_of_getElem? (i := 1) rfl) ddJ0_isLatin1_aae02_0 ?_
  refine lv_if_eq (tgt := 17) hx hb ddJ0_isLatin1_aae02_3 (by decide) (fun h => absurd h (by decide)) (fun _ => ?_)
  refine lv_aload_n hx hb ddJ0_isLatin1_aae02_6 rfl (lv_at hl 0 rfl) ?_
  refine sg_cod hC hO 2 (by decide) (List.mem_of_getElem? (i := 2) rfl) ddJ0_isLatin1_aae02_7 ?_
  refine lv_if_ne (tgt := 17) hx hb ddJ0_isLatin1_aae02_10 (by decide) (fun h => absurd h (by decide)) (fun _ => ?_)
  refine lv_iconst (v := 1) hx hb ddJ0_isLatin1_aae02_13 (by decide) ?_
  refine lv_goto (tgt := 18) hx hb ddJ0_isLatin1_aae02_14 (by decide) ?_
  exact cg_iret (nw := fun _ => 0) hC hr hlk hO.same rfl (Nat.le_of_ble_eq_true rfl) (Nat.le_of_ble_eq_true rfl) (⟨rfl, rfl⟩) ddJ0_isLatin1_aae02_18

def wq_k_lcharAt_2 : List Cond := Cond.code yJ1_charAt_3b067 cJ1_charAt_3b067 2 (some .char) :: (([Cond.methodLink RJ1 9 yJ0_checkIndex_df160, Cond.static yJ0_checkIndex_df160, Cond.initialized RJ0, Cond.code yJ0_checkIndex_df160 cJ0_checkIndex_df160 2 none, Cond.fieldLink RJ0 1053 "jdk/internal/util/Preconditions" "SIOOBE_FORMATTER" "Ljava/util/function/BiFunction;", Cond.methodLink RJ0 1059 yJ3_checkIndex_8e157, Cond.static yJ3_checkIndex_8e157, Cond.initialized RJ3, Cond.code yJ3_checkIndex_8e157 cJ3_checkIndex_8e157 3 (some .int)] : List Cond))
set_option maxRecDepth 20000 in
theorem gr_k_lcharAt_2_k_checkIndex0_4 : GoodIn wq_k_lcharAt_2 wq_k_checkIndex0_4 := List.forall_mem_cons.mpr ⟨⟨(List.mem_of_getElem? (i := 4) rfl), good_of_word rfl⟩, List.forall_mem_cons.mpr ⟨⟨(List.mem_of_getElem? (i := 5) rfl), good_of_word rfl⟩, List.forall_mem_cons.mpr ⟨⟨(List.mem_of_getElem? (i := 6) rfl), good_of_word rfl⟩, List.forall_mem_cons.mpr ⟨⟨(List.mem_of_getElem? (i := 7) rfl), good_of_word rfl⟩, List.forall_mem_cons.mpr ⟨⟨(List.mem_of_getElem? (i := 8) rfl), good_of_word rfl⟩, List.forall_mem_cons.mpr ⟨⟨(List.mem_of_getElem? (i := 9) rfl), good_of_word rfl⟩, (fun _ h => absurd h List.not_mem_nil)⟩⟩⟩⟩⟩⟩
set_option maxRecDepth 20000 in
theorem gq_k_lcharAt_2_k_checkIndex0_4_9 : GoodIn wq_k_lcharAt_2 (va_wsS RJ1 9 yJ0_checkIndex_df160 wq_k_checkIndex0_4) := goodIn_app (List.forall_mem_cons.mpr ⟨⟨(List.mem_of_getElem? (i := 1) rfl), good_of_word rfl⟩, List.forall_mem_cons.mpr ⟨⟨(List.mem_of_getElem? (i := 2) rfl), good_of_word rfl⟩, List.forall_mem_cons.mpr ⟨⟨(List.mem_of_getElem? (i := 3) rfl), good_of_word rfl⟩, (fun _ h => absurd h List.not_mem_nil)⟩⟩⟩) gr_k_lcharAt_2_k_checkIndex0_4
set_option maxHeartbeats 8000000 in
set_option maxRecDepth 100000 in
theorem k_lcharAt_2 (l : Launch) (D : va_G) (cy : Nat → ClassId) (ad : Nat → Nat) (g : Nat → va_E) {n : Int32} (p_n : zi 0 3 n) : cMi l yJ1_charAt_3b067 wq_k_lcharAt_2 { frames := 2, cells := 0, slots := 0, locals := 43 } 0 0 0 0 D cy ad g [.ref (cy (200 + 2)), .int n] (fun r nw lu => (zi 0 65535 r) ∧ (lu = [])) := by
  refine cM_of (Qc := fun A => cQi (fun r nw lu => (zi 0 65535 r) ∧ (lu = [])) D 0 0 ad g A) (cc := cJ1_charAt_3b067) (maxL := 2) (ret := (some .char)) (by decide) rfl (Nat.le_of_ble_eq_true rfl) ?_
  intro p e s m below meth c A hC hr hlk hnm hO ls hl
  have hC : CallFix p m c cJ1_charAt_3b067 2 s [.ref (cy (200 + 2)), .int n].toArray wq_k_lcharAt_2 RJ1 := hC
  obtain ⟨hx, hb, hml, hown, hts⟩ := id hC
  have hl : lv_has ls 2 [(0, .ref (cy (200 + 2))), (1, .int n)] := hl
  refine lv_iload_n hx hb ddJ1_charAt_3b067_0 rfl (lv_at hl 1 rfl) ?_
  refine lv_aload_n hx hb ddJ1_charAt_3b067_1 rfl (lv_at hl 0 rfl) ?_
  refine sg_len hC hO 2 (by decide) (v := 4) rfl ddJ1_charAt_3b067_2 ?_
  refine cg_Sv (As := [.int n, .int 4]) (rest := []) (mc := 0) (ms := 0) (rm := { frames := 1, cells := 0, slots := 0, locals := 22 }) hC hl.1 hO [] (by decide +kernel) (k_checkIndex0_4 l D cy _ _ (n := n) p_n) gq_k_lcharAt_2_k_checkIndex0_4_9 rfl rfl rfl 2 (by decide +kernel) ⟨Nat.le_of_ble_eq_true rfl, Nat.le_of_ble_eq_true rfl⟩ rfl rfl (Nat.le_of_ble_eq_true rfl) ddJ1_charAt_3b067_3 ⟨Nat.le_of_ble_eq_true rfl, Nat.le_of_ble_eq_true rfl⟩ (fun nw_3_9 l_3_10 H locs hw hO => ?_)
  obtain rfl := hw
  have hO : cO D cy A s.heap s 0 ad (cup [] g) _ _ := hO
  refine lv_aload_n hx hb ddJ1_charAt_3b067_6 rfl (lv_at hl 0 rfl) ?_
  refine lv_iload_n hx hb ddJ1_charAt_3b067_7 rfl (lv_at hl 1 rfl) ?_
  refine sg_bld hC hO 2 (by decide) (zi_in p_n (by decide)) ddJ1_charAt_3b067_8 (fun v_8_12 => ?_)
  refine lv_sipush (v := 255) hx hb ddJ1_charAt_3b067_9 (by decide) ?_
  refine lv_iand hx hb ddJ1_charAt_3b067_12 ?_
  refine zg_top (P := fun v => zi 0 255 v) (zi_and (zi_k (a := 0) (b := 255) (x := 255) rfl)) (fun v_12_13 z_12_14 => ?_)
  refine lv_i2c hx hb ddJ1_charAt_3b067_13 rfl ?_
  refine zg_top (P := fun v => zi 0 65535 v) (zi_i2c _) (fun v_13_15 z_13_16 => ?_)
  exact cg_iret (nw := fun _ => 0) hC hr hlk hO.same (zi_narC z_13_16) (Nat.le_of_ble_eq_true rfl) (Nat.le_of_ble_eq_true rfl) (⟨z_13_16, rfl⟩) ddJ1_charAt_3b067_14

def wq_k_charAt_2 : List Cond := Cond.code yJ0_charAt_5068e cJ0_charAt_5068e 2 (some .char) :: (([Cond.methodLink RJ0 492 yJ0_isLatin1_aae02, Cond.instanceMethod yJ0_isLatin1_aae02, Cond.selects RJ0 yJ0_isLatin1_aae02 yJ0_isLatin1_aae02, Cond.initialized RJ0, Cond.code yJ0_isLatin1_aae02 cJ0_isLatin1_aae02 1 (some .boolean), Cond.fieldLink RJ0 38 "java/lang/String" "COMPACT_STRINGS" "Z", Cond.fieldLink RJ0 15 "java/lang/String" "coder" "B", Cond.fieldLink RJ0 9 "java/lang/String" "value" "[B", Cond.methodLink RJ0 495 yJ1_charAt_3b067, Cond.static yJ1_charAt_3b067, Cond.initialized RJ1, Cond.code yJ1_charAt_3b067 cJ1_charAt_3b067 2 (some .char), Cond.methodLink RJ1 9 yJ0_checkIndex_df160, Cond.static yJ0_checkIndex_df160, Cond.code yJ0_checkIndex_df160 cJ0_checkIndex_df160 2 none, Cond.fieldLink RJ0 1053 "jdk/internal/util/Preconditions" "SIOOBE_FORMATTER" "Ljava/util/function/BiFunction;", Cond.methodLink RJ0 1059 yJ3_checkIndex_8e157, Cond.static yJ3_checkIndex_8e157, Cond.initialized RJ3, Cond.code yJ3_checkIndex_8e157 cJ3_checkIndex_8e157 3 (some .int)] : List Cond))
set_option maxRecDepth 20000 in
theorem gr_k_charAt_2_k_isLatin1_2 : GoodIn wq_k_charAt_2 wq_k_isLatin1_2 := List.forall_mem_cons.mpr ⟨⟨(List.mem_of_getElem? (i := 5) rfl), good_of_word rfl⟩, List.forall_mem_cons.mpr ⟨⟨(List.mem_of_getElem? (i := 6) rfl), good_of_word rfl⟩, List.forall_mem_cons.mpr ⟨⟨(List.mem_of_getElem? (i := 7) rfl), good_of_word rfl⟩, (fun _ h => absurd h List.not_mem_nil)⟩⟩⟩
set_option maxRecDepth 20000 in
theorem gq_k_charAt_2_k_isLatin1_2_492 : GoodIn wq_k_charAt_2 (wsV RJ0 492 RJ0 yJ0_isLatin1_aae02 wq_k_isLatin1_2) := goodIn_app (List.forall_mem_cons.mpr ⟨⟨(List.mem_of_getElem? (i := 1) rfl), good_of_word rfl⟩, List.forall_mem_cons.mpr ⟨⟨(List.mem_of_getElem? (i := 2) rfl), good_of_word rfl⟩, List.forall_mem_cons.mpr ⟨⟨(List.mem_of_getElem? (i := 3) rfl), good_of_word rfl⟩, List.forall_mem_cons.mpr ⟨⟨(List.mem_of_getElem? (i := 4) rfl), good_of_word rfl⟩, (fun _ h => absurd h List.not_mem_nil)⟩⟩⟩⟩) gr_k_charAt_2_k_isLatin1_2
set_option maxRecDepth 20000 in
theorem gr_k_charAt_2_k_lcharAt_2 : GoodIn wq_k_charAt_2 wq_k_lcharAt_2 := List.forall_mem_cons.mpr ⟨⟨(List.mem_of_getElem? (i := 12) rfl), good_of_word rfl⟩, List.forall_mem_cons.mpr ⟨⟨(List.mem_of_getElem? (i := 13) rfl), good_of_word rfl⟩, List.forall_mem_cons.mpr ⟨⟨(List.mem_of_getElem? (i := 14) rfl), good_of_word rfl⟩, List.forall_mem_cons.mpr ⟨⟨(List.mem_of_getElem? (i := 4) rfl), good_of_word rfl⟩, List.forall_mem_cons.mpr ⟨⟨(List.mem_of_getElem? (i := 15) rfl), good_of_word rfl⟩, List.forall_mem_cons.mpr ⟨⟨(List.mem_of_getElem? (i := 16) rfl), good_of_word rfl⟩, List.forall_mem_cons.mpr ⟨⟨(List.mem_of_getElem? (i := 17) rfl), good_of_word rfl⟩, List.forall_mem_cons.mpr ⟨⟨(List.mem_of_getElem? (i := 18) rfl), good_of_word rfl⟩, List.forall_mem_cons.mpr ⟨⟨(List.mem_of_getElem? (i := 19) rfl), good_of_word rfl⟩, List.forall_mem_cons.mpr ⟨⟨(List.mem_of_getElem? (i := 20) rfl), good_of_word rfl⟩, (fun _ h => absurd h List.not_mem_nil)⟩⟩⟩⟩⟩⟩⟩⟩⟩⟩
set_option maxRecDepth 20000 in
theorem gq_k_charAt_2_k_lcharAt_2_495 : GoodIn wq_k_charAt_2 (va_wsS RJ0 495 yJ1_charAt_3b067 wq_k_lcharAt_2) := goodIn_app (List.forall_mem_cons.mpr ⟨⟨(List.mem_of_getElem? (i := 9) rfl), good_of_word rfl⟩, List.forall_mem_cons.mpr ⟨⟨(List.mem_of_getElem? (i := 10) rfl), good_of_word rfl⟩, List.forall_mem_cons.mpr ⟨⟨(List.mem_of_getElem? (i := 11) rfl), good_of_word rfl⟩, (fun _ h => absurd h List.not_mem_nil)⟩⟩⟩) gr_k_charAt_2_k_lcharAt_2
set_option maxHeartbeats 8000000 in
set_option maxRecDepth 100000 in
theorem k_charAt_2 (l : Launch) (D : va_G) (cy : Nat → ClassId) (ad : Nat → Nat) (g : Nat → va_E) {n : Int32} (p_n : zi 0 3 n) : cMi l yJ0_charAt_5068e wq_k_charAt_2 { frames := 3, cells := 0, slots := 0, locals := 64 } 0 0 0 0 D cy ad g [.ref (cy (100 + 2)), .int n] (fun r nw lu => (zi 0 65535 r) ∧ (lu = [])) := by
  refine cM_of (Qc := fun A => cQi (fun r nw lu => (zi 0 65535 r) ∧ (lu = [])) D 0 0 ad g A) (cc := cJ0_charAt_5068e) (maxL := 2) (ret := (some .char)) (by decide) rfl (Nat.le_of_ble_eq_true rfl) ?_
  intro p e s m below meth c A hC hr hlk hnm hO ls hl
  have hC : CallFix p m c cJ0_charAt_5068e 2 s [.ref (cy (100 + 2)), .int n].toArray wq_k_charAt_2 RJ0 := hC
  obtain ⟨hx, hb, hml, hown, hts⟩ := id hC
  have hl : lv_has ls 2 [(0, .ref (cy (100 + 2))), (1, .int n)] := hl
  refine lv_aload_n hx hb ddJ0_charAt_5068e_0 rfl (lv_at hl 0 rfl) ?_
  refine sg_Vi (As := []) (rest := []) (mc := 0) (ms := 0) (rm := { frames := 0, cells := 0, slots := 0, locals := 0 }) hC hl.1 hO [] (by decide +kernel) 2 (by decide) (k_isLatin1_2 l D cy _ _  ) gq_k_charAt_2_k_isLatin1_2_492 rfl rfl rfl 0 (by decide +kernel) ⟨Nat.le_of_ble_eq_true rfl, Nat.le_of_ble_eq_true rfl⟩ rfl rfl (Nat.le_of_ble_eq_true rfl) ddJ0_charAt_5068e_1 ⟨Nat.le_of_ble_eq_true rfl, Nat.le_of_ble_eq_true rfl⟩ (fun r_1_10 nw_1_8 l_1_9 H locs hw hO => ?_)
  obtain ⟨rfl, rfl⟩ := hw
  have hO : cO D cy A s.heap s 0 ad (cup [] g) _ _ := hO
  refine lv_if_eq (tgt := 16) hx hb ddJ0_charAt_5068e_4 (by decide) (fun h => absurd h (by decide)) (fun _ => ?_)
  refine lv_aload_n hx hb ddJ0_charAt_5068e_7 rfl (lv_at hl 0 rfl) ?_
  refine sg_val hC hO 2 (by decide) (List.mem_of_getElem? (i := 8) rfl) ddJ0_charAt_5068e_8 ?_
  refine lv_iload_n hx hb ddJ0_charAt_5068e_11 rfl (lv_at hl 1 rfl) ?_
  refine cg_Si (As := [.ref (cy (200 + 2)), .int n]) (rest := []) (mc := 0) (ms := 0) (rm := { frames := 2, cells := 0, slots := 0, locals := 43 }) hC hl.1 hO [] (by decide +kernel) (k_lcharAt_2 l D cy _ _ (n := n) p_n) gq_k_charAt_2_k_lcharAt_2_495 rfl rfl rfl 2 (by decide +kernel) ⟨Nat.le_of_ble_eq_true rfl, Nat.le_of_ble_eq_true rfl⟩ rfl rfl (Nat.le_of_ble_eq_true rfl) ddJ0_charAt_5068e_12 ⟨Nat.le_of_ble_eq_true rfl, Nat.le_of_ble_eq_true rfl⟩ (fun r_12_13 nw_12_11 l_12_12 H locs hw hO => ?_)
  obtain ⟨z_12_14, rfl⟩ := hw
  have hO : cO D cy A s.heap s 0 ad (cup [] g) _ _ := hO
  exact cg_iret (nw := fun _ => 0) hC hr hlk hO.same (zi_narC z_12_14) (Nat.le_of_ble_eq_true rfl) (Nat.le_of_ble_eq_true rfl) (⟨z_12_14, rfl⟩) ddJ0_charAt_5068e_15

def wq_k_isLatin1_3 : List Cond := Cond.code yJ0_isLatin1_aae02 cJ0_isLatin1_aae02 1 (some .boolean) :: (([Cond.fieldLink RJ0 38 "java/lang/String" "COMPACT_STRINGS" "Z", Cond.fieldLink RJ0 15 "java/lang/String" "coder" "B"] : List Cond))
set_option maxHeartbeats 8000000 in
set_option maxRecDepth 100000 in
theorem k_isLatin1_3 (l : Launch) (D : va_G) (cy : Nat → ClassId) (ad : Nat → Nat) (g : Nat → va_E)   : cMi l yJ0_isLatin1_aae02 wq_k_isLatin1_3 { frames := 0, cells := 0, slots := 0, locals := 0 } 0 0 0 0 D cy ad g [.ref (cy (100 + 3))] (fun r nw lu => (r = 1) ∧ (lu = [])) := by
  refine cM_of (Qc := fun A => cQi (fun r nw lu => (r = 1) ∧ (lu = [])) D 0 0 ad g A) (cc := cJ0_isLatin1_aae02) (maxL := 1) (ret := (some .boolean)) (by decide) rfl (Nat.le_of_ble_eq_true rfl) ?_
  intro p e s m below meth c A hC hr hlk hnm hO ls hl
  have hC : CallFix p m c cJ0_isLatin1_aae02 1 s [.ref (cy (100 + 3))].toArray wq_k_isLatin1_3 RJ0 := hC
  obtain ⟨hx, hb, hml, hown, hts⟩ := id hC
  have hl : lv_has ls 1 [(0, .ref (cy (100 + 3)))] := hl
  refine sg_com hC hO (List.mem_of_getElem? (i := 1) rfl) ddJ0_isLatin1_aae02_0 ?_
  refine lv_if_eq (tgt := 17) hx hb ddJ0_isLatin1_aae02_3 (by decide) (fun h => absurd h (by decide)) (fun _ => ?_)
  refine lv_aload_n hx hb ddJ0_isLatin1_aae02_6 rfl (lv_at hl 0 rfl) ?_
  refine sg_cod hC hO 3 (by decide) (List.mem_of_getElem? (i := 2) rfl) ddJ0_isLatin1_aae02_7 ?_
  refine lv_if_ne (tgt := 17) hx hb ddJ0_isLatin1_aae02_10 (by decide) (fun h => absurd h (by decide)) (fun _ => ?_)
  refine lv_iconst (v := 1) hx hb ddJ0_isLatin1_aae02_13 (by decide) ?_
  refine lv_goto (tgt := 18) hx hb ddJ0_isLatin1_aae02_14 (by decide) ?_
  exact cg_iret (nw := fun _ => 0) hC hr hlk hO.same rfl (Nat.le_of_ble_eq_true rfl) (Nat.le_of_ble_eq_true rfl) (⟨rfl, rfl⟩) ddJ0_isLatin1_aae02_18

def wq_k_lcharAt_3 : List Cond := Cond.code yJ1_charAt_3b067 cJ1_charAt_3b067 2 (some .char) :: (([Cond.methodLink RJ1 9 yJ0_checkIndex_df160, Cond.static yJ0_checkIndex_df160, Cond.initialized RJ0, Cond.code yJ0_checkIndex_df160 cJ0_checkIndex_df160 2 none, Cond.fieldLink RJ0 1053 "jdk/internal/util/Preconditions" "SIOOBE_FORMATTER" "Ljava/util/function/BiFunction;", Cond.methodLink RJ0 1059 yJ3_checkIndex_8e157, Cond.static yJ3_checkIndex_8e157, Cond.initialized RJ3, Cond.code yJ3_checkIndex_8e157 cJ3_checkIndex_8e157 3 (some .int)] : List Cond))
set_option maxRecDepth 20000 in
theorem gr_k_lcharAt_3_k_checkIndex0_3 : GoodIn wq_k_lcharAt_3 wq_k_checkIndex0_3 := List.forall_mem_cons.mpr ⟨⟨(List.mem_of_getElem? (i := 4) rfl), good_of_word rfl⟩, List.forall_mem_cons.mpr ⟨⟨(List.mem_of_getElem? (i := 5) rfl), good_of_word rfl⟩, List.forall_mem_cons.mpr ⟨⟨(List.mem_of_getElem? (i := 6) rfl), good_of_word rfl⟩, List.forall_mem_cons.mpr ⟨⟨(List.mem_of_getElem? (i := 7) rfl), good_of_word rfl⟩, List.forall_mem_cons.mpr ⟨⟨(List.mem_of_getElem? (i := 8) rfl), good_of_word rfl⟩, List.forall_mem_cons.mpr ⟨⟨(List.mem_of_getElem? (i := 9) rfl), good_of_word rfl⟩, (fun _ h => absurd h List.not_mem_nil)⟩⟩⟩⟩⟩⟩
set_option maxRecDepth 20000 in
theorem gq_k_lcharAt_3_k_checkIndex0_3_9 : GoodIn wq_k_lcharAt_3 (va_wsS RJ1 9 yJ0_checkIndex_df160 wq_k_checkIndex0_3) := goodIn_app (List.forall_mem_cons.mpr ⟨⟨(List.mem_of_getElem? (i := 1) rfl), good_of_word rfl⟩, List.forall_mem_cons.mpr ⟨⟨(List.mem_of_getElem? (i := 2) rfl), good_of_word rfl⟩, List.forall_mem_cons.mpr ⟨⟨(List.mem_of_getElem? (i := 3) rfl), good_of_word rfl⟩, (fun _ h => absurd h List.not_mem_nil)⟩⟩⟩) gr_k_lcharAt_3_k_checkIndex0_3
set_option maxHeartbeats 8000000 in
set_option maxRecDepth 100000 in
theorem k_lcharAt_3 (l : Launch) (D : va_G) (cy : Nat → ClassId) (ad : Nat → Nat) (g : Nat → va_E) {n : Int32} (p_n : zi 0 2 n) : cMi l yJ1_charAt_3b067 wq_k_lcharAt_3 { frames := 2, cells := 0, slots := 0, locals := 43 } 0 0 0 0 D cy ad g [.ref (cy (200 + 3)), .int n] (fun r nw lu => (zi 0 65535 r) ∧ (lu = [])) := by
  refine cM_of (Qc := fun A => cQi (fun r nw lu => (zi 0 65535 r) ∧ (lu = [])) D 0 0 ad g A) (cc := cJ1_charAt_3b067) (maxL := 2) (ret := (some .char)) (by decide) rfl (Nat.le_of_ble_eq_true rfl) ?_
  intro p e s m below meth c A hC hr hlk hnm hO ls hl
  have hC : CallFix p m c cJ1_charAt_3b067 2 s [.ref (cy (200 + 3)), .int n].toArray wq_k_lcharAt_3 RJ1 := hC
  obtain ⟨hx, hb, hml, hown, hts⟩ := id hC
  have hl : lv_has ls 2 [(0, .ref (cy (200 + 3))), (1, .int n)] := hl
  refine lv_iload_n hx hb ddJ1_charAt_3b067_0 rfl (lv_at hl 1 rfl) ?_
  refine lv_aload_n hx hb ddJ1_charAt_3b067_1 rfl (lv_at hl 0 rfl) ?_
  refine sg_len hC hO 3 (by decide) (v := 3) rfl ddJ1_charAt_3b067_2 ?_
  refine cg_Sv (As := [.int n, .int 3]) (rest := []) (mc := 0) (ms := 0) (rm := { frames := 1, cells := 0, slots := 0, locals := 22 }) hC hl.1 hO [] (by decide +kernel) (k_checkIndex0_3 l D cy _ _ (n := n) p_n) gq_k_lcharAt_3_k_checkIndex0_3_9 rfl rfl rfl 2 (by decide +kernel) ⟨Nat.le_of_ble_eq_true rfl, Nat.le_of_ble_eq_true rfl⟩ rfl rfl (Nat.le_of_ble_eq_true rfl) ddJ1_charAt_3b067_3 ⟨Nat.le_of_ble_eq_true rfl, Nat.le_of_ble_eq_true rfl⟩ (fun nw_3_9 l_3_10 H locs hw hO => ?_)
  obtain rfl := hw
  have hO : cO D cy A s.heap s 0 ad (cup [] g) _ _ := hO
  refine lv_aload_n hx hb ddJ1_charAt_3b067_6 rfl (lv_at hl 0 rfl) ?_
  refine lv_iload_n hx hb ddJ1_charAt_3b067_7 rfl (lv_at hl 1 rfl) ?_
  refine sg_bld hC hO 3 (by decide) (zi_in p_n (by decide)) ddJ1_charAt_3b067_8 (fun v_8_12 => ?_)
  refine lv_sipush (v := 255) hx hb ddJ1_charAt_3b067_9 (by decide) ?_
  refine lv_iand hx hb ddJ1_charAt_3b067_12 ?_
  refine zg_top (P := fun v => zi 0 255 v) (zi_and (zi_k (a := 0) (b := 255) (x := 255) rfl)) (fun v_12_13 z_12_14 => ?_)
  refine lv_i2c hx hb ddJ1_charAt_3b067_13 rfl ?_
  refine zg_top (P := fun v => zi 0 65535 v) (zi_i2c _) (fun v_13_15 z_13_16 => ?_)
  exact cg_iret (nw := fun _ => 0) hC hr hlk hO.same (zi_narC z_13_16) (Nat.le_of_ble_eq_true rfl) (Nat.le_of_ble_eq_true rfl) (⟨z_13_16, rfl⟩) ddJ1_charAt_3b067_14

def wq_k_charAt_3 : List Cond := Cond.code yJ0_charAt_5068e cJ0_charAt_5068e 2 (some .char) :: (([Cond.methodLink RJ0 492 yJ0_isLatin1_aae02, Cond.instanceMethod yJ0_isLatin1_aae02, Cond.selects RJ0 yJ0_isLatin1_aae02 yJ0_isLatin1_aae02, Cond.initialized RJ0, Cond.code yJ0_isLatin1_aae02 cJ0_isLatin1_aae02 1 (some .boolean), Cond.fieldLink RJ0 38 "java/lang/String" "COMPACT_STRINGS" "Z", Cond.fieldLink RJ0 15 "java/lang/String" "coder" "B", Cond.fieldLink RJ0 9 "java/lang/String" "value" "[B", Cond.methodLink RJ0 495 yJ1_charAt_3b067, Cond.static yJ1_charAt_3b067, Cond.initialized RJ1, Cond.code yJ1_charAt_3b067 cJ1_charAt_3b067 2 (some .char), Cond.methodLink RJ1 9 yJ0_checkIndex_df160, Cond.static yJ0_checkIndex_df160, Cond.code yJ0_checkIndex_df160 cJ0_checkIndex_df160 2 none, Cond.fieldLink RJ0 1053 "jdk/internal/util/Preconditions" "SIOOBE_FORMATTER" "Ljava/util/function/BiFunction;", Cond.methodLink RJ0 1059 yJ3_checkIndex_8e157, Cond.static yJ3_checkIndex_8e157, Cond.initialized RJ3, Cond.code yJ3_checkIndex_8e157 cJ3_checkIndex_8e157 3 (some .int)] : List Cond))
set_option maxRecDepth 20000 in
theorem gr_k_charAt_3_k_isLatin1_3 : GoodIn wq_k_charAt_3 wq_k_isLatin1_3 := List.forall_mem_cons.mpr ⟨⟨(List.mem_of_getElem? (i := 5) rfl), good_of_word rfl⟩, List.forall_mem_cons.mpr ⟨⟨(List.mem_of_getElem? (i := 6) rfl), good_of_word rfl⟩, List.forall_mem_cons.mpr ⟨⟨(List.mem_of_getElem? (i := 7) rfl), good_of_word rfl⟩, (fun _ h => absurd h List.not_mem_nil)⟩⟩⟩
set_option maxRecDepth 20000 in
theorem gq_k_charAt_3_k_isLatin1_3_492 : GoodIn wq_k_charAt_3 (wsV RJ0 492 RJ0 yJ0_isLatin1_aae02 wq_k_isLatin1_3) := goodIn_app (List.forall_mem_cons.mpr ⟨⟨(List.mem_of_getElem? (i := 1) rfl), good_of_word rfl⟩, List.forall_mem_cons.mpr ⟨⟨(List.mem_of_getElem? (i := 2) rfl), good_of_word rfl⟩, List.forall_mem_cons.mpr ⟨⟨(List.mem_of_getElem? (i := 3) rfl), good_of_word rfl⟩, List.forall_mem_cons.mpr ⟨⟨(List.mem_of_getElem? (i := 4) rfl), good_of_word rfl⟩, (fun _ h => absurd h List.not_mem_nil)⟩⟩⟩⟩) gr_k_charAt_3_k_isLatin1_3
set_option maxRecDepth 20000 in
theorem gr_k_charAt_3_k_lcharAt_3 : GoodIn wq_k_charAt_3 wq_k_lcharAt_3 := List.forall_mem_cons.mpr ⟨⟨(List.mem_of_getElem? (i := 12) rfl), good_of_word rfl⟩, List.forall_mem_cons.mpr ⟨⟨(List.mem_of_getElem? (i := 13) rfl), good_of_word rfl⟩, List.forall_mem_cons.mpr ⟨⟨(List.mem_of_getElem? (i := 14) rfl), good_of_word rfl⟩, List.forall_mem_cons.mpr ⟨⟨(List.mem_of_getElem? (i := 4) rfl), good_of_word rfl⟩, List.forall_mem_cons.mpr ⟨⟨(List.mem_of_getElem? (i := 15) rfl), good_of_word rfl⟩, List.forall_mem_cons.mpr ⟨⟨(List.mem_of_getElem? (i := 16) rfl), good_of_word rfl⟩, List.forall_mem_cons.mpr ⟨⟨(List.mem_of_getElem? (i := 17) rfl), good_of_word rfl⟩, List.forall_mem_cons.mpr ⟨⟨(List.mem_of_getElem? (i := 18) rfl), good_of_word rfl⟩, List.forall_mem_cons.mpr ⟨⟨(List.mem_of_getElem? (i := 19) rfl), good_of_word rfl⟩, List.forall_mem_cons.mpr ⟨⟨(List.mem_of_getElem? (i := 20) rfl), good_of_word rfl⟩, (fun _ h => absurd h List.not_mem_nil)⟩⟩⟩⟩⟩⟩⟩⟩⟩⟩
set_option maxRecDepth 20000 in
theorem gq_k_charAt_3_k_lcharAt_3_495 : GoodIn wq_k_charAt_3 (va_wsS RJ0 495 yJ1_charAt_3b067 wq_k_lcharAt_3) := goodIn_app (List.forall_mem_cons.mpr ⟨⟨(List.mem_of_getElem? (i := 9) rfl), good_of_word rfl⟩, List.forall_mem_cons.mpr ⟨⟨(List.mem_of_getElem? (i := 10) rfl), good_of_word rfl⟩, List.forall_mem_cons.mpr ⟨⟨(List.mem_of_getElem? (i := 11) rfl), good_of_word rfl⟩, (fun _ h => absurd h List.not_mem_nil)⟩⟩⟩) gr_k_charAt_3_k_lcharAt_3
set_option maxHeartbeats 8000000 in
set_option maxRecDepth 100000 in
theorem k_charAt_3 (l : Launch) (D : va_G) (cy : Nat → ClassId) (ad : Nat → Nat) (g : Nat → va_E) {n : Int32} (p_n : zi 0 2 n) : cMi l yJ0_charAt_5068e wq_k_charAt_3 { frames := 3, cells := 0, slots := 0, locals := 64 } 0 0 0 0 D cy ad g [.ref (cy (100 + 3)), .int n] (fun r nw lu => (zi 0 65535 r) ∧ (lu = [])) := by
  refine cM_of (Qc := fun A => cQi (fun r nw lu => (zi 0 65535 r) ∧ (lu = [])) D 0 0 ad g A) (cc := cJ0_charAt_5068e) (maxL := 2) (ret := (some .char)) (by decide) rfl (Nat.le_of_ble_eq_true rfl) ?_
  intro p e s m below meth c A hC hr hlk hnm hO ls hl
  have hC : CallFix p m c cJ0_charAt_5068e 2 s [.ref (cy (100 + 3)), .int n].toArray wq_k_charAt_3 RJ0 := hC
  obtain ⟨hx, hb, hml, hown, hts⟩ := id hC
  have hl : lv_has ls 2 [(0, .ref (cy (100 + 3))), (1, .int n)] := hl
  refine lv_aload_n hx hb ddJ0_charAt_5068e_0 rfl (lv_at hl 0 rfl) ?_
  refine sg_Vi (As := []) (rest := []) (mc := 0) (ms := 0) (rm := { frames := 0, cells := 0, slots := 0, locals := 0 }) hC hl.1 hO [] (by decide +kernel) 3 (by decide) (k_isLatin1_3 l D cy _ _  ) gq_k_charAt_3_k_isLatin1_3_492 rfl rfl rfl 0 (by decide +kernel) ⟨Nat.le_of_ble_eq_true rfl, Nat.le_of_ble_eq_true rfl⟩ rfl rfl (Nat.le_of_ble_eq_true rfl) ddJ0_charAt_5068e_1 ⟨Nat.le_of_ble_eq_true rfl, Nat.le_of_ble_eq_true rfl⟩ (fun r_1_10 nw_1_8 l_1_9 H locs hw hO => ?_)
  obtain ⟨rfl, rfl⟩ := hw
  have hO : cO D cy A s.heap s 0 ad (cup [] g) _ _ := hO
  refine lv_if_eq (tgt := 16) hx hb ddJ0_charAt_5068e_4 (by decide) (fun h => absurd h (by decide)) (fun _ => ?_)
  refine lv_aload_n hx hb ddJ0_charAt_5068e_7 rfl (lv_at hl 0 rfl) ?_
  refine sg_val hC hO 3 (by decide) (List.mem_of_getElem? (i := 8) rfl) ddJ0_charAt_5068e_8 ?_
  refine lv_iload_n hx hb ddJ0_charAt_5068e_11 rfl (lv_at hl 1 rfl) ?_
  refine cg_Si (As := [.ref (cy (200 + 3)), .int n]) (rest := []) (mc := 0) (ms := 0) (rm := { frames := 2, cells := 0, slots := 0, locals := 43 }) hC hl.1 hO [] (by decide +kernel) (k_lcharAt_3 l D cy _ _ (n := n) p_n) gq_k_charAt_3_k_lcharAt_3_495 rfl rfl rfl 2 (by decide +kernel) ⟨Nat.le_of_ble_eq_true rfl, Nat.le_of_ble_eq_true rfl⟩ rfl rfl (Nat.le_of_ble_eq_true rfl) ddJ0_charAt_5068e_12 ⟨Nat.le_of_ble_eq_true rfl, Nat.le_of_ble_eq_true rfl⟩ (fun r_12_13 nw_12_11 l_12_12 H locs hw hO => ?_)
  obtain ⟨z_12_14, rfl⟩ := hw
  have hO : cO D cy A s.heap s 0 ad (cup [] g) _ _ := hO
  exact cg_iret (nw := fun _ => 0) hC hr hlk hO.same (zi_narC z_12_14) (Nat.le_of_ble_eq_true rfl) (Nat.le_of_ble_eq_true rfl) (⟨z_12_14, rfl⟩) ddJ0_charAt_5068e_15

def wq_k_isLatin1_4 : List Cond := Cond.code yJ0_isLatin1_aae02 cJ0_isLatin1_aae02 1 (some .boolean) :: (([Cond.fieldLink RJ0 38 "java/lang/String" "COMPACT_STRINGS" "Z", Cond.fieldLink RJ0 15 "java/lang/String" "coder" "B"] : List Cond))
set_option maxHeartbeats 8000000 in
set_option maxRecDepth 100000 in
theorem k_isLatin1_4 (l : Launch) (D : va_G) (cy : Nat → ClassId) (ad : Nat → Nat) (g : Nat → va_E)   : cMi l yJ0_isLatin1_aae02 wq_k_isLatin1_4 { frames := 0, cells := 0, slots := 0, locals := 0 } 0 0 0 0 D cy ad g [.ref (cy (100 + 4))] (fun r nw lu => (r = 1) ∧ (lu = [])) := by
  refine cM_of (Qc := fun A => cQi (fun r nw lu => (r = 1) ∧ (lu = [])) D 0 0 ad g A) (cc := cJ0_isLatin1_aae02) (maxL := 1) (ret := (some .boolean)) (by decide) rfl (Nat.le_of_ble_eq_true rfl) ?_
  intro p e s m below meth c A hC hr hlk hnm hO ls hl
  have hC : CallFix p m c cJ0_isLatin1_aae02 1 s [.ref (cy (100 + 4))].toArray wq_k_isLatin1_4 RJ0 := hC
  obtain ⟨hx, hb, hml, hown, hts⟩ := id hC
  have hl : lv_has ls 1 [(0, .ref (cy (100 + 4)))] := hl
  refine sg_com hC hO (List.mem_of_getElem? (i := 1) rfl) ddJ0_isLatin1_aae02_0 ?_
  refine lv_if_eq (tgt := 17) hx hb ddJ0_isLatin1_aae02_3 (by decide) (fun h => absurd h (by decide)) (fun _ => ?_)
  refine lv_aload_n hx hb ddJ0_isLatin1_aae02_6 rfl (lv_at hl 0 rfl) ?_
  refine sg_cod hC hO 4 (by decide) (List.mem_of_getElem? (i := 2) rfl) ddJ0_isLatin1_aae02_7 ?_
  refine lv_if_ne (tgt := 17) hx hb ddJ0_isLatin1_aae02_10 (by decide) (fun h => absurd h (by decide)) (fun _ => ?_)
  refine lv_iconst (v := 1) hx hb ddJ0_isLatin1_aae02_13 (by decide) ?_
  refine lv_goto (tgt := 18) hx hb ddJ0_isLatin1_aae02_14 (by decide) ?_
  exact cg_iret (nw := fun _ => 0) hC hr hlk hO.same rfl (Nat.le_of_ble_eq_true rfl) (Nat.le_of_ble_eq_true rfl) (⟨rfl, rfl⟩) ddJ0_isLatin1_aae02_18

def wq_k_lcharAt_4 : List Cond := Cond.code yJ1_charAt_3b067 cJ1_charAt_3b067 2 (some .char) :: (([Cond.methodLink RJ1 9 yJ0_checkIndex_df160, Cond.static yJ0_checkIndex_df160, Cond.initialized RJ0, Cond.code yJ0_checkIndex_df160 cJ0_checkIndex_df160 2 none, Cond.fieldLink RJ0 1053 "jdk/internal/util/Preconditions" "SIOOBE_FORMATTER" "Ljava/util/function/BiFunction;", Cond.methodLink RJ0 1059 yJ3_checkIndex_8e157, Cond.static yJ3_checkIndex_8e157, Cond.initialized RJ3, Cond.code yJ3_checkIndex_8e157 cJ3_checkIndex_8e157 3 (some .int)] : List Cond))
set_option maxRecDepth 20000 in
theorem gr_k_lcharAt_4_k_checkIndex0_6 : GoodIn wq_k_lcharAt_4 wq_k_checkIndex0_6 := List.forall_mem_cons.mpr ⟨⟨(List.mem_of_getElem? (i := 4) rfl), good_of_word rfl⟩, List.forall_mem_cons.mpr ⟨⟨(List.mem_of_getElem? (i := 5) rfl), good_of_word rfl⟩, List.forall_mem_cons.mpr ⟨⟨(List.mem_of_getElem? (i := 6) rfl), good_of_word rfl⟩, List.forall_mem_cons.mpr ⟨⟨(List.mem_of_getElem? (i := 7) rfl), good_of_word rfl⟩, List.forall_mem_cons.mpr ⟨⟨(List.mem_of_getElem? (i := 8) rfl), good_of_word rfl⟩, List.forall_mem_cons.mpr ⟨⟨(List.mem_of_getElem? (i := 9) rfl), good_of_word rfl⟩, (fun _ h => absurd h List.not_mem_nil)⟩⟩⟩⟩⟩⟩
set_option maxRecDepth 20000 in
theorem gq_k_lcharAt_4_k_checkIndex0_6_9 : GoodIn wq_k_lcharAt_4 (va_wsS RJ1 9 yJ0_checkIndex_df160 wq_k_checkIndex0_6) := goodIn_app (List.forall_mem_cons.mpr ⟨⟨(List.mem_of_getElem? (i := 1) rfl), good_of_word rfl⟩, List.forall_mem_cons.mpr ⟨⟨(List.mem_of_getElem? (i := 2) rfl), good_of_word rfl⟩, List.forall_mem_cons.mpr ⟨⟨(List.mem_of_getElem? (i := 3) rfl), good_of_word rfl⟩, (fun _ h => absurd h List.not_mem_nil)⟩⟩⟩) gr_k_lcharAt_4_k_checkIndex0_6
set_option maxHeartbeats 8000000 in
set_option maxRecDepth 100000 in
theorem k_lcharAt_4 (l : Launch) (D : va_G) (cy : Nat → ClassId) (ad : Nat → Nat) (g : Nat → va_E) {n : Int32} (p_n : zi 0 5 n) : cMi l yJ1_charAt_3b067 wq_k_lcharAt_4 { frames := 2, cells := 0, slots := 0, locals := 43 } 0 0 0 0 D cy ad g [.ref (cy (200 + 4)), .int n] (fun r nw lu => (zi 0 65535 r) ∧ (lu = [])) := by
  refine cM_of (Qc := fun A => cQi (fun r nw lu => (zi 0 65535 r) ∧ (lu = [])) D 0 0 ad g A) (cc := cJ1_charAt_3b067) (maxL := 2) (ret := (some .char)) (by decide) rfl (Nat.le_of_ble_eq_true rfl) ?_
  intro p e s m below meth c A hC hr hlk hnm hO ls hl
  have hC : CallFix p m c cJ1_charAt_3b067 2 s [.ref (cy (200 + 4)), .int n].toArray wq_k_lcharAt_4 RJ1 := hC
  obtain ⟨hx, hb, hml, hown, hts⟩ := id hC
  have hl : lv_has ls 2 [(0, .ref (cy (200 + 4))), (1, .int n)] := hl
  refine lv_iload_n hx hb ddJ1_charAt_3b067_0 rfl (lv_at hl 1 rfl) ?_
  refine lv_aload_n hx hb ddJ1_charAt_3b067_1 rfl (lv_at hl 0 rfl) ?_
  refine sg_len hC hO 4 (by decide) (v := 6) rfl ddJ1_charAt_3b067_2 ?_
  refine cg_Sv (As := [.int n, .int 6]) (rest := []) (mc := 0) (ms := 0) (rm := { frames := 1, cells := 0, slots := 0, locals := 22 }) hC hl.1 hO [] (by decide +kernel) (k_checkIndex0_6 l D cy _ _ (n := n) p_n) gq_k_lcharAt_4_k_checkIndex0_6_9 rfl rfl rfl 2 (by decide +kernel) ⟨Nat.le_of_ble_eq_true rfl, Nat.le_of_ble_eq_true rfl⟩ rfl rfl (Nat.le_of_ble_eq_true rfl) ddJ1_charAt_3b067_3 ⟨Nat.le_of_ble_eq_true rfl, Nat.le_of_ble_eq_true rfl⟩ (fun nw_3_9 l_3_10 H locs hw hO => ?_)
  obtain rfl := hw
  have hO : cO D cy A s.heap s 0 ad (cup [] g) _ _ := hO
  refine lv_aload_n hx hb ddJ1_charAt_3b067_6 rfl (lv_at hl 0 rfl) ?_
  refine lv_iload_n hx hb ddJ1_charAt_3b067_7 rfl (lv_at hl 1 rfl) ?_
  refine sg_bld hC hO 4 (by decide) (zi_in p_n (by decide)) ddJ1_charAt_3b067_8 (fun v_8_12 => ?_)
  refine lv_sipush (v := 255) hx hb ddJ1_charAt_3b067_9 (by decide) ?_
  refine lv_iand hx hb ddJ1_charAt_3b067_12 ?_
  refine zg_top (P := fun v => zi 0 255 v) (zi_and (zi_k (a := 0) (b := 255) (x := 255) rfl)) (fun v_12_13 z_12_14 => ?_)
  refine lv_i2c hx hb ddJ1_charAt_3b067_13 rfl ?_
  refine zg_top (P := fun v => zi 0 65535 v) (zi_i2c _) (fun v_13_15 z_13_16 => ?_)
  exact cg_iret (nw := fun _ => 0) hC hr hlk hO.same (zi_narC z_13_16) (Nat.le_of_ble_eq_true rfl) (Nat.le_of_ble_eq_true rfl) (⟨z_13_16, rfl⟩) ddJ1_charAt_3b067_14

def wq_k_charAt_4 : List Cond := Cond.code yJ0_charAt_5068e cJ0_charAt_5068e 2 (some .char) :: (([Cond.methodLink RJ0 492 yJ0_isLatin1_aae02, Cond.instanceMethod yJ0_isLatin1_aae02, Cond.selects RJ0 yJ0_isLatin1_aae02 yJ0_isLatin1_aae02, Cond.initialized RJ0, Cond.code yJ0_isLatin1_aae02 cJ0_isLatin1_aae02 1 (some .boolean), Cond.fieldLink RJ0 38 "java/lang/String" "COMPACT_STRINGS" "Z", Cond.fieldLink RJ0 15 "java/lang/String" "coder" "B", Cond.fieldLink RJ0 9 "java/lang/String" "value" "[B", Cond.methodLink RJ0 495 yJ1_charAt_3b067, Cond.static yJ1_charAt_3b067, Cond.initialized RJ1, Cond.code yJ1_charAt_3b067 cJ1_charAt_3b067 2 (some .char), Cond.methodLink RJ1 9 yJ0_checkIndex_df160, Cond.static yJ0_checkIndex_df160, Cond.code yJ0_checkIndex_df160 cJ0_checkIndex_df160 2 none, Cond.fieldLink RJ0 1053 "jdk/internal/util/Preconditions" "SIOOBE_FORMATTER" "Ljava/util/function/BiFunction;", Cond.methodLink RJ0 1059 yJ3_checkIndex_8e157, Cond.static yJ3_checkIndex_8e157, Cond.initialized RJ3, Cond.code yJ3_checkIndex_8e157 cJ3_checkIndex_8e157 3 (some .int)] : List Cond))
set_option maxRecDepth 20000 in
theorem gr_k_charAt_4_k_isLatin1_4 : GoodIn wq_k_charAt_4 wq_k_isLatin1_4 := List.forall_mem_cons.mpr ⟨⟨(List.mem_of_getElem? (i := 5) rfl), good_of_word rfl⟩, List.forall_mem_cons.mpr ⟨⟨(List.mem_of_getElem? (i := 6) rfl), good_of_word rfl⟩, List.forall_mem_cons.mpr ⟨⟨(List.mem_of_getElem? (i := 7) rfl), good_of_word rfl⟩, (fun _ h => absurd h List.not_mem_nil)⟩⟩⟩
set_option maxRecDepth 20000 in
theorem gq_k_charAt_4_k_isLatin1_4_492 : GoodIn wq_k_charAt_4 (wsV RJ0 492 RJ0 yJ0_isLatin1_aae02 wq_k_isLatin1_4) := goodIn_app (List.forall_mem_cons.mpr ⟨⟨(List.mem_of_getElem? (i := 1) rfl), good_of_word rfl⟩, List.forall_mem_cons.mpr ⟨⟨(List.mem_of_getElem? (i := 2) rfl), good_of_word rfl⟩, List.forall_mem_cons.mpr ⟨⟨(List.mem_of_getElem? (i := 3) rfl), good_of_word rfl⟩, List.forall_mem_cons.mpr ⟨⟨(List.mem_of_getElem? (i := 4) rfl), good_of_word rfl⟩, (fun _ h => absurd h List.not_mem_nil)⟩⟩⟩⟩) gr_k_charAt_4_k_isLatin1_4
set_option maxRecDepth 20000 in
theorem gr_k_charAt_4_k_lcharAt_4 : GoodIn wq_k_charAt_4 wq_k_lcharAt_4 := List.forall_mem_cons.mpr ⟨⟨(List.mem_of_getElem? (i := 12) rfl), good_of_word rfl⟩, List.forall_mem_cons.mpr ⟨⟨(List.mem_of_getElem? (i := 13) rfl), good_of_word rfl⟩, List.forall_mem_cons.mpr ⟨⟨(List.mem_of_getElem? (i := 14) rfl), good_of_word rfl⟩, List.forall_mem_cons.mpr ⟨⟨(List.mem_of_getElem? (i := 4) rfl), good_of_word rfl⟩, List.forall_mem_cons.mpr ⟨⟨(List.mem_of_getElem? (i := 15) rfl), good_of_word rfl⟩, List.forall_mem_cons.mpr ⟨⟨(List.mem_of_getElem? (i := 16) rfl), good_of_word rfl⟩, List.forall_mem_cons.mpr ⟨⟨(List.mem_of_getElem? (i := 17) rfl), good_of_word rfl⟩, List.forall_mem_cons.mpr ⟨⟨(List.mem_of_getElem? (i := 18) rfl), good_of_word rfl⟩, List.forall_mem_cons.mpr ⟨⟨(List.mem_of_getElem? (i := 19) rfl), good_of_word rfl⟩, List.forall_mem_cons.mpr ⟨⟨(List.mem_of_getElem? (i := 20) rfl), good_of_word rfl⟩, (fun _ h => absurd h List.not_mem_nil)⟩⟩⟩⟩⟩⟩⟩⟩⟩⟩
set_option maxRecDepth 20000 in
theorem gq_k_charAt_4_k_lcharAt_4_495 : GoodIn wq_k_charAt_4 (va_wsS RJ0 495 yJ1_charAt_3b067 wq_k_lcharAt_4) := goodIn_app (List.forall_mem_cons.mpr ⟨⟨(List.mem_of_getElem? (i := 9) rfl), good_of_word rfl⟩, List.forall_mem_cons.mpr ⟨⟨(List.mem_of_getElem? (i := 10) rfl), good_of_word rfl⟩, List.forall_mem_cons.mpr ⟨⟨(List.mem_of_getElem? (i := 11) rfl), good_of_word rfl⟩, (fun _ h => absurd h List.not_mem_nil)⟩⟩⟩) gr_k_charAt_4_k_lcharAt_4
set_option maxHeartbeats 8000000 in
set_option maxRecDepth 100000 in
theorem k_charAt_4 (l : Launch) (D : va_G) (cy : Nat → ClassId) (ad : Nat → Nat) (g : Nat → va_E) {n : Int32} (p_n : zi 0 5 n) : cMi l yJ0_charAt_5068e wq_k_charAt_4 { frames := 3, cells := 0, slots := 0, locals := 64 } 0 0 0 0 D cy ad g [.ref (cy (100 + 4)), .int n] (fun r nw lu => (zi 0 65535 r) ∧ (lu = [])) := by
  refine cM_of (Qc := fun A => cQi (fun r nw lu => (zi 0 65535 r) ∧ (lu = [])) D 0 0 ad g A) (cc := cJ0_charAt_5068e) (maxL := 2) (ret := (some .char)) (by decide) rfl (Nat.le_of_ble_eq_true rfl) ?_
  intro p e s m below meth c A hC hr hlk hnm hO ls hl
  have hC : CallFix p m c cJ0_charAt_5068e 2 s [.ref (cy (100 + 4)), .int n].toArray wq_k_charAt_4 RJ0 := hC
  obtain ⟨hx, hb, hml, hown, hts⟩ := id hC
  have hl : lv_has ls 2 [(0, .ref (cy (100 + 4))), (1, .int n)] := hl
  refine lv_aload_n hx hb ddJ0_charAt_5068e_0 rfl (lv_at hl 0 rfl) ?_
  refine sg_Vi (As := []) (rest := []) (mc := 0) (ms := 0) (rm := { frames := 0, cells := 0, slots := 0, locals := 0 }) hC hl.1 hO [] (by decide +kernel) 4 (by decide) (k_isLatin1_4 l D cy _ _  ) gq_k_charAt_4_k_isLatin1_4_492 rfl rfl rfl 0 (by decide +kernel) ⟨Nat.le_of_ble_eq_true rfl, Nat.le_of_ble_eq_true rfl⟩ rfl rfl (Nat.le_of_ble_eq_true rfl) ddJ0_charAt_5068e_1 ⟨Nat.le_of_ble_eq_true rfl, Nat.le_of_ble_eq_true rfl⟩ (fun r_1_10 nw_1_8 l_1_9 H locs hw hO => ?_)
  obtain ⟨rfl, rfl⟩ := hw
  have hO : cO D cy A s.heap s 0 ad (cup [] g) _ _ := hO
  refine lv_if_eq (tgt := 16) hx hb ddJ0_charAt_5068e_4 (by decide) (fun h => absurd h (by decide)) (fun _ => ?_)
  refine lv_aload_n hx hb ddJ0_charAt_5068e_7 rfl (lv_at hl 0 rfl) ?_
  refine sg_val hC hO 4 (by decide) (List.mem_of_getElem? (i := 8) rfl) ddJ0_charAt_5068e_8 ?_
  refine lv_iload_n hx hb ddJ0_charAt_5068e_11 rfl (lv_at hl 1 rfl) ?_
  refine cg_Si (As := [.ref (cy (200 + 4)), .int n]) (rest := []) (mc := 0) (ms := 0) (rm := { frames := 2, cells := 0, slots := 0, locals := 43 }) hC hl.1 hO [] (by decide +kernel) (k_lcharAt_4 l D cy _ _ (n := n) p_n) gq_k_charAt_4_k_lcharAt_4_495 rfl rfl rfl 2 (by decide +kernel) ⟨Nat.le_of_ble_eq_true rfl, Nat.le_of_ble_eq_true rfl⟩ rfl rfl (Nat.le_of_ble_eq_true rfl) ddJ0_charAt_5068e_12 ⟨Nat.le_of_ble_eq_true rfl, Nat.le_of_ble_eq_true rfl⟩ (fun r_12_13 nw_12_11 l_12_12 H locs hw hO => ?_)
  obtain ⟨z_12_14, rfl⟩ := hw
  have hO : cO D cy A s.heap s 0 ad (cup [] g) _ _ := hO
  exact cg_iret (nw := fun _ => 0) hC hr hlk hO.same (zi_narC z_12_14) (Nat.le_of_ble_eq_true rfl) (Nat.le_of_ble_eq_true rfl) (⟨z_12_14, rfl⟩) ddJ0_charAt_5068e_15

def wq_k_isLatin1_5 : List Cond := Cond.code yJ0_isLatin1_aae02 cJ0_isLatin1_aae02 1 (some .boolean) :: (([Cond.fieldLink RJ0 38 "java/lang/String" "COMPACT_STRINGS" "Z", Cond.fieldLink RJ0 15 "java/lang/String" "coder" "B"] : List Cond))
set_option maxHeartbeats 8000000 in
set_option maxRecDepth 100000 in
theorem k_isLatin1_5 (l : Launch) (D : va_G) (cy : Nat → ClassId) (ad : Nat → Nat) (g : Nat → va_E)   : cMi l yJ0_isLatin1_aae02 wq_k_isLatin1_5 { frames := 0, cells := 0, slots := 0, locals := 0 } 0 0 0 0 D cy ad g [.ref (cy (100 + 5))] (fun r nw lu => (r = 1) ∧ (lu = [])) := by
  refine cM_of (Qc := fun A => cQi (fun r nw lu => (r = 1) ∧ (lu = [])) D 0 0 ad g A) (cc := cJ0_isLatin1_aae02) (maxL := 1) (ret := (some .boolean)) (by decide) rfl (Nat.le_of_ble_eq_true rfl) ?_
  intro p e s m below meth c A hC hr hlk hnm hO ls hl
  have hC : CallFix p m c cJ0_isLatin1_aae02 1 s [.ref (cy (100 + 5))].toArray wq_k_isLatin1_5 RJ0 := hC
  obtain ⟨hx, hb, hml, hown, hts⟩ := id hC
  have hl : lv_has ls 1 [(0, .ref (cy (100 + 5)))] := hl
  refine sg_com hC hO (List.mem_of_getElem? (i := 1) rfl) ddJ0_isLatin1_aae02_0 ?_
  refine lv_if_eq (tgt := 17) hx hb ddJ0_isLatin1_aae02_3 (by decide) (fun h => absurd h (by decide)) (fun _ => ?_)
  refine lv_aload_n hx hb ddJ0_isLatin1_aae02_6 rfl (lv_at hl 0 rfl) ?_
  refine sg_cod hC hO 5 (by decide) (List.mem_of_getElem? (i := 2) rfl) ddJ0_isLatin1_aae02_7 ?_
  refine lv_if_ne (tgt := 17) hx hb ddJ0_isLatin1_aae02_10 (by decide) (fun h => absurd h (by decide)) (fun _ => ?_)
  refine lv_iconst (v := 1) hx hb ddJ0_isLatin1_aae02_13 (by decide) ?_
  refine lv_goto (tgt := 18) hx hb ddJ0_isLatin1_aae02_14 (by decide) ?_
  exact cg_iret (nw := fun _ => 0) hC hr hlk hO.same rfl (Nat.le_of_ble_eq_true rfl) (Nat.le_of_ble_eq_true rfl) (⟨rfl, rfl⟩) ddJ0_isLatin1_aae02_18

def wq_k_lcharAt_5 : List Cond := Cond.code yJ1_charAt_3b067 cJ1_charAt_3b067 2 (some .char) :: (([Cond.methodLink RJ1 9 yJ0_checkIndex_df160, Cond.static yJ0_checkIndex_df160, Cond.initialized RJ0, Cond.code yJ0_checkIndex_df160 cJ0_checkIndex_df160 2 none, Cond.fieldLink RJ0 1053 "jdk/internal/util/Preconditions" "SIOOBE_FORMATTER" "Ljava/util/function/BiFunction;", Cond.methodLink RJ0 1059 yJ3_checkIndex_8e157, Cond.static yJ3_checkIndex_8e157, Cond.initialized RJ3, Cond.code yJ3_checkIndex_8e157 cJ3_checkIndex_8e157 3 (some .int)] : List Cond))
set_option maxRecDepth 20000 in
theorem gr_k_lcharAt_5_k_checkIndex0_3 : GoodIn wq_k_lcharAt_5 wq_k_checkIndex0_3 := List.forall_mem_cons.mpr ⟨⟨(List.mem_of_getElem? (i := 4) rfl), good_of_word rfl⟩, List.forall_mem_cons.mpr ⟨⟨(List.mem_of_getElem? (i := 5) rfl), good_of_word rfl⟩, List.forall_mem_cons.mpr ⟨⟨(List.mem_of_getElem? (i := 6) rfl), good_of_word rfl⟩, List.forall_mem_cons.mpr ⟨⟨(List.mem_of_getElem? (i := 7) rfl), good_of_word rfl⟩, List.forall_mem_cons.mpr ⟨⟨(List.mem_of_getElem? (i := 8) rfl), good_of_word rfl⟩, List.forall_mem_cons.mpr ⟨⟨(List.mem_of_getElem? (i := 9) rfl), good_of_word rfl⟩, (fun _ h => absurd h List.not_mem_nil)⟩⟩⟩⟩⟩⟩
set_option maxRecDepth 20000 in
theorem gq_k_lcharAt_5_k_checkIndex0_3_9 : GoodIn wq_k_lcharAt_5 (va_wsS RJ1 9 yJ0_checkIndex_df160 wq_k_checkIndex0_3) := goodIn_app (List.forall_mem_cons.mpr ⟨⟨(List.mem_of_getElem? (i := 1) rfl), good_of_word rfl⟩, List.forall_mem_cons.mpr ⟨⟨(List.mem_of_getElem? (i := 2) rfl), good_of_word rfl⟩, List.forall_mem_cons.mpr ⟨⟨(List.mem_of_getElem? (i := 3) rfl), good_of_word rfl⟩, (fun _ h => absurd h List.not_mem_nil)⟩⟩⟩) gr_k_lcharAt_5_k_checkIndex0_3
set_option maxHeartbeats 8000000 in
set_option maxRecDepth 100000 in
theorem k_lcharAt_5 (l : Launch) (D : va_G) (cy : Nat → ClassId) (ad : Nat → Nat) (g : Nat → va_E) {n : Int32} (p_n : zi 0 2 n) : cMi l yJ1_charAt_3b067 wq_k_lcharAt_5 { frames := 2, cells := 0, slots := 0, locals := 43 } 0 0 0 0 D cy ad g [.ref (cy (200 + 5)), .int n] (fun r nw lu => (zi 0 65535 r) ∧ (lu = [])) := by
  refine cM_of (Qc := fun A => cQi (fun r nw lu => (zi 0 65535 r) ∧ (lu = [])) D 0 0 ad g A) (cc := cJ1_charAt_3b067) (maxL := 2) (ret := (some .char)) (by decide) rfl (Nat.le_of_ble_eq_true rfl) ?_
  intro p e s m below meth c A hC hr hlk hnm hO ls hl
  have hC : CallFix p m c cJ1_charAt_3b067 2 s [.ref (cy (200 + 5)), .int n].toArray wq_k_lcharAt_5 RJ1 := hC
  obtain ⟨hx, hb, hml, hown, hts⟩ := id hC
  have hl : lv_has ls 2 [(0, .ref (cy (200 + 5))), (1, .int n)] := hl
  refine lv_iload_n hx hb ddJ1_charAt_3b067_0 rfl (lv_at hl 1 rfl) ?_
  refine lv_aload_n hx hb ddJ1_charAt_3b067_1 rfl (lv_at hl 0 rfl) ?_
  refine sg_len hC hO 5 (by decide) (v := 3) rfl ddJ1_charAt_3b067_2 ?_
  refine cg_Sv (As := [.int n, .int 3]) (rest := []) (mc := 0) (ms := 0) (rm := { frames := 1, cells := 0, slots := 0, locals := 22 }) hC hl.1 hO [] (by decide +kernel) (k_checkIndex0_3 l D cy _ _ (n := n) p_n) gq_k_lcharAt_5_k_checkIndex0_3_9 rfl rfl rfl 2 (by decide +kernel) ⟨Nat.le_of_ble_eq_true rfl, Nat.le_of_ble_eq_true rfl⟩ rfl rfl (Nat.le_of_ble_eq_true rfl) ddJ1_charAt_3b067_3 ⟨Nat.le_of_ble_eq_true rfl, Nat.le_of_ble_eq_true rfl⟩ (fun nw_3_9 l_3_10 H locs hw hO => ?_)
  obtain rfl := hw
  have hO : cO D cy A s.heap s 0 ad (cup [] g) _ _ := hO
  refine lv_aload_n hx hb ddJ1_charAt_3b067_6 rfl (lv_at hl 0 rfl) ?_
  refine lv_iload_n hx hb ddJ1_charAt_3b067_7 rfl (lv_at hl 1 rfl) ?_
  refine sg_bld hC hO 5 (by decide) (zi_in p_n (by decide)) ddJ1_charAt_3b067_8 (fun v_8_12 => ?_)
  refine lv_sipush (v := 255) hx hb ddJ1_charAt_3b067_9 (by decide) ?_
  refine lv_iand hx hb ddJ1_charAt_3b067_12 ?_
  refine zg_top (P := fun v => zi 0 255 v) (zi_and (zi_k (a := 0) (b := 255) (x := 255) rfl)) (fun v_12_13 z_12_14 => ?_)
  refine lv_i2c hx hb ddJ1_charAt_3b067_13 rfl ?_
  refine zg_top (P := fun v => zi 0 65535 v) (zi_i2c _) (fun v_13_15 z_13_16 => ?_)
  exact cg_iret (nw := fun _ => 0) hC hr hlk hO.same (zi_narC z_13_16) (Nat.le_of_ble_eq_true rfl) (Nat.le_of_ble_eq_true rfl) (⟨z_13_16, rfl⟩) ddJ1_charAt_3b067_14

def wq_k_charAt_5 : List Cond := Cond.code yJ0_charAt_5068e cJ0_charAt_5068e 2 (some .char) :: (([Cond.methodLink RJ0 492 yJ0_isLatin1_aae02, Cond.instanceMethod yJ0_isLatin1_aae02, Cond.selects RJ0 yJ0_isLatin1_aae02 yJ0_isLatin1_aae02, Cond.initialized RJ0, Cond.code yJ0_isLatin1_aae02 cJ0_isLatin1_aae02 1 (some .boolean), Cond.fieldLink RJ0 38 "java/lang/String" "COMPACT_STRINGS" "Z", Cond.fieldLink RJ0 15 "java/lang/String" "coder" "B", Cond.fieldLink RJ0 9 "java/lang/String" "value" "[B", Cond.methodLink RJ0 495 yJ1_charAt_3b067, Cond.static yJ1_charAt_3b067, Cond.initialized RJ1, Cond.code yJ1_charAt_3b067 cJ1_charAt_3b067 2 (some .char), Cond.methodLink RJ1 9 yJ0_checkIndex_df160, Cond.static yJ0_checkIndex_df160, Cond.code yJ0_checkIndex_df160 cJ0_checkIndex_df160 2 none, Cond.fieldLink RJ0 1053 "jdk/internal/util/Preconditions" "SIOOBE_FORMATTER" "Ljava/util/function/BiFunction;", Cond.methodLink RJ0 1059 yJ3_checkIndex_8e157, Cond.static yJ3_checkIndex_8e157, Cond.initialized RJ3, Cond.code yJ3_checkIndex_8e157 cJ3_checkIndex_8e157 3 (some .int)] : List Cond))
set_option maxRecDepth 20000 in
theorem gr_k_charAt_5_k_isLatin1_5 : GoodIn wq_k_charAt_5 wq_k_isLatin1_5 := List.forall_mem_cons.mpr ⟨⟨(List.mem_of_getElem? (i := 5) rfl), good_of_word rfl⟩, List.forall_mem_cons.mpr ⟨⟨(List.mem_of_getElem? (i := 6) rfl), good_of_word rfl⟩, List.forall_mem_cons.mpr ⟨⟨(List.mem_of_getElem? (i := 7) rfl), good_of_word rfl⟩, (fun _ h => absurd h List.not_mem_nil)⟩⟩⟩
set_option maxRecDepth 20000 in
theorem gq_k_charAt_5_k_isLatin1_5_492 : GoodIn wq_k_charAt_5 (wsV RJ0 492 RJ0 yJ0_isLatin1_aae02 wq_k_isLatin1_5) := goodIn_app (List.forall_mem_cons.mpr ⟨⟨(List.mem_of_getElem? (i := 1) rfl), good_of_word rfl⟩, List.forall_mem_cons.mpr ⟨⟨(List.mem_of_getElem? (i := 2) rfl), good_of_word rfl⟩, List.forall_mem_cons.mpr ⟨⟨(List.mem_of_getElem? (i := 3) rfl), good_of_word rfl⟩, List.forall_mem_cons.mpr ⟨⟨(List.mem_of_getElem? (i := 4) rfl), good_of_word rfl⟩, (fun _ h => absurd h List.not_mem_nil)⟩⟩⟩⟩) gr_k_charAt_5_k_isLatin1_5
set_option maxRecDepth 20000 in
theorem gr_k_charAt_5_k_lcharAt_5 : GoodIn wq_k_charAt_5 wq_k_lcharAt_5 := List.forall_mem_cons.mpr ⟨⟨(List.mem_of_getElem? (i := 12) rfl), good_of_word rfl⟩, List.forall_mem_cons.mpr ⟨⟨(List.mem_of_getElem? (i := 13) rfl), good_of_word rfl⟩, List.forall_mem_cons.mpr ⟨⟨(List.mem_of_getElem? (i := 14) rfl), good_of_word rfl⟩, List.forall_mem_cons.mpr ⟨⟨(List.mem_of_getElem? (i := 4) rfl), good_of_word rfl⟩, List.forall_mem_cons.mpr ⟨⟨(List.mem_of_getElem? (i := 15) rfl), good_of_word rfl⟩, List.forall_mem_cons.mpr ⟨⟨(List.mem_of_getElem? (i := 16) rfl), good_of_word rfl⟩, List.forall_mem_cons.mpr ⟨⟨(List.mem_of_getElem? (i := 17) rfl), good_of_word rfl⟩, List.forall_mem_cons.mpr ⟨⟨(List.mem_of_getElem? (i := 18) rfl), good_of_word rfl⟩, List.forall_mem_cons.mpr ⟨⟨(List.mem_of_getElem? (i := 19) rfl), good_of_word rfl⟩, List.forall_mem_cons.mpr ⟨⟨(List.mem_of_getElem? (i := 20) rfl), good_of_word rfl⟩, (fun _ h => absurd h List.not_mem_nil)⟩⟩⟩⟩⟩⟩⟩⟩⟩⟩
set_option maxRecDepth 20000 in
theorem gq_k_charAt_5_k_lcharAt_5_495 : GoodIn wq_k_charAt_5 (va_wsS RJ0 495 yJ1_charAt_3b067 wq_k_lcharAt_5) := goodIn_app (List.forall_mem_cons.mpr ⟨⟨(List.mem_of_getElem? (i := 9) rfl), good_of_word rfl⟩, List.forall_mem_cons.mpr ⟨⟨(List.mem_of_getElem? (i := 10) rfl), good_of_word rfl⟩, List.forall_mem_cons.mpr ⟨⟨(List.mem_of_getElem? (i := 11) rfl), good_of_word rfl⟩, (fun _ h => absurd h List.not_mem_nil)⟩⟩⟩) gr_k_charAt_5_k_lcharAt_5
set_option maxHeartbeats 8000000 in
set_option maxRecDepth 100000 in
theorem k_charAt_5 (l : Launch) (D : va_G) (cy : Nat → ClassId) (ad : Nat → Nat) (g : Nat → va_E) {n : Int32} (p_n : zi 0 2 n) : cMi l yJ0_charAt_5068e wq_k_charAt_5 { frames := 3, cells := 0, slots := 0, locals := 64 } 0 0 0 0 D cy ad g [.ref (cy (100 + 5)), .int n] (fun r nw lu => (zi 0 65535 r) ∧ (lu = [])) := by
  refine cM_of (Qc := fun A => cQi (fun r nw lu => (zi 0 65535 r) ∧ (lu = [])) D 0 0 ad g A) (cc := cJ0_charAt_5068e) (maxL := 2) (ret := (some .char)) (by decide) rfl (Nat.le_of_ble_eq_true rfl) ?_
  intro p e s m below meth c A hC hr hlk hnm hO ls hl
  have hC : CallFix p m c cJ0_charAt_5068e 2 s [.ref (cy (100 + 5)), .int n].toArray wq_k_charAt_5 RJ0 := hC
  obtain ⟨hx, hb, hml, hown, hts⟩ := id hC
  have hl : lv_has ls 2 [(0, .ref (cy (100 + 5))), (1, .int n)] := hl
  refine lv_aload_n hx hb ddJ0_charAt_5068e_0 rfl (lv_at hl 0 rfl) ?_
  refine sg_Vi (As := []) (rest := []) (mc := 0) (ms := 0) (rm := { frames := 0, cells := 0, slots := 0, locals := 0 }) hC hl.1 hO [] (by decide +kernel) 5 (by decide) (k_isLatin1_5 l D cy _ _  ) gq_k_charAt_5_k_isLatin1_5_492 rfl rfl rfl 0 (by decide +kernel) ⟨Nat.le_of_ble_eq_true rfl, Nat.le_of_ble_eq_true rfl⟩ rfl rfl (Nat.le_of_ble_eq_true rfl) ddJ0_charAt_5068e_1 ⟨Nat.le_of_ble_eq_true rfl, Nat.le_of_ble_eq_true rfl⟩ (fun r_1_10 nw_1_8 l_1_9 H locs hw hO => ?_)
  obtain ⟨rfl, rfl⟩ := hw
  have hO : cO D cy A s.heap s 0 ad (cup [] g) _ _ := hO
  refine lv_if_eq (tgt := 16) hx hb ddJ0_charAt_5068e_4 (by decide) (fun h => absurd h (by decide)) (fun _ => ?_)
  refine lv_aload_n hx hb ddJ0_charAt_5068e_7 rfl (lv_at hl 0 rfl) ?_
  refine sg_val hC hO 5 (by decide) (List.mem_of_getElem? (i := 8) rfl) ddJ0_charAt_5068e_8 ?_
  refine lv_iload_n hx hb ddJ0_charAt_5068e_11 rfl (lv_at hl 1 rfl) ?_
  refine cg_Si (As := [.ref (cy (200 + 5)), .int n]) (rest := []) (mc := 0) (ms := 0) (rm := { frames := 2, cells := 0, slots := 0, locals := 43 }) hC hl.1 hO [] (by decide +kernel) (k_lcharAt_5 l D cy _ _ (n := n) p_n) gq_k_charAt_5_k_lcharAt_5_495 rfl rfl rfl 2 (by decide +kernel) ⟨Nat.le_of_ble_eq_true rfl, Nat.le_of_ble_eq_true rfl⟩ rfl rfl (Nat.le_of_ble_eq_true rfl) ddJ0_charAt_5068e_12 ⟨Nat.le_of_ble_eq_true rfl, Nat.le_of_ble_eq_true rfl⟩ (fun r_12_13 nw_12_11 l_12_12 H locs hw hO => ?_)
  obtain ⟨z_12_14, rfl⟩ := hw
  have hO : cO D cy A s.heap s 0 ad (cup [] g) _ _ := hO
  exact cg_iret (nw := fun _ => 0) hC hr hlk hO.same (zi_narC z_12_14) (Nat.le_of_ble_eq_true rfl) (Nat.le_of_ble_eq_true rfl) (⟨z_12_14, rfl⟩) ddJ0_charAt_5068e_15

def wq_k_isLatin1_6 : List Cond := Cond.code yJ0_isLatin1_aae02 cJ0_isLatin1_aae02 1 (some .boolean) :: (([Cond.fieldLink RJ0 38 "java/lang/String" "COMPACT_STRINGS" "Z", Cond.fieldLink RJ0 15 "java/lang/String" "coder" "B"] : List Cond))
set_option maxHeartbeats 8000000 in
set_option maxRecDepth 100000 in
theorem k_isLatin1_6 (l : Launch) (D : va_G) (cy : Nat → ClassId) (ad : Nat → Nat) (g : Nat → va_E)   : cMi l yJ0_isLatin1_aae02 wq_k_isLatin1_6 { frames := 0, cells := 0, slots := 0, locals := 0 } 0 0 0 0 D cy ad g [.ref (cy (100 + 6))] (fun r nw lu => (r = 1) ∧ (lu = [])) := by
  refine cM_of (Qc := fun A => cQi (fun r nw lu => (r = 1) ∧ (lu = [])) D 0 0 ad g A) (cc := cJ0_isLatin1_aae02) (maxL := 1) (ret := (some .boolean)) (by decide) rfl (Nat.le_of_ble_eq_true rfl) ?_
  intro p e s m below meth c A hC hr hlk hnm hO ls hl
  have hC : CallFix p m c cJ0_isLatin1_aae02 1 s [.ref (cy (100 + 6))].toArray wq_k_isLatin1_6 RJ0 := hC
  obtain ⟨hx, hb, hml, hown, hts⟩ := id hC
  have hl : lv_has ls 1 [(0, .ref (cy (100 + 6)))] := hl
  refine sg_com hC hO (List.mem_of_getElem? (i := 1) rfl) ddJ0_isLatin1_aae02_0 ?_
  refine lv_if_eq (tgt := 17) hx hb ddJ0_isLatin1_aae02_3 (by decide) (fun h => absurd h (by decide)) (fun _ => ?_)
  refine lv_aload_n hx hb ddJ0_isLatin1_aae02_6 rfl (lv_at hl 0 rfl) ?_
  refine sg_cod hC hO 6 (by decide) (List.mem_of_getElem? (i := 2) rfl) ddJ0_isLatin1_aae02_7 ?_
  refine lv_if_ne (tgt := 17) hx hb ddJ0_isLatin1_aae02_10 (by decide) (fun h => absurd h (by decide)) (fun _ => ?_)
  refine lv_iconst (v := 1) hx hb ddJ0_isLatin1_aae02_13 (by decide) ?_
  refine lv_goto (tgt := 18) hx hb ddJ0_isLatin1_aae02_14 (by decide) ?_
  exact cg_iret (nw := fun _ => 0) hC hr hlk hO.same rfl (Nat.le_of_ble_eq_true rfl) (Nat.le_of_ble_eq_true rfl) (⟨rfl, rfl⟩) ddJ0_isLatin1_aae02_18

def wq_k_lcharAt_6 : List Cond := Cond.code yJ1_charAt_3b067 cJ1_charAt_3b067 2 (some .char) :: (([Cond.methodLink RJ1 9 yJ0_checkIndex_df160, Cond.static yJ0_checkIndex_df160, Cond.initialized RJ0, Cond.code yJ0_checkIndex_df160 cJ0_checkIndex_df160 2 none, Cond.fieldLink RJ0 1053 "jdk/internal/util/Preconditions" "SIOOBE_FORMATTER" "Ljava/util/function/BiFunction;", Cond.methodLink RJ0 1059 yJ3_checkIndex_8e157, Cond.static yJ3_checkIndex_8e157, Cond.initialized RJ3, Cond.code yJ3_checkIndex_8e157 cJ3_checkIndex_8e157 3 (some .int)] : List Cond))
set_option maxRecDepth 20000 in
theorem gr_k_lcharAt_6_k_checkIndex0_5 : GoodIn wq_k_lcharAt_6 wq_k_checkIndex0_5 := List.forall_mem_cons.mpr ⟨⟨(List.mem_of_getElem? (i := 4) rfl), good_of_word rfl⟩, List.forall_mem_cons.mpr ⟨⟨(List.mem_of_getElem? (i := 5) rfl), good_of_word rfl⟩, List.forall_mem_cons.mpr ⟨⟨(List.mem_of_getElem? (i := 6) rfl), good_of_word rfl⟩, List.forall_mem_cons.mpr ⟨⟨(List.mem_of_getElem? (i := 7) rfl), good_of_word rfl⟩, List.forall_mem_cons.mpr ⟨⟨(List.mem_of_getElem? (i := 8) rfl), good_of_word rfl⟩, List.forall_mem_cons.mpr ⟨⟨(List.mem_of_getElem? (i := 9) rfl), good_of_word rfl⟩, (fun _ h => absurd h List.not_mem_nil)⟩⟩⟩⟩⟩⟩
set_option maxRecDepth 20000 in
theorem gq_k_lcharAt_6_k_checkIndex0_5_9 : GoodIn wq_k_lcharAt_6 (va_wsS RJ1 9 yJ0_checkIndex_df160 wq_k_checkIndex0_5) := goodIn_app (List.forall_mem_cons.mpr ⟨⟨(List.mem_of_getElem? (i := 1) rfl), good_of_word rfl⟩, List.forall_mem_cons.mpr ⟨⟨(List.mem_of_getElem? (i := 2) rfl), good_of_word rfl⟩, List.forall_mem_cons.mpr ⟨⟨(List.mem_of_getElem? (i := 3) rfl), good_of_word rfl⟩, (fun _ h => absurd h List.not_mem_nil)⟩⟩⟩) gr_k_lcharAt_6_k_checkIndex0_5
set_option maxHeartbeats 8000000 in
set_option maxRecDepth 100000 in
theorem k_lcharAt_6 (l : Launch) (D : va_G) (cy : Nat → ClassId) (ad : Nat → Nat) (g : Nat → va_E) {n : Int32} (p_n : zi 0 4 n) : cMi l yJ1_charAt_3b067 wq_k_lcharAt_6 { frames := 2, cells := 0, slots := 0, locals := 43 } 0 0 0 0 D cy ad g [.ref (cy (200 + 6)), .int n] (fun r nw lu => (zi 0 65535 r) ∧ (lu = [])) := by
  refine cM_of (Qc := fun A => cQi (fun r nw lu => (zi 0 65535 r) ∧ (lu = [])) D 0 0 ad g A) (cc := cJ1_charAt_3b067) (maxL := 2) (ret := (some .char)) (by decide) rfl (Nat.le_of_ble_eq_true rfl) ?_
  intro p e s m below meth c A hC hr hlk hnm hO ls hl
  have hC : CallFix p m c cJ1_charAt_3b067 2 s [.ref (cy (200 + 6)), .int n].toArray wq_k_lcharAt_6 RJ1 := hC
  obtain ⟨hx, hb, hml, hown, hts⟩ := id hC
  have hl : lv_has ls 2 [(0, .ref (cy (200 + 6))), (1, .int n)] := hl
  refine lv_iload_n hx hb ddJ1_charAt_3b067_0 rfl (lv_at hl 1 rfl) ?_
  refine lv_aload_n hx hb ddJ1_charAt_3b067_1 rfl (lv_at hl 0 rfl) ?_
  refine sg_len hC hO 6 (by decide) (v := 5) rfl ddJ1_charAt_3b067_2 ?_
  refine cg_Sv (As := [.int n, .int 5]) (rest := []) (mc := 0) (ms := 0) (rm := { frames := 1, cells := 0, slots := 0, locals := 22 }) hC hl.1 hO [] (by decide +kernel) (k_checkIndex0_5 l D cy _ _ (n := n) p_n) gq_k_lcharAt_6_k_checkIndex0_5_9 rfl rfl rfl 2 (by decide +kernel) ⟨Nat.le_of_ble_eq_true rfl, Nat.le_of_ble_eq_true rfl⟩ rfl rfl (Nat.le_of_ble_eq_true rfl) ddJ1_charAt_3b067_3 ⟨Nat.le_of_ble_eq_true rfl, Nat.le_of_ble_eq_true rfl⟩ (fun nw_3_9 l_3_10 H locs hw hO => ?_)
  obtain rfl := hw
  have hO : cO D cy A s.heap s 0 ad (cup [] g) _ _ := hO
  refine lv_aload_n hx hb ddJ1_charAt_3b067_6 rfl (lv_at hl 0 rfl) ?_
  refine lv_iload_n hx hb ddJ1_charAt_3b067_7 rfl (lv_at hl 1 rfl) ?_
  refine sg_bld hC hO 6 (by decide) (zi_in p_n (by decide)) ddJ1_charAt_3b067_8 (fun v_8_12 => ?_)
  refine lv_sipush (v := 255) hx hb ddJ1_charAt_3b067_9 (by decide) ?_
  refine lv_iand hx hb ddJ1_charAt_3b067_12 ?_
  refine zg_top (P := fun v => zi 0 255 v) (zi_and (zi_k (a := 0) (b := 255) (x := 255) rfl)) (fun v_12_13 z_12_14 => ?_)
  refine lv_i2c hx hb ddJ1_charAt_3b067_13 rfl ?_
  refine zg_top (P := fun v => zi 0 65535 v) (zi_i2c _) (fun v_13_15 z_13_16 => ?_)
  exact cg_iret (nw := fun _ => 0) hC hr hlk hO.same (zi_narC z_13_16) (Nat.le_of_ble_eq_true rfl) (Nat.le_of_ble_eq_true rfl) (⟨z_13_16, rfl⟩) ddJ1_charAt_3b067_14

def wq_k_charAt_6 : List Cond := Cond.code yJ0_charAt_5068e cJ0_charAt_5068e 2 (some .char) :: (([Cond.methodLink RJ0 492 yJ0_isLatin1_aae02, Cond.instanceMethod yJ0_isLatin1_aae02, Cond.selects RJ0 yJ0_isLatin1_aae02 yJ0_isLatin1_aae02, Cond.initialized RJ0, Cond.code yJ0_isLatin1_aae02 cJ0_isLatin1_aae02 1 (some .boolean), Cond.fieldLink RJ0 38 "java/lang/String" "COMPACT_STRINGS" "Z", Cond.fieldLink RJ0 15 "java/lang/String" "coder" "B", Cond.fieldLink RJ0 9 "java/lang/String" "value" "[B", Cond.methodLink RJ0 495 yJ1_charAt_3b067, Cond.static yJ1_charAt_3b067, Cond.initialized RJ1, Cond.code yJ1_charAt_3b067 cJ1_charAt_3b067 2 (some .char), Cond.methodLink RJ1 9 yJ0_checkIndex_df160, Cond.static yJ0_checkIndex_df160, Cond.code yJ0_checkIndex_df160 cJ0_checkIndex_df160 2 none, Cond.fieldLink RJ0 1053 "jdk/internal/util/Preconditions" "SIOOBE_FORMATTER" "Ljava/util/function/BiFunction;", Cond.methodLink RJ0 1059 yJ3_checkIndex_8e157, Cond.static yJ3_checkIndex_8e157, Cond.initialized RJ3, Cond.code yJ3_checkIndex_8e157 cJ3_checkIndex_8e157 3 (some .int)] : List Cond))
set_option maxRecDepth 20000 in
theorem gr_k_charAt_6_k_isLatin1_6 : GoodIn wq_k_charAt_6 wq_k_isLatin1_6 := List.forall_mem_cons.mpr ⟨⟨(List.mem_of_getElem? (i := 5) rfl), good_of_word rfl⟩, List.forall_mem_cons.mpr ⟨⟨(List.mem_of_getElem? (i := 6) rfl), good_of_word rfl⟩, List.forall_mem_cons.mpr ⟨⟨(List.mem_of_getElem? (i := 7) rfl), good_of_word rfl⟩, (fun _ h => absurd h List.not_mem_nil)⟩⟩⟩
set_option maxRecDepth 20000 in
theorem gq_k_charAt_6_k_isLatin1_6_492 : GoodIn wq_k_charAt_6 (wsV RJ0 492 RJ0 yJ0_isLatin1_aae02 wq_k_isLatin1_6) := goodIn_app (List.forall_mem_cons.mpr ⟨⟨(List.mem_of_getElem? (i := 1) rfl), good_of_word rfl⟩, List.forall_mem_cons.mpr ⟨⟨(List.mem_of_getElem? (i := 2) rfl), good_of_word rfl⟩, List.forall_mem_cons.mpr ⟨⟨(List.mem_of_getElem? (i := 3) rfl), good_of_word rfl⟩, List.forall_mem_cons.mpr ⟨⟨(List.mem_of_getElem? (i := 4) rfl), good_of_word rfl⟩, (fun _ h => absurd h List.not_mem_nil)⟩⟩⟩⟩) gr_k_charAt_6_k_isLatin1_6
set_option maxRecDepth 20000 in
theorem gr_k_charAt_6_k_lcharAt_6 : GoodIn wq_k_charAt_6 wq_k_lcharAt_6 := List.forall_mem_cons.mpr ⟨⟨(List.mem_of_getElem? (i := 12) rfl), good_of_word rfl⟩, List.forall_mem_cons.mpr ⟨⟨(List.mem_of_getElem? (i := 13) rfl), good_of_word rfl⟩, List.forall_mem_cons.mpr ⟨⟨(List.mem_of_getElem? (i := 14) rfl), good_of_word rfl⟩, List.forall_mem_cons.mpr ⟨⟨(List.mem_of_getElem? (i := 4) rfl), good_of_word rfl⟩, List.forall_mem_cons.mpr ⟨⟨(List.mem_of_getElem? (i := 15) rfl), good_of_word rfl⟩, List.forall_mem_cons.mpr ⟨⟨(List.mem_of_getElem? (i := 16) rfl), good_of_word rfl⟩, List.forall_mem_cons.mpr ⟨⟨(List.mem_of_getElem? (i := 17) rfl), good_of_word rfl⟩, List.forall_mem_cons.mpr ⟨⟨(List.mem_of_getElem? (i := 18) rfl), good_of_word rfl⟩, List.forall_mem_cons.mpr ⟨⟨(List.mem_of_getElem? (i := 19) rfl), good_of_word rfl⟩, List.forall_mem_cons.mpr ⟨⟨(List.mem_of_getElem? (i := 20) rfl), good_of_word rfl⟩, (fun _ h => absurd h List.not_mem_nil)⟩⟩⟩⟩⟩⟩⟩⟩⟩⟩
set_option maxRecDepth 20000 in
theorem gq_k_charAt_6_k_lcharAt_6_495 : GoodIn wq_k_charAt_6 (va_wsS RJ0 495 yJ1_charAt_3b067 wq_k_lcharAt_6) := goodIn_app (List.forall_mem_cons.mpr ⟨⟨(List.mem_of_getElem? (i := 9) rfl), good_of_word rfl⟩, List.forall_mem_cons.mpr ⟨⟨(List.mem_of_getElem? (i := 10) rfl), good_of_word rfl⟩, List.forall_mem_cons.mpr ⟨⟨(List.mem_of_getElem? (i := 11) rfl), good_of_word rfl⟩, (fun _ h => absurd h List.not_mem_nil)⟩⟩⟩) gr_k_charAt_6_k_lcharAt_6
set_option maxHeartbeats 8000000 in
set_option maxRecDepth 100000 in
theorem k_charAt_6 (l : Launch) (D : va_G) (cy : Nat → ClassId) (ad : Nat → Nat) (g : Nat → va_E) {n : Int32} (p_n : zi 0 4 n) : cMi l yJ0_charAt_5068e wq_k_charAt_6 { frames := 3, cells := 0, slots := 0, locals := 64 } 0 0 0 0 D cy ad g [.ref (cy (100 + 6)), .int n] (fun r nw lu => (zi 0 65535 r) ∧ (lu = [])) := by
  refine cM_of (Qc := fun A => cQi (fun r nw lu => (zi 0 65535 r) ∧ (lu = [])) D 0 0 ad g A) (cc := cJ0_charAt_5068e) (maxL := 2) (ret := (some .char)) (by decide) rfl (Nat.le_of_ble_eq_true rfl) ?_
  intro p e s m below meth c A hC hr hlk hnm hO ls hl
  have hC : CallFix p m c cJ0_charAt_5068e 2 s [.ref (cy (100 + 6)), .int n].toArray wq_k_charAt_6 RJ0 := hC
  obtain ⟨hx, hb, hml, hown, hts⟩ := id hC
  have hl : lv_has ls 2 [(0, .ref (cy (100 + 6))), (1, .int n)] := hl
  refine lv_aload_n hx hb ddJ0_charAt_5068e_0 rfl (lv_at hl 0 rfl) ?_
  refine sg_Vi (As := []) (rest := []) (mc := 0) (ms := 0) (rm := { frames := 0, cells := 0, slots := 0, locals := 0 }) hC hl.1 hO [] (by decide +kernel) 6 (by decide) (k_isLatin1_6 l D cy _ _  ) gq_k_charAt_6_k_isLatin1_6_492 rfl rfl rfl 0 (by decide +kernel) ⟨Nat.le_of_ble_eq_true rfl, Nat.le_of_ble_eq_true rfl⟩ rfl rfl (Nat.le_of_ble_eq_true rfl) ddJ0_charAt_5068e_1 ⟨Nat.le_of_ble_eq_true rfl, Nat.le_of_ble_eq_true rfl⟩ (fun r_1_10 nw_1_8 l_1_9 H locs hw hO => ?_)
  obtain ⟨rfl, rfl⟩ := hw
  have hO : cO D cy A s.heap s 0 ad (cup [] g) _ _ := hO
  refine lv_if_eq (tgt := 16) hx hb ddJ0_charAt_5068e_4 (by decide) (fun h => absurd h (by decide)) (fun _ => ?_)
  refine lv_aload_n hx hb ddJ0_charAt_5068e_7 rfl (lv_at hl 0 rfl) ?_
  refine sg_val hC hO 6 (by decide) (List.mem_of_getElem? (i := 8) rfl) ddJ0_charAt_5068e_8 ?_
  refine lv_iload_n hx hb ddJ0_charAt_5068e_11 rfl (lv_at hl 1 rfl) ?_
  refine cg_Si (As := [.ref (cy (200 + 6)), .int n]) (rest := []) (mc := 0) (ms := 0) (rm := { frames := 2, cells := 0, slots := 0, locals := 43 }) hC hl.1 hO [] (by decide +kernel) (k_lcharAt_6 l D cy _ _ (n := n) p_n) gq_k_charAt_6_k_lcharAt_6_495 rfl rfl rfl 2 (by decide +kernel) ⟨Nat.le_of_ble_eq_true rfl, Nat.le_of_ble_eq_true rfl⟩ rfl rfl (Nat.le_of_ble_eq_true rfl) ddJ0_charAt_5068e_12 ⟨Nat.le_of_ble_eq_true rfl, Nat.le_of_ble_eq_true rfl⟩ (fun r_12_13 nw_12_11 l_12_12 H locs hw hO => ?_)
  obtain ⟨z_12_14, rfl⟩ := hw
  have hO : cO D cy A s.heap s 0 ad (cup [] g) _ _ := hO
  exact cg_iret (nw := fun _ => 0) hC hr hlk hO.same (zi_narC z_12_14) (Nat.le_of_ble_eq_true rfl) (Nat.le_of_ble_eq_true rfl) (⟨z_12_14, rfl⟩) ddJ0_charAt_5068e_15

def wq_k_isLatin1_7 : List Cond := Cond.code yJ0_isLatin1_aae02 cJ0_isLatin1_aae02 1 (some .boolean) :: (([Cond.fieldLink RJ0 38 "java/lang/String" "COMPACT_STRINGS" "Z", Cond.fieldLink RJ0 15 "java/lang/String" "coder" "B"] : List Cond))
set_option maxHeartbeats 8000000 in
set_option maxRecDepth 100000 in
theorem k_isLatin1_7 (l : Launch) (D : va_G) (cy : Nat → ClassId) (ad : Nat → Nat) (g : Nat → va_E)   : cMi l yJ0_isLatin1_aae02 wq_k_isLatin1_7 { frames := 0, cells := 0, slots := 0, locals := 0 } 0 0 0 0 D cy ad g [.ref (cy (100 + 7))] (fun r nw lu => (r = 1) ∧ (lu = [])) := by
  refine cM_of (Qc := fun A => cQi (fun r nw lu => (r = 1) ∧ (lu = [])) D 0 0 ad g A) (cc := cJ0_isLatin1_aae02) (maxL := 1) (ret := (some .boolean)) (by decide) rfl (Nat.le_of_ble_eq_true rfl) ?_
  intro p e s m below meth c A hC hr hlk hnm hO ls hl
  have hC : CallFix p m c cJ0_isLatin1_aae02 1 s [.ref (cy (100 + 7))].toArray wq_k_isLatin1_7 RJ0 := hC
  obtain ⟨hx, hb, hml, hown, hts⟩ := id hC
  have hl : lv_has ls 1 [(0, .ref (cy (100 + 7)))] := hl
  refine sg_com hC hO (List.mem_of_getElem? (i := 1) rfl) ddJ0_isLatin1_aae02_0 ?_
  refine lv_if_eq (tgt := 17) hx hb ddJ0_isLatin1_aae02_3 (by decide) (fun h => absurd h (by decide)) (fun _ => ?_)
  refine lv_aload_n hx hb ddJ0_isLatin1_aae02_6 rfl (lv_at hl 0 rfl) ?_
  refine sg_cod hC hO 7 (by decide) (List.mem_of_getElem? (i := 2) rfl) ddJ0_isLatin1_aae02_7 ?_
  refine lv_if_ne (tgt := 17) hx hb ddJ0_isLatin1_aae02_10 (by decide) (fun h => absurd h (by decide)) (fun _ => ?_)
  refine lv_iconst (v := 1) hx hb ddJ0_isLatin1_aae02_13 (by decide) ?_
  refine lv_goto (tgt := 18) hx hb ddJ0_isLatin1_aae02_14 (by decide) ?_
  exact cg_iret (nw := fun _ => 0) hC hr hlk hO.same rfl (Nat.le_of_ble_eq_true rfl) (Nat.le_of_ble_eq_true rfl) (⟨rfl, rfl⟩) ddJ0_isLatin1_aae02_18

def wq_k_lcharAt_7 : List Cond := Cond.code yJ1_charAt_3b067 cJ1_charAt_3b067 2 (some .char) :: (([Cond.methodLink RJ1 9 yJ0_checkIndex_df160, Cond.static yJ0_checkIndex_df160, Cond.initialized RJ0, Cond.code yJ0_checkIndex_df160 cJ0_checkIndex_df160 2 none, Cond.fieldLink RJ0 1053 "jdk/internal/util/Preconditions" "SIOOBE_FORMATTER" "Ljava/util/function/BiFunction;", Cond.methodLink RJ0 1059 yJ3_checkIndex_8e157, Cond.static yJ3_checkIndex_8e157, Cond.initialized RJ3, Cond.code yJ3_checkIndex_8e157 cJ3_checkIndex_8e157 3 (some .int)] : List Cond))
set_option maxRecDepth 20000 in
theorem gr_k_lcharAt_7_k_checkIndex0_2 : GoodIn wq_k_lcharAt_7 wq_k_checkIndex0_2 := List.forall_mem_cons.mpr ⟨⟨(List.mem_of_getElem? (i := 4) rfl), good_of_word rfl⟩, List.forall_mem_cons.mpr ⟨⟨(List.mem_of_getElem? (i := 5) rfl), good_of_word rfl⟩, List.forall_mem_cons.mpr ⟨⟨(List.mem_of_getElem? (i := 6) rfl), good_of_word rfl⟩, List.forall_mem_cons.mpr ⟨⟨(List.mem_of_getElem? (i := 7) rfl), good_of_word rfl⟩, List.forall_mem_cons.mpr ⟨⟨(List.mem_of_getElem? (i := 8) rfl), good_of_word rfl⟩, List.forall_mem_cons.mpr ⟨⟨(List.mem_of_getElem? (i := 9) rfl), good_of_word rfl⟩, (fun _ h => absurd h List.not_mem_nil)⟩⟩⟩⟩⟩⟩
set_option maxRecDepth 20000 in
theorem gq_k_lcharAt_7_k_checkIndex0_2_9 : GoodIn wq_k_lcharAt_7 (va_wsS RJ1 9 yJ0_checkIndex_df160 wq_k_checkIndex0_2) := goodIn_app (List.forall_mem_cons.mpr ⟨⟨(List.mem_of_getElem? (i := 1) rfl), good_of_word rfl⟩, List.forall_mem_cons.mpr ⟨⟨(List.mem_of_getElem? (i := 2) rfl), good_of_word rfl⟩, List.forall_mem_cons.mpr ⟨⟨(List.mem_of_getElem? (i := 3) rfl), good_of_word rfl⟩, (fun _ h => absurd h List.not_mem_nil)⟩⟩⟩) gr_k_lcharAt_7_k_checkIndex0_2
set_option maxHeartbeats 8000000 in
set_option maxRecDepth 100000 in
theorem k_lcharAt_7 (l : Launch) (D : va_G) (cy : Nat → ClassId) (ad : Nat → Nat) (g : Nat → va_E) {n : Int32} (p_n : zi 0 1 n) : cMi l yJ1_charAt_3b067 wq_k_lcharAt_7 { frames := 2, cells := 0, slots := 0, locals := 43 } 0 0 0 0 D cy ad g [.ref (cy (200 + 7)), .int n] (fun r nw lu => (zi 0 65535 r) ∧ (lu = [])) := by
  refine cM_of (Qc := fun A => cQi (fun r nw lu => (zi 0 65535 r) ∧ (lu = [])) D 0 0 ad g A) (cc := cJ1_charAt_3b067) (maxL := 2) (ret := (some .char)) (by decide) rfl (Nat.le_of_ble_eq_true rfl) ?_
  intro p e s m below meth c A hC hr hlk hnm hO ls hl
  have hC : CallFix p m c cJ1_charAt_3b067 2 s [.ref (cy (200 + 7)), .int n].toArray wq_k_lcharAt_7 RJ1 := hC
  obtain ⟨hx, hb, hml, hown, hts⟩ := id hC
  have hl : lv_has ls 2 [(0, .ref (cy (200 + 7))), (1, .int n)] := hl
  refine lv_iload_n hx hb ddJ1_charAt_3b067_0 rfl (lv_at hl 1 rfl) ?_
  refine lv_aload_n hx hb ddJ1_charAt_3b067_1 rfl (lv_at hl 0 rfl) ?_
  refine sg_len hC hO 7 (by decide) (v := 2) rfl ddJ1_charAt_3b067_2 ?_
  refine cg_Sv (As := [.int n, .int 2]) (rest := []) (mc := 0) (ms := 0) (rm := { frames := 1, cells := 0, slots := 0, locals := 22 }) hC hl.1 hO [] (by decide +kernel) (k_checkIndex0_2 l D cy _ _ (n := n) p_n) gq_k_lcharAt_7_k_checkIndex0_2_9 rfl rfl rfl 2 (by decide +kernel) ⟨Nat.le_of_ble_eq_true rfl, Nat.le_of_ble_eq_true rfl⟩ rfl rfl (Nat.le_of_ble_eq_true rfl) ddJ1_charAt_3b067_3 ⟨Nat.le_of_ble_eq_true rfl, Nat.le_of_ble_eq_true rfl⟩ (fun nw_3_9 l_3_10 H locs hw hO => ?_)
  obtain rfl := hw
  have hO : cO D cy A s.heap s 0 ad (cup [] g) _ _ := hO
  refine lv_aload_n hx hb ddJ1_charAt_3b067_6 rfl (lv_at hl 0 rfl) ?_
  refine lv_iload_n hx hb ddJ1_charAt_3b067_7 rfl (lv_at hl 1 rfl) ?_
  refine sg_bld hC hO 7 (by decide) (zi_in p_n (by decide)) ddJ1_charAt_3b067_8 (fun v_8_12 => ?_)
  refine lv_sipush (v := 255) hx hb ddJ1_charAt_3b067_9 (by decide) ?_
  refine lv_iand hx hb ddJ1_charAt_3b067_12 ?_
  refine zg_top (P := fun v => zi 0 255 v) (zi_and (zi_k (a := 0) (b := 255) (x := 255) rfl)) (fun v_12_13 z_12_14 => ?_)
  refine lv_i2c hx hb ddJ1_charAt_3b067_13 rfl ?_
  refine zg_top (P := fun v => zi 0 65535 v) (zi_i2c _) (fun v_13_15 z_13_16 => ?_)
  exact cg_iret (nw := fun _ => 0) hC hr hlk hO.same (zi_narC z_13_16) (Nat.le_of_ble_eq_true rfl) (Nat.le_of_ble_eq_true rfl) (⟨z_13_16, rfl⟩) ddJ1_charAt_3b067_14

def wq_k_charAt_7 : List Cond := Cond.code yJ0_charAt_5068e cJ0_charAt_5068e 2 (some .char) :: (([Cond.methodLink RJ0 492 yJ0_isLatin1_aae02, Cond.instanceMethod yJ0_isLatin1_aae02, Cond.selects RJ0 yJ0_isLatin1_aae02 yJ0_isLatin1_aae02, Cond.initialized RJ0, Cond.code yJ0_isLatin1_aae02 cJ0_isLatin1_aae02 1 (some .boolean), Cond.fieldLink RJ0 38 "java/lang/String" "COMPACT_STRINGS" "Z", Cond.fieldLink RJ0 15 "java/lang/String" "coder" "B", Cond.fieldLink RJ0 9 "java/lang/String" "value" "[B", Cond.methodLink RJ0 495 yJ1_charAt_3b067, Cond.static yJ1_charAt_3b067, Cond.initialized RJ1, Cond.code yJ1_charAt_3b067 cJ1_charAt_3b067 2 (some .char), Cond.methodLink RJ1 9 yJ0_checkIndex_df160, Cond.static yJ0_checkIndex_df160, Cond.code yJ0_checkIndex_df160 cJ0_checkIndex_df160 2 none, Cond.fieldLink RJ0 1053 "jdk/internal/util/Preconditions" "SIOOBE_FORMATTER" "Ljava/util/function/BiFunction;", Cond.methodLink RJ0 1059 yJ3_checkIndex_8e157, Cond.static yJ3_checkIndex_8e157, Cond.initialized RJ3, Cond.code yJ3_checkIndex_8e157 cJ3_checkIndex_8e157 3 (some .int)] : List Cond))
set_option maxRecDepth 20000 in
theorem gr_k_charAt_7_k_isLatin1_7 : GoodIn wq_k_charAt_7 wq_k_isLatin1_7 := List.forall_mem_cons.mpr ⟨⟨(List.mem_of_getElem? (i := 5) rfl), good_of_word rfl⟩, List.forall_mem_cons.mpr ⟨⟨(List.mem_of_getElem? (i := 6) rfl), good_of_word rfl⟩, List.forall_mem_cons.mpr ⟨⟨(List.mem_of_getElem? (i := 7) rfl), good_of_word rfl⟩, (fun _ h => absurd h List.not_mem_nil)⟩⟩⟩
set_option maxRecDepth 20000 in
theorem gq_k_charAt_7_k_isLatin1_7_492 : GoodIn wq_k_charAt_7 (wsV RJ0 492 RJ0 yJ0_isLatin1_aae02 wq_k_isLatin1_7) := goodIn_app (List.forall_mem_cons.mpr ⟨⟨(List.mem_of_getElem? (i := 1) rfl), good_of_word rfl⟩, List.forall_mem_cons.mpr ⟨⟨(List.mem_of_getElem? (i := 2) rfl), good_of_word rfl⟩, List.forall_mem_cons.mpr ⟨⟨(List.mem_of_getElem? (i := 3) rfl), good_of_word rfl⟩, List.forall_mem_cons.mpr ⟨⟨(List.mem_of_getElem? (i := 4) rfl), good_of_word rfl⟩, (fun _ h => absurd h List.not_mem_nil)⟩⟩⟩⟩) gr_k_charAt_7_k_isLatin1_7
set_option maxRecDepth 20000 in
theorem gr_k_charAt_7_k_lcharAt_7 : GoodIn wq_k_charAt_7 wq_k_lcharAt_7 := List.forall_mem_cons.mpr ⟨⟨(List.mem_of_getElem? (i := 12) rfl), good_of_word rfl⟩, List.forall_mem_cons.mpr ⟨⟨(List.mem_of_getElem? (i := 13) rfl), good_of_word rfl⟩, List.forall_mem_cons.mpr ⟨⟨(List.mem_of_getElem? (i := 14) rfl), good_of_word rfl⟩, List.forall_mem_cons.mpr ⟨⟨(List.mem_of_getElem? (i := 4) rfl), good_of_word rfl⟩, List.forall_mem_cons.mpr ⟨⟨(List.mem_of_getElem? (i := 15) rfl), good_of_word rfl⟩, List.forall_mem_cons.mpr ⟨⟨(List.mem_of_getElem? (i := 16) rfl), good_of_word rfl⟩, List.forall_mem_cons.mpr ⟨⟨(List.mem_of_getElem? (i := 17) rfl), good_of_word rfl⟩, List.forall_mem_cons.mpr ⟨⟨(List.mem_of_getElem? (i := 18) rfl), good_of_word rfl⟩, List.forall_mem_cons.mpr ⟨⟨(List.mem_of_getElem? (i := 19) rfl), good_of_word rfl⟩, List.forall_mem_cons.mpr ⟨⟨(List.mem_of_getElem? (i := 20) rfl), good_of_word rfl⟩, (fun _ h => absurd h List.not_mem_nil)⟩⟩⟩⟩⟩⟩⟩⟩⟩⟩
set_option maxRecDepth 20000 in
theorem gq_k_charAt_7_k_lcharAt_7_495 : GoodIn wq_k_charAt_7 (va_wsS RJ0 495 yJ1_charAt_3b067 wq_k_lcharAt_7) := goodIn_app (List.forall_mem_cons.mpr ⟨⟨(List.mem_of_getElem? (i := 9) rfl), good_of_word rfl⟩, List.forall_mem_cons.mpr ⟨⟨(List.mem_of_getElem? (i := 10) rfl), good_of_word rfl⟩, List.forall_mem_cons.mpr ⟨⟨(List.mem_of_getElem? (i := 11) rfl), good_of_word rfl⟩, (fun _ h => absurd h List.not_mem_nil)⟩⟩⟩) gr_k_charAt_7_k_lcharAt_7
set_option maxHeartbeats 8000000 in
set_option maxRecDepth 100000 in
theorem k_charAt_7 (l : Launch) (D : va_G) (cy : Nat → ClassId) (ad : Nat → Nat) (g : Nat → va_E) {n : Int32} (p_n : zi 0 1 n) : cMi l yJ0_charAt_5068e wq_k_charAt_7 { frames := 3, cells := 0, slots := 0, locals := 64 } 0 0 0 0 D cy ad g [.ref (cy (100 + 7)), .int n] (fun r nw lu => (zi 0 65535 r) ∧ (lu = [])) := by
  refine cM_of (Qc := fun A => cQi (fun r nw lu => (zi 0 65535 r) ∧ (lu = [])) D 0 0 ad g A) (cc := cJ0_charAt_5068e) (maxL := 2) (ret := (some .char)) (by decide) rfl (Nat.le_of_ble_eq_true rfl) ?_
  intro p e s m below meth c A hC hr hlk hnm hO ls hl
  have hC : CallFix p m c cJ0_charAt_5068e 2 s [.ref (cy (100 + 7)), .int n].toArray wq_k_charAt_7 RJ0 := hC
  obtain ⟨hx, hb, hml, hown, hts⟩ := id hC
  have hl : lv_has ls 2 [(0, .ref (cy (100 + 7))), (1, .int n)] := hl
  refine lv_aload_n hx hb ddJ0_charAt_5068e_0 rfl (lv_at hl 0 rfl) ?_
  refine sg_Vi (As := []) (rest := []) (mc := 0) (ms := 0) (rm := { frames := 0, cells := 0, slots := 0, locals := 0 }) hC hl.1 hO [] (by decide +kernel) 7 (by decide) (k_isLatin1_7 l D cy _ _  ) gq_k_charAt_7_k_isLatin1_7_492 rfl rfl rfl 0 (by decide +kernel) ⟨Nat.le_of_ble_eq_true rfl, Nat.le_of_ble_eq_true rfl⟩ rfl rfl (Nat.le_of_ble_eq_true rfl) ddJ0_charAt_5068e_1 ⟨Nat.le_of_ble_eq_true rfl, Nat.le_of_ble_eq_true rfl⟩ (fun r_1_10 nw_1_8 l_1_9 H locs hw hO => ?_)
  obtain ⟨rfl, rfl⟩ := hw
  have hO : cO D cy A s.heap s 0 ad (cup [] g) _ _ := hO
  refine lv_if_eq (tgt := 16) hx hb ddJ0_charAt_5068e_4 (by decide) (fun h => absurd h (by decide)) (fun _ => ?_)
  refine lv_aload_n hx hb ddJ0_charAt_5068e_7 rfl (lv_at hl 0 rfl) ?_
  refine sg_val hC hO 7 (by decide) (List.mem_of_getElem? (i := 8) rfl) ddJ0_charAt_5068e_8 ?_
  refine lv_iload_n hx hb ddJ0_charAt_5068e_11 rfl (lv_at hl 1 rfl) ?_
  refine cg_Si (As := [.ref (cy (200 + 7)), .int n]) (rest := []) (mc := 0) (ms := 0) (rm := { frames := 2, cells := 0, slots := 0, locals := 43 }) hC hl.1 hO [] (by decide +kernel) (k_lcharAt_7 l D cy _ _ (n := n) p_n) gq_k_charAt_7_k_lcharAt_7_495 rfl rfl rfl 2 (by decide +kernel) ⟨Nat.le_of_ble_eq_true rfl, Nat.le_of_ble_eq_true rfl⟩ rfl rfl (Nat.le_of_ble_eq_true rfl) ddJ0_charAt_5068e_12 ⟨Nat.le_of_ble_eq_true rfl, Nat.le_of_ble_eq_true rfl⟩ (fun r_12_13 nw_12_11 l_12_12 H locs hw hO => ?_)
  obtain ⟨z_12_14, rfl⟩ := hw
  have hO : cO D cy A s.heap s 0 ad (cup [] g) _ _ := hO
  exact cg_iret (nw := fun _ => 0) hC hr hlk hO.same (zi_narC z_12_14) (Nat.le_of_ble_eq_true rfl) (Nat.le_of_ble_eq_true rfl) (⟨z_12_14, rfl⟩) ddJ0_charAt_5068e_15

def wq_k_isLatin1_8 : List Cond := Cond.code yJ0_isLatin1_aae02 cJ0_isLatin1_aae02 1 (some .boolean) :: (([Cond.fieldLink RJ0 38 "java/lang/String" "COMPACT_STRINGS" "Z", Cond.fieldLink RJ0 15 "java/lang/String" "coder" "B"] : List Cond))
set_option maxHeartbeats 8000000 in
set_option maxRecDepth 100000 in
theorem k_isLatin1_8 (l : Launch) (D : va_G) (cy : Nat → ClassId) (ad : Nat → Nat) (g : Nat → va_E)   : cMi l yJ0_isLatin1_aae02 wq_k_isLatin1_8 { frames := 0, cells := 0, slots := 0, locals := 0 } 0 0 0 0 D cy ad g [.ref (cy (100 + 8))] (fun r nw lu => (r = 1) ∧ (lu = [])) := by
  refine cM_of (Qc := fun A => cQi (fun r nw lu => (r = 1) ∧ (lu = [])) D 0 0 ad g A) (cc := cJ0_isLatin1_aae02) (maxL := 1) (ret := (some .boolean)) (by decide) rfl (Nat.le_of_ble_eq_true rfl) ?_
  intro p e s m below meth c A hC hr hlk hnm hO ls hl
  have hC : CallFix p m c cJ0_isLatin1_aae02 1 s [.ref (cy (100 + 8))].toArray wq_k_isLatin1_8 RJ0 := hC
  obtain ⟨hx, hb, hml, hown, hts⟩ := id hC
  have hl : lv_has ls 1 [(0, .ref (cy (100 + 8)))] := hl
  refine sg_com hC hO (List.mem_of_getElem? (i := 1) rfl) ddJ0_isLatin1_aae02_0 ?_
  refine lv_if_eq (tgt := 17) hx hb ddJ0_isLatin1_aae02_3 (by decide) (fun h => absurd h (by decide)) (fun _ => ?_)
  refine lv_aload_n hx hb ddJ0_isLatin1_aae02_6 rfl (lv_at hl 0 rfl) ?_
  refine sg_cod hC hO 8 (by decide) (List.mem_of_getElem? (i := 2) rfl) ddJ0_isLatin1_aae02_7 ?_
  refine lv_if_ne (tgt := 17) hx hb ddJ0_isLatin1_aae02_10 (by decide) (fun h => absurd h (by decide)) (fun _ => ?_)
  refine lv_iconst (v := 1) hx hb ddJ0_isLatin1_aae02_13 (by decide) ?_
  refine lv_goto (tgt := 18) hx hb ddJ0_isLatin1_aae02_14 (by decide) ?_
  exact cg_iret (nw := fun _ => 0) hC hr hlk hO.same rfl (Nat.le_of_ble_eq_true rfl) (Nat.le_of_ble_eq_true rfl) (⟨rfl, rfl⟩) ddJ0_isLatin1_aae02_18

def wq_k_lcharAt_8 : List Cond := Cond.code yJ1_charAt_3b067 cJ1_charAt_3b067 2 (some .char) :: (([Cond.methodLink RJ1 9 yJ0_checkIndex_df160, Cond.static yJ0_checkIndex_df160, Cond.initialized RJ0, Cond.code yJ0_checkIndex_df160 cJ0_checkIndex_df160 2 none, Cond.fieldLink RJ0 1053 "jdk/internal/util/Preconditions" "SIOOBE_FORMATTER" "Ljava/util/function/BiFunction;", Cond.methodLink RJ0 1059 yJ3_checkIndex_8e157, Cond.static yJ3_checkIndex_8e157, Cond.initialized RJ3, Cond.code yJ3_checkIndex_8e157 cJ3_checkIndex_8e157 3 (some .int)] : List Cond))
set_option maxRecDepth 20000 in
theorem gr_k_lcharAt_8_k_checkIndex0_4 : GoodIn wq_k_lcharAt_8 wq_k_checkIndex0_4 := List.forall_mem_cons.mpr ⟨⟨(List.mem_of_getElem? (i := 4) rfl), good_of_word rfl⟩, List.forall_mem_cons.mpr ⟨⟨(List.mem_of_getElem? (i := 5) rfl), good_of_word rfl⟩, List.forall_mem_cons.mpr ⟨⟨(List.mem_of_getElem? (i := 6) rfl), good_of_word rfl⟩, List.forall_mem_cons.mpr ⟨⟨(List.mem_of_getElem? (i := 7) rfl), good_of_word rfl⟩, List.forall_mem_cons.mpr ⟨⟨(List.mem_of_getElem? (i := 8) rfl), good_of_word rfl⟩, List.forall_mem_cons.mpr ⟨⟨(List.mem_of_getElem? (i := 9) rfl), good_of_word rfl⟩, (fun _ h => absurd h List.not_mem_nil)⟩⟩⟩⟩⟩⟩
set_option maxRecDepth 20000 in
theorem gq_k_lcharAt_8_k_checkIndex0_4_9 : GoodIn wq_k_lcharAt_8 (va_wsS RJ1 9 yJ0_checkIndex_df160 wq_k_checkIndex0_4) := goodIn_app (List.forall_mem_cons.mpr ⟨⟨(List.mem_of_getElem? (i := 1) rfl), good_of_word rfl⟩, List.forall_mem_cons.mpr ⟨⟨(List.mem_of_getElem? (i := 2) rfl), good_of_word rfl⟩, List.forall_mem_cons.mpr ⟨⟨(List.mem_of_getElem? (i := 3) rfl), good_of_word rfl⟩, (fun _ h => absurd h List.not_mem_nil)⟩⟩⟩) gr_k_lcharAt_8_k_checkIndex0_4
set_option maxHeartbeats 8000000 in
set_option maxRecDepth 100000 in
theorem k_lcharAt_8 (l : Launch) (D : va_G) (cy : Nat → ClassId) (ad : Nat → Nat) (g : Nat → va_E) {n : Int32} (p_n : zi 0 3 n) : cMi l yJ1_charAt_3b067 wq_k_lcharAt_8 { frames := 2, cells := 0, slots := 0, locals := 43 } 0 0 0 0 D cy ad g [.ref (cy (200 + 8)), .int n] (fun r nw lu => (zi 0 65535 r) ∧ (lu = [])) := by
  refine cM_of (Qc := fun A => cQi (fun r nw lu => (zi 0 65535 r) ∧ (lu = [])) D 0 0 ad g A) (cc := cJ1_charAt_3b067) (maxL := 2) (ret := (some .char)) (by decide) rfl (Nat.le_of_ble_eq_true rfl) ?_
  intro p e s m below meth c A hC hr hlk hnm hO ls hl
  have hC : CallFix p m c cJ1_charAt_3b067 2 s [.ref (cy (200 + 8)), .int n].toArray wq_k_lcharAt_8 RJ1 := hC
  obtain ⟨hx, hb, hml, hown, hts⟩ := id hC
  have hl : lv_has ls 2 [(0, .ref (cy (200 + 8))), (1, .int n)] := hl
  refine lv_iload_n hx hb ddJ1_charAt_3b067_0 rfl (lv_at hl 1 rfl) ?_
  refine lv_aload_n hx hb ddJ1_charAt_3b067_1 rfl (lv_at hl 0 rfl) ?_
  refine sg_len hC hO 8 (by decide) (v := 4) rfl ddJ1_charAt_3b067_2 ?_
  refine cg_Sv (As := [.int n, .int 4]) (rest := []) (mc := 0) (ms := 0) (rm := { frames := 1, cells := 0, slots := 0, locals := 22 }) hC hl.1 hO [] (by decide +kernel) (k_checkIndex0_4 l D cy _ _ (n := n) p_n) gq_k_lcharAt_8_k_checkIndex0_4_9 rfl rfl rfl 2 (by decide +kernel) ⟨Nat.le_of_ble_eq_true rfl, Nat.le_of_ble_eq_true rfl⟩ rfl rfl (Nat.le_of_ble_eq_true rfl) ddJ1_charAt_3b067_3 ⟨Nat.le_of_ble_eq_true rfl, Nat.le_of_ble_eq_true rfl⟩ (fun nw_3_9 l_3_10 H locs hw hO => ?_)
  obtain rfl := hw
  have hO : cO D cy A s.heap s 0 ad (cup [] g) _ _ := hO
  refine lv_aload_n hx hb ddJ1_charAt_3b067_6 rfl (lv_at hl 0 rfl) ?_
  refine lv_iload_n hx hb ddJ1_charAt_3b067_7 rfl (lv_at hl 1 rfl) ?_
  refine sg_bld hC hO 8 (by decide) (zi_in p_n (by decide)) ddJ1_charAt_3b067_8 (fun v_8_12 => ?_)
  refine lv_sipush (v := 255) hx hb ddJ1_charAt_3b067_9 (by decide) ?_
  refine lv_iand hx hb ddJ1_charAt_3b067_12 ?_
  refine zg_top (P := fun v => zi 0 255 v) (zi_and (zi_k (a := 0) (b := 255) (x := 255) rfl)) (fun v_12_13 z_12_14 => ?_)
  refine lv_i2c hx hb ddJ1_charAt_3b067_13 rfl ?_
  refine zg_top (P := fun v => zi 0 65535 v) (zi_i2c _) (fun v_13_15 z_13_16 => ?_)
  exact cg_iret (nw := fun _ => 0) hC hr hlk hO.same (zi_narC z_13_16) (Nat.le_of_ble_eq_true rfl) (Nat.le_of_ble_eq_true rfl) (⟨z_13_16, rfl⟩) ddJ1_charAt_3b067_14

def wq_k_charAt_8 : List Cond := Cond.code yJ0_charAt_5068e cJ0_charAt_5068e 2 (some .char) :: (([Cond.methodLink RJ0 492 yJ0_isLatin1_aae02, Cond.instanceMethod yJ0_isLatin1_aae02, Cond.selects RJ0 yJ0_isLatin1_aae02 yJ0_isLatin1_aae02, Cond.initialized RJ0, Cond.code yJ0_isLatin1_aae02 cJ0_isLatin1_aae02 1 (some .boolean), Cond.fieldLink RJ0 38 "java/lang/String" "COMPACT_STRINGS" "Z", Cond.fieldLink RJ0 15 "java/lang/String" "coder" "B", Cond.fieldLink RJ0 9 "java/lang/String" "value" "[B", Cond.methodLink RJ0 495 yJ1_charAt_3b067, Cond.static yJ1_charAt_3b067, Cond.initialized RJ1, Cond.code yJ1_charAt_3b067 cJ1_charAt_3b067 2 (some .char), Cond.methodLink RJ1 9 yJ0_checkIndex_df160, Cond.static yJ0_checkIndex_df160, Cond.code yJ0_checkIndex_df160 cJ0_checkIndex_df160 2 none, Cond.fieldLink RJ0 1053 "jdk/internal/util/Preconditions" "SIOOBE_FORMATTER" "Ljava/util/function/BiFunction;", Cond.methodLink RJ0 1059 yJ3_checkIndex_8e157, Cond.static yJ3_checkIndex_8e157, Cond.initialized RJ3, Cond.code yJ3_checkIndex_8e157 cJ3_checkIndex_8e157 3 (some .int)] : List Cond))
set_option maxRecDepth 20000 in
theorem gr_k_charAt_8_k_isLatin1_8 : GoodIn wq_k_charAt_8 wq_k_isLatin1_8 := List.forall_mem_cons.mpr ⟨⟨(List.mem_of_getElem? (i := 5) rfl), good_of_word rfl⟩, List.forall_mem_cons.mpr ⟨⟨(List.mem_of_getElem? (i := 6) rfl), good_of_word rfl⟩, List.forall_mem_cons.mpr ⟨⟨(List.mem_of_getElem? (i := 7) rfl), good_of_word rfl⟩, (fun _ h => absurd h List.not_mem_nil)⟩⟩⟩
set_option maxRecDepth 20000 in
theorem gq_k_charAt_8_k_isLatin1_8_492 : GoodIn wq_k_charAt_8 (wsV RJ0 492 RJ0 yJ0_isLatin1_aae02 wq_k_isLatin1_8) := goodIn_app (List.forall_mem_cons.mpr ⟨⟨(List.mem_of_getElem? (i := 1) rfl), good_of_word rfl⟩, List.forall_mem_cons.mpr ⟨⟨(List.mem_of_getElem? (i := 2) rfl), good_of_word rfl⟩, List.forall_mem_cons.mpr ⟨⟨(List.mem_of_getElem? (i := 3) rfl), good_of_word rfl⟩, List.forall_mem_cons.mpr ⟨⟨(List.mem_of_getElem? (i := 4) rfl), good_of_word rfl⟩, (fun _ h => absurd h List.not_mem_nil)⟩⟩⟩⟩) gr_k_charAt_8_k_isLatin1_8
set_option maxRecDepth 20000 in
theorem gr_k_charAt_8_k_lcharAt_8 : GoodIn wq_k_charAt_8 wq_k_lcharAt_8 := List.forall_mem_cons.mpr ⟨⟨(List.mem_of_getElem? (i := 12) rfl), good_of_word rfl⟩, List.forall_mem_cons.mpr ⟨⟨(List.mem_of_getElem? (i := 13) rfl), good_of_word rfl⟩, List.forall_mem_cons.mpr ⟨⟨(List.mem_of_getElem? (i := 14) rfl), good_of_word rfl⟩, List.forall_mem_cons.mpr ⟨⟨(List.mem_of_getElem? (i := 4) rfl), good_of_word rfl⟩, List.forall_mem_cons.mpr ⟨⟨(List.mem_of_getElem? (i := 15) rfl), good_of_word rfl⟩, List.forall_mem_cons.mpr ⟨⟨(List.mem_of_getElem? (i := 16) rfl), good_of_word rfl⟩, List.forall_mem_cons.mpr ⟨⟨(List.mem_of_getElem? (i := 17) rfl), good_of_word rfl⟩, List.forall_mem_cons.mpr ⟨⟨(List.mem_of_getElem? (i := 18) rfl), good_of_word rfl⟩, List.forall_mem_cons.mpr ⟨⟨(List.mem_of_getElem? (i := 19) rfl), good_of_word rfl⟩, List.forall_mem_cons.mpr ⟨⟨(List.mem_of_getElem? (i := 20) rfl), good_of_word rfl⟩, (fun _ h => absurd h List.not_mem_nil)⟩⟩⟩⟩⟩⟩⟩⟩⟩⟩
set_option maxRecDepth 20000 in
theorem gq_k_charAt_8_k_lcharAt_8_495 : GoodIn wq_k_charAt_8 (va_wsS RJ0 495 yJ1_charAt_3b067 wq_k_lcharAt_8) := goodIn_app (List.forall_mem_cons.mpr ⟨⟨(List.mem_of_getElem? (i := 9) rfl), good_of_word rfl⟩, List.forall_mem_cons.mpr ⟨⟨(List.mem_of_getElem? (i := 10) rfl), good_of_word rfl⟩, List.forall_mem_cons.mpr ⟨⟨(List.mem_of_getElem? (i := 11) rfl), good_of_word rfl⟩, (fun _ h => absurd h List.not_mem_nil)⟩⟩⟩) gr_k_charAt_8_k_lcharAt_8
set_option maxHeartbeats 8000000 in
set_option maxRecDepth 100000 in
theorem k_charAt_8 (l : Launch) (D : va_G) (cy : Nat → ClassId) (ad : Nat → Nat) (g : Nat → va_E) {n : Int32} (p_n : zi 0 3 n) : cMi l yJ0_charAt_5068e wq_k_charAt_8 { frames := 3, cells := 0, slots := 0, locals := 64 } 0 0 0 0 D cy ad g [.ref (cy (100 + 8)), .int n] (fun r nw lu => (zi 0 65535 r) ∧ (lu = [])) := by
  refine cM_of (Qc := fun A => cQi (fun r nw lu => (zi 0 65535 r) ∧ (lu = [])) D 0 0 ad g A) (cc := cJ0_charAt_5068e) (maxL := 2) (ret := (some .char)) (by decide) rfl (Nat.le_of_ble_eq_true rfl) ?_
  intro p e s m below meth c A hC hr hlk hnm hO ls hl
  have hC : CallFix p m c cJ0_charAt_5068e 2 s [.ref (cy (100 + 8)), .int n].toArray wq_k_charAt_8 RJ0 := hC
  obtain ⟨hx, hb, hml, hown, hts⟩ := id hC
  have hl : lv_has ls 2 [(0, .ref (cy (100 + 8))), (1, .int n)] := hl
  refine lv_aload_n hx hb ddJ0_charAt_5068e_0 rfl (lv_at hl 0 rfl) ?_
  refine sg_Vi (As := []) (rest := []) (mc := 0) (ms := 0) (rm := { frames := 0, cells := 0, slots := 0, locals := 0 }) hC hl.1 hO [] (by decide +kernel) 8 (by decide) (k_isLatin1_8 l D cy _ _  ) gq_k_charAt_8_k_isLatin1_8_492 rfl rfl rfl 0 (by decide +kernel) ⟨Nat.le_of_ble_eq_true rfl, Nat.le_of_ble_eq_true rfl⟩ rfl rfl (Nat.le_of_ble_eq_true rfl) ddJ0_charAt_5068e_1 ⟨Nat.le_of_ble_eq_true rfl, Nat.le_of_ble_eq_true rfl⟩ (fun r_1_10 nw_1_8 l_1_9 H locs hw hO => ?_)
  obtain ⟨rfl, rfl⟩ := hw
  have hO : cO D cy A s.heap s 0 ad (cup [] g) _ _ := hO
  refine lv_if_eq (tgt := 16) hx hb ddJ0_charAt_5068e_4 (by decide) (fun h => absurd h (by decide)) (fun _ => ?_)
  refine lv_aload_n hx hb ddJ0_charAt_5068e_7 rfl (lv_at hl 0 rfl) ?_
  refine sg_val hC hO 8 (by decide) (List.mem_of_getElem? (i := 8) rfl) ddJ0_charAt_5068e_8 ?_
  refine lv_iload_n hx hb ddJ0_charAt_5068e_11 rfl (lv_at hl 1 rfl) ?_
  refine cg_Si (As := [.ref (cy (200 + 8)), .int n]) (rest := []) (mc := 0) (ms := 0) (rm := { frames := 2, cells := 0, slots := 0, locals := 43 }) hC hl.1 hO [] (by decide +kernel) (k_lcharAt_8 l D cy _ _ (n := n) p_n) gq_k_charAt_8_k_lcharAt_8_495 rfl rfl rfl 2 (by decide +kernel) ⟨Nat.le_of_ble_eq_true rfl, Nat.le_of_ble_eq_true rfl⟩ rfl rfl (Nat.le_of_ble_eq_true rfl) ddJ0_charAt_5068e_12 ⟨Nat.le_of_ble_eq_true rfl, Nat.le_of_ble_eq_true rfl⟩ (fun r_12_13 nw_12_11 l_12_12 H locs hw hO => ?_)
  obtain ⟨z_12_14, rfl⟩ := hw
  have hO : cO D cy A s.heap s 0 ad (cup [] g) _ _ := hO
  exact cg_iret (nw := fun _ => 0) hC hr hlk hO.same (zi_narC z_12_14) (Nat.le_of_ble_eq_true rfl) (Nat.le_of_ble_eq_true rfl) (⟨z_12_14, rfl⟩) ddJ0_charAt_5068e_15

def wq_k_isLatin1_9 : List Cond := Cond.code yJ0_isLatin1_aae02 cJ0_isLatin1_aae02 1 (some .boolean) :: (([Cond.fieldLink RJ0 38 "java/lang/String" "COMPACT_STRINGS" "Z", Cond.fieldLink RJ0 15 "java/lang/String" "coder" "B"] : List Cond))
set_option maxHeartbeats 8000000 in
set_option maxRecDepth 100000 in
theorem k_isLatin1_9 (l : Launch) (D : va_G) (cy : Nat → ClassId) (ad : Nat → Nat) (g : Nat → va_E)   : cMi l yJ0_isLatin1_aae02 wq_k_isLatin1_9 { frames := 0, cells := 0, slots := 0, locals := 0 } 0 0 0 0 D cy ad g [.ref (cy (100 + 9))] (fun r nw lu => (r = 1) ∧ (lu = [])) := by
  refine cM_of (Qc := fun A => cQi (fun r nw lu => (r = 1) ∧ (lu = [])) D 0 0 ad g A) (cc := cJ0_isLatin1_aae02) (maxL := 1) (ret := (some .boolean)) (by decide) rfl (Nat.le_of_ble_eq_true rfl) ?_
  intro p e s m below meth c A hC hr hlk hnm hO ls hl
  have hC : CallFix p m c cJ0_isLatin1_aae02 1 s [.ref (cy (100 + 9))].toArray wq_k_isLatin1_9 RJ0 := hC
  obtain ⟨hx, hb, hml, hown, hts⟩ := id hC
  have hl : lv_has ls 1 [(0, .ref (cy (100 + 9)))] := hl
  refine sg_com hC hO (List.mem_of_getElem? (i := 1) rfl) ddJ0_isLatin1_aae02_0 ?_
  refine lv_if_eq (tgt := 17) hx hb ddJ0_isLatin1_aae02_3 (by decide) (fun h => absurd h (by decide)) (fun _ => ?_)
  refine lv_aload_n hx hb ddJ0_isLatin1_aae02_6 rfl (lv_at hl 0 rfl) ?_
  refine sg_cod hC hO 9 (by decide) (List.mem_of_getElem? (i := 2) rfl) ddJ0_isLatin1_aae02_7 ?_
  refine lv_if_ne (tgt := 17) hx hb ddJ0_isLatin1_aae02_10 (by decide) (fun h => absurd h (by decide)) (fun _ => ?_)
  refine lv_iconst (v := 1) hx hb ddJ0_isLatin1_aae02_13 (by decide) ?_
  refine lv_goto (tgt := 18) hx hb ddJ0_isLatin1_aae02_14 (by decide) ?_
  exact cg_iret (nw := fun _ => 0) hC hr hlk hO.same rfl (Nat.le_of_ble_eq_true rfl) (Nat.le_of_ble_eq_true rfl) (⟨rfl, rfl⟩) ddJ0_isLatin1_aae02_18

def wq_k_lcharAt_9 : List Cond := Cond.code yJ1_charAt_3b067 cJ1_charAt_3b067 2 (some .char) :: (([Cond.methodLink RJ1 9 yJ0_checkIndex_df160, Cond.static yJ0_checkIndex_df160, Cond.initialized RJ0, Cond.code yJ0_checkIndex_df160 cJ0_checkIndex_df160 2 none, Cond.fieldLink RJ0 1053 "jdk/internal/util/Preconditions" "SIOOBE_FORMATTER" "Ljava/util/function/BiFunction;", Cond.methodLink RJ0 1059 yJ3_checkIndex_8e157, Cond.static yJ3_checkIndex_8e157, Cond.initialized RJ3, Cond.code yJ3_checkIndex_8e157 cJ3_checkIndex_8e157 3 (some .int)] : List Cond))
set_option maxRecDepth 20000 in
theorem gr_k_lcharAt_9_k_checkIndex0_5 : GoodIn wq_k_lcharAt_9 wq_k_checkIndex0_5 := List.forall_mem_cons.mpr ⟨⟨(List.mem_of_getElem? (i := 4) rfl), good_of_word rfl⟩, List.forall_mem_cons.mpr ⟨⟨(List.mem_of_getElem? (i := 5) rfl), good_of_word rfl⟩, List.forall_mem_cons.mpr ⟨⟨(List.mem_of_getElem? (i := 6) rfl), good_of_word rfl⟩, List.forall_mem_cons.mpr ⟨⟨(List.mem_of_getElem? (i := 7) rfl), good_of_word rfl⟩, List.forall_mem_cons.mpr ⟨⟨(List.mem_of_getElem? (i := 8) rfl), good_of_word rfl⟩, List.forall_mem_cons.mpr ⟨⟨(List.mem_of_getElem? (i := 9) rfl), good_of_word rfl⟩, (fun _ h => absurd h List.not_mem_nil)⟩⟩⟩⟩⟩⟩
set_option maxRecDepth 20000 in
theorem gq_k_lcharAt_9_k_checkIndex0_5_9 : GoodIn wq_k_lcharAt_9 (va_wsS RJ1 9 yJ0_checkIndex_df160 wq_k_checkIndex0_5) := goodIn_app (List.forall_mem_cons.mpr ⟨⟨(List.mem_of_getElem? (i := 1) rfl), good_of_word rfl⟩, List.forall_mem_cons.mpr ⟨⟨(List.mem_of_getElem? (i := 2) rfl), good_of_word rfl⟩, List.forall_mem_cons.mpr ⟨⟨(List.mem_of_getElem? (i := 3) rfl), good_of_word rfl⟩, (fun _ h => absurd h List.not_mem_nil)⟩⟩⟩) gr_k_lcharAt_9_k_checkIndex0_5
set_option maxHeartbeats 8000000 in
set_option maxRecDepth 100000 in
theorem k_lcharAt_9 (l : Launch) (D : va_G) (cy : Nat → ClassId) (ad : Nat → Nat) (g : Nat → va_E) {n : Int32} (p_n : zi 0 4 n) : cMi l yJ1_charAt_3b067 wq_k_lcharAt_9 { frames := 2, cells := 0, slots := 0, locals := 43 } 0 0 0 0 D cy ad g [.ref (cy (200 + 9)), .int n] (fun r nw lu => (zi 0 65535 r) ∧ (lu = [])) := by
  refine cM_of (Qc := fun A => cQi (fun r nw lu => (zi 0 65535 r) ∧ (lu = [])) D 0 0 ad g A) (cc := cJ1_charAt_3b067) (maxL := 2) (ret := (some .char)) (by decide) rfl (Nat.le_of_ble_eq_true rfl) ?_
  intro p e s m below meth c A hC hr hlk hnm hO ls hl
  have hC : CallFix p m c cJ1_charAt_3b067 2 s [.ref (cy (200 + 9)), .int n].toArray wq_k_lcharAt_9 RJ1 := hC
  obtain ⟨hx, hb, hml, hown, hts⟩ := id hC
  have hl : lv_has ls 2 [(0, .ref (cy (200 + 9))), (1, .int n)] := hl
  refine lv_iload_n hx hb ddJ1_charAt_3b067_0 rfl (lv_at hl 1 rfl) ?_
  refine lv_aload_n hx hb ddJ1_charAt_3b067_1 rfl (lv_at hl 0 rfl) ?_
  refine sg_len hC hO 9 (by decide) (v := 5) rfl ddJ1_charAt_3b067_2 ?_
  refine cg_Sv (As := [.int n, .int 5]) (rest := []) (mc := 0) (ms := 0) (rm := { frames := 1, cells := 0, slots := 0, locals := 22 }) hC hl.1 hO [] (by decide +kernel) (k_checkIndex0_5 l D cy _ _ (n := n) p_n) gq_k_lcharAt_9_k_checkIndex0_5_9 rfl rfl rfl 2 (by decide +kernel) ⟨Nat.le_of_ble_eq_true rfl, Nat.le_of_ble_eq_true rfl⟩ rfl rfl (Nat.le_of_ble_eq_true rfl) ddJ1_charAt_3b067_3 ⟨Nat.le_of_ble_eq_true rfl, Nat.le_of_ble_eq_true rfl⟩ (fun nw_3_9 l_3_10 H locs hw hO => ?_)
  obtain rfl := hw
  have hO : cO D cy A s.heap s 0 ad (cup [] g) _ _ := hO
  refine lv_aload_n hx hb ddJ1_charAt_3b067_6 rfl (lv_at hl 0 rfl) ?_
  refine lv_iload_n hx hb ddJ1_charAt_3b067_7 rfl (lv_at hl 1 rfl) ?_
  refine sg_bld hC hO 9 (by decide) (zi_in p_n (by decide)) ddJ1_charAt_3b067_8 (fun v_8_12 => ?_)
  refine lv_sipush (v := 255) hx hb ddJ1_charAt_3b067_9 (by decide) ?_
  refine lv_iand hx hb ddJ1_charAt_3b067_12 ?_
  refine zg_top (P := fun v => zi 0 255 v) (zi_and (zi_k (a := 0) (b := 255) (x := 255) rfl)) (fun v_12_13 z_12_14 => ?_)
  refine lv_i2c hx hb ddJ1_charAt_3b067_13 rfl ?_
  refine zg_top (P := fun v => zi 0 65535 v) (zi_i2c _) (fun v_13_15 z_13_16 => ?_)
  exact cg_iret (nw := fun _ => 0) hC hr hlk hO.same (zi_narC z_13_16) (Nat.le_of_ble_eq_true rfl) (Nat.le_of_ble_eq_true rfl) (⟨z_13_16, rfl⟩) ddJ1_charAt_3b067_14

def wq_k_charAt_9 : List Cond := Cond.code yJ0_charAt_5068e cJ0_charAt_5068e 2 (some .char) :: (([Cond.methodLink RJ0 492 yJ0_isLatin1_aae02, Cond.instanceMethod yJ0_isLatin1_aae02, Cond.selects RJ0 yJ0_isLatin1_aae02 yJ0_isLatin1_aae02, Cond.initialized RJ0, Cond.code yJ0_isLatin1_aae02 cJ0_isLatin1_aae02 1 (some .boolean), Cond.fieldLink RJ0 38 "java/lang/String" "COMPACT_STRINGS" "Z", Cond.fieldLink RJ0 15 "java/lang/String" "coder" "B", Cond.fieldLink RJ0 9 "java/lang/String" "value" "[B", Cond.methodLink RJ0 495 yJ1_charAt_3b067, Cond.static yJ1_charAt_3b067, Cond.initialized RJ1, Cond.code yJ1_charAt_3b067 cJ1_charAt_3b067 2 (some .char), Cond.methodLink RJ1 9 yJ0_checkIndex_df160, Cond.static yJ0_checkIndex_df160, Cond.code yJ0_checkIndex_df160 cJ0_checkIndex_df160 2 none, Cond.fieldLink RJ0 1053 "jdk/internal/util/Preconditions" "SIOOBE_FORMATTER" "Ljava/util/function/BiFunction;", Cond.methodLink RJ0 1059 yJ3_checkIndex_8e157, Cond.static yJ3_checkIndex_8e157, Cond.initialized RJ3, Cond.code yJ3_checkIndex_8e157 cJ3_checkIndex_8e157 3 (some .int)] : List Cond))
set_option maxRecDepth 20000 in
theorem gr_k_charAt_9_k_isLatin1_9 : GoodIn wq_k_charAt_9 wq_k_isLatin1_9 := List.forall_mem_cons.mpr ⟨⟨(List.mem_of_getElem? (i := 5) rfl), good_of_word rfl⟩, List.forall_mem_cons.mpr ⟨⟨(List.mem_of_getElem? (i := 6) rfl), good_of_word rfl⟩, List.forall_mem_cons.mpr ⟨⟨(List.mem_of_getElem? (i := 7) rfl), good_of_word rfl⟩, (fun _ h => absurd h List.not_mem_nil)⟩⟩⟩
set_option maxRecDepth 20000 in
theorem gq_k_charAt_9_k_isLatin1_9_492 : GoodIn wq_k_charAt_9 (wsV RJ0 492 RJ0 yJ0_isLatin1_aae02 wq_k_isLatin1_9) := goodIn_app (List.forall_mem_cons.mpr ⟨⟨(List.mem_of_getElem? (i := 1) rfl), good_of_word rfl⟩, List.forall_mem_cons.mpr ⟨⟨(List.mem_of_getElem? (i := 2) rfl), good_of_word rfl⟩, List.forall_mem_cons.mpr ⟨⟨(List.mem_of_getElem? (i := 3) rfl), good_of_word rfl⟩, List.forall_mem_cons.mpr ⟨⟨(List.mem_of_getElem? (i := 4) rfl), good_of_word rfl⟩, (fun _ h => absurd h List.not_mem_nil)⟩⟩⟩⟩) gr_k_charAt_9_k_isLatin1_9
set_option maxRecDepth 20000 in
theorem gr_k_charAt_9_k_lcharAt_9 : GoodIn wq_k_charAt_9 wq_k_lcharAt_9 := List.forall_mem_cons.mpr ⟨⟨(List.mem_of_getElem? (i := 12) rfl), good_of_word rfl⟩, List.forall_mem_cons.mpr ⟨⟨(List.mem_of_getElem? (i := 13) rfl), good_of_word rfl⟩, List.forall_mem_cons.mpr ⟨⟨(List.mem_of_getElem? (i := 14) rfl), good_of_word rfl⟩, List.forall_mem_cons.mpr ⟨⟨(List.mem_of_getElem? (i := 4) rfl), good_of_word rfl⟩, List.forall_mem_cons.mpr ⟨⟨(List.mem_of_getElem? (i := 15) rfl), good_of_word rfl⟩, List.forall_mem_cons.mpr ⟨⟨(List.mem_of_getElem? (i := 16) rfl), good_of_word rfl⟩, List.forall_mem_cons.mpr ⟨⟨(List.mem_of_getElem? (i := 17) rfl), good_of_word rfl⟩, List.forall_mem_cons.mpr ⟨⟨(List.mem_of_getElem? (i := 18) rfl), good_of_word rfl⟩, List.forall_mem_cons.mpr ⟨⟨(List.mem_of_getElem? (i := 19) rfl), good_of_word rfl⟩, List.forall_mem_cons.mpr ⟨⟨(List.mem_of_getElem? (i := 20) rfl), good_of_word rfl⟩, (fun _ h => absurd h List.not_mem_nil)⟩⟩⟩⟩⟩⟩⟩⟩⟩⟩
set_option maxRecDepth 20000 in
theorem gq_k_charAt_9_k_lcharAt_9_495 : GoodIn wq_k_charAt_9 (va_wsS RJ0 495 yJ1_charAt_3b067 wq_k_lcharAt_9) := goodIn_app (List.forall_mem_cons.mpr ⟨⟨(List.mem_of_getElem? (i := 9) rfl), good_of_word rfl⟩, List.forall_mem_cons.mpr ⟨⟨(List.mem_of_getElem? (i := 10) rfl), good_of_word rfl⟩, List.forall_mem_cons.mpr ⟨⟨(List.mem_of_getElem? (i := 11) rfl), good_of_word rfl⟩, (fun _ h => absurd h List.not_mem_nil)⟩⟩⟩) gr_k_charAt_9_k_lcharAt_9
set_option maxHeartbeats 8000000 in
set_option maxRecDepth 100000 in
theorem k_charAt_9 (l : Launch) (D : va_G) (cy : Nat → ClassId) (ad : Nat → Nat) (g : Nat → va_E) {n : Int32} (p_n : zi 0 4 n) : cMi l yJ0_charAt_5068e wq_k_charAt_9 { frames := 3, cells := 0, slots := 0, locals := 64 } 0 0 0 0 D cy ad g [.ref (cy (100 + 9)), .int n] (fun r nw lu => (zi 0 65535 r) ∧ (lu = [])) := by
  refine cM_of (Qc := fun A => cQi (fun r nw lu => (zi 0 65535 r) ∧ (lu = [])) D 0 0 ad g A) (cc := cJ0_charAt_5068e) (maxL := 2) (ret := (some .char)) (by decide) rfl (Nat.le_of_ble_eq_true rfl) ?_
  intro p e s m below meth c A hC hr hlk hnm hO ls hl
  have hC : CallFix p m c cJ0_charAt_5068e 2 s [.ref (cy (100 + 9)), .int n].toArray wq_k_charAt_9 RJ0 := hC
  obtain ⟨hx, hb, hml, hown, hts⟩ := id hC
  have hl : lv_has ls 2 [(0, .ref (cy (100 + 9))), (1, .int n)] := hl
  refine lv_aload_n hx hb ddJ0_charAt_5068e_0 rfl (lv_at hl 0 rfl) ?_
  refine sg_Vi (As := []) (rest := []) (mc := 0) (ms := 0) (rm := { frames := 0, cells := 0, slots := 0, locals := 0 }) hC hl.1 hO [] (by decide +kernel) 9 (by decide) (k_isLatin1_9 l D cy _ _  ) gq_k_charAt_9_k_isLatin1_9_492 rfl rfl rfl 0 (by decide +kernel) ⟨Nat.le_of_ble_eq_true rfl, Nat.le_of_ble_eq_true rfl⟩ rfl rfl (Nat.le_of_ble_eq_true rfl) ddJ0_charAt_5068e_1 ⟨Nat.le_of_ble_eq_true rfl, Nat.le_of_ble_eq_true rfl⟩ (fun r_1_10 nw_1_8 l_1_9 H locs hw hO => ?_)
  obtain ⟨rfl, rfl⟩ := hw
  have hO : cO D cy A s.heap s 0 ad (cup [] g) _ _ := hO
  refine lv_if_eq (tgt := 16) hx hb ddJ0_charAt_5068e_4 (by decide) (fun h => absurd h (by decide)) (fun _ => ?_)
  refine lv_aload_n hx hb ddJ0_charAt_5068e_7 rfl (lv_at hl 0 rfl) ?_
  refine sg_val hC hO 9 (by decide) (List.mem_of_getElem? (i := 8) rfl) ddJ0_charAt_5068e_8 ?_
  refine lv_iload_n hx hb ddJ0_charAt_5068e_11 rfl (lv_at hl 1 rfl) ?_
  refine cg_Si (As := [.ref (cy (200 + 9)), .int n]) (rest := []) (mc := 0) (ms := 0) (rm := { frames := 2, cells := 0, slots := 0, locals := 43 }) hC hl.1 hO [] (by decide +kernel) (k_lcharAt_9 l D cy _ _ (n := n) p_n) gq_k_charAt_9_k_lcharAt_9_495 rfl rfl rfl 2 (by decide +kernel) ⟨Nat.le_of_ble_eq_true rfl, Nat.le_of_ble_eq_true rfl⟩ rfl rfl (Nat.le_of_ble_eq_true rfl) ddJ0_charAt_5068e_12 ⟨Nat.le_of_ble_eq_true rfl, Nat.le_of_ble_eq_true rfl⟩ (fun r_12_13 nw_12_11 l_12_12 H locs hw hO => ?_)
  obtain ⟨z_12_14, rfl⟩ := hw
  have hO : cO D cy A s.heap s 0 ad (cup [] g) _ _ := hO
  exact cg_iret (nw := fun _ => 0) hC hr hlk hO.same (zi_narC z_12_14) (Nat.le_of_ble_eq_true rfl) (Nat.le_of_ble_eq_true rfl) (⟨z_12_14, rfl⟩) ddJ0_charAt_5068e_15

def wq_k_isLatin1_10 : List Cond := Cond.code yJ0_isLatin1_aae02 cJ0_isLatin1_aae02 1 (some .boolean) :: (([Cond.fieldLink RJ0 38 "java/lang/String" "COMPACT_STRINGS" "Z", Cond.fieldLink RJ0 15 "java/lang/String" "coder" "B"] : List Cond))
set_option maxHeartbeats 8000000 in
set_option maxRecDepth 100000 in
theorem k_isLatin1_10 (l : Launch) (D : va_G) (cy : Nat → ClassId) (ad : Nat → Nat) (g : Nat → va_E)   : cMi l yJ0_isLatin1_aae02 wq_k_isLatin1_10 { frames := 0, cells := 0, slots := 0, locals := 0 } 0 0 0 0 D cy ad g [.ref (cy (100 + 10))] (fun r nw lu => (r = 1) ∧ (lu = [])) := by
  refine cM_of (Qc := fun A => cQi (fun r nw lu => (r = 1) ∧ (lu = [])) D 0 0 ad g A) (cc := cJ0_isLatin1_aae02) (maxL := 1) (ret := (some .boolean)) (by decide) rfl (Nat.le_of_ble_eq_true rfl) ?_
  intro p e s m below meth c A hC hr hlk hnm hO ls hl
  have hC : CallFix p m c cJ0_isLatin1_aae02 1 s [.ref (cy (100 + 10))].toArray wq_k_isLatin1_10 RJ0 := hC
  obtain ⟨hx, hb, hml, hown, hts⟩ := id hC
  have hl : lv_has ls 1 [(0, .ref (cy (100 + 10)))] := hl
  refine sg_com hC hO (List.mem_of_getElem? (i := 1) rfl) ddJ0_isLatin1_aae02_0 ?_
  refine lv_if_eq (tgt := 17) hx hb ddJ0_isLatin1_aae02_3 (by decide) (fun h => absurd h (by decide)) (fun _ => ?_)
  refine lv_aload_n hx hb ddJ0_isLatin1_aae02_6 rfl (lv_at hl 0 rfl) ?_
  refine sg_cod hC hO 10 (by decide) (List.mem_of_getElem? (i := 2) rfl) ddJ0_isLatin1_aae02_7 ?_
  refine lv_if_ne (tgt := 17) hx hb ddJ0_isLatin1_aae02_10 (by decide) (fun h => absurd h (by decide)) (fun _ => ?_)
  refine lv_iconst (v := 1) hx hb ddJ0_isLatin1_aae02_13 (by decide) ?_
  refine lv_goto (tgt := 18) hx hb ddJ0_isLatin1_aae02_14 (by decide) ?_
  exact cg_iret (nw := fun _ => 0) hC hr hlk hO.same rfl (Nat.le_of_ble_eq_true rfl) (Nat.le_of_ble_eq_true rfl) (⟨rfl, rfl⟩) ddJ0_isLatin1_aae02_18

def wq_k_lcharAt_10 : List Cond := Cond.code yJ1_charAt_3b067 cJ1_charAt_3b067 2 (some .char) :: (([Cond.methodLink RJ1 9 yJ0_checkIndex_df160, Cond.static yJ0_checkIndex_df160, Cond.initialized RJ0, Cond.code yJ0_checkIndex_df160 cJ0_checkIndex_df160 2 none, Cond.fieldLink RJ0 1053 "jdk/internal/util/Preconditions" "SIOOBE_FORMATTER" "Ljava/util/function/BiFunction;", Cond.methodLink RJ0 1059 yJ3_checkIndex_8e157, Cond.static yJ3_checkIndex_8e157, Cond.initialized RJ3, Cond.code yJ3_checkIndex_8e157 cJ3_checkIndex_8e157 3 (some .int)] : List Cond))
set_option maxRecDepth 20000 in
theorem gr_k_lcharAt_10_k_checkIndex0_5 : GoodIn wq_k_lcharAt_10 wq_k_checkIndex0_5 := List.forall_mem_cons.mpr ⟨⟨(List.mem_of_getElem? (i := 4) rfl), good_of_word rfl⟩, List.forall_mem_cons.mpr ⟨⟨(List.mem_of_getElem? (i := 5) rfl), good_of_word rfl⟩, List.forall_mem_cons.mpr ⟨⟨(List.mem_of_getElem? (i := 6) rfl), good_of_word rfl⟩, List.forall_mem_cons.mpr ⟨⟨(List.mem_of_getElem? (i := 7) rfl), good_of_word rfl⟩, List.forall_mem_cons.mpr ⟨⟨(List.mem_of_getElem? (i := 8) rfl), good_of_word rfl⟩, List.forall_mem_cons.mpr ⟨⟨(List.mem_of_getElem? (i := 9) rfl), good_of_word rfl⟩, (fun _ h => absurd h List.not_mem_nil)⟩⟩⟩⟩⟩⟩
set_option maxRecDepth 20000 in
theorem gq_k_lcharAt_10_k_checkIndex0_5_9 : GoodIn wq_k_lcharAt_10 (va_wsS RJ1 9 yJ0_checkIndex_df160 wq_k_checkIndex0_5) := goodIn_app (List.forall_mem_cons.mpr ⟨⟨(List.mem_of_getElem? (i := 1) rfl), good_of_word rfl⟩, List.forall_mem_cons.mpr ⟨⟨(List.mem_of_getElem? (i := 2) rfl), good_of_word rfl⟩, List.forall_mem_cons.mpr ⟨⟨(List.mem_of_getElem? (i := 3) rfl), good_of_word rfl⟩, (fun _ h => absurd h List.not_mem_nil)⟩⟩⟩) gr_k_lcharAt_10_k_checkIndex0_5
set_option maxHeartbeats 8000000 in
set_option maxRecDepth 100000 in
theorem k_lcharAt_10 (l : Launch) (D : va_G) (cy : Nat → ClassId) (ad : Nat → Nat) (g : Nat → va_E) {n : Int32} (p_n : zi 0 4 n) : cMi l yJ1_charAt_3b067 wq_k_lcharAt_10 { frames := 2, cells := 0, slots := 0, locals := 43 } 0 0 0 0 D cy ad g [.ref (cy (200 + 10)), .int n] (fun r nw lu => (zi 0 65535 r) ∧ (lu = [])) := by
  refine cM_of (Qc := fun A => cQi (fun r nw lu => (zi 0 65535 r) ∧ (lu = [])) D 0 0 ad g A) (cc := cJ1_charAt_3b067) (maxL := 2) (ret := (some .char)) (by decide) rfl (Nat.le_of_ble_eq_true rfl) ?_
  intro p e s m below meth c A hC hr hlk hnm hO ls hl
  have hC : CallFix p m c cJ1_charAt_3b067 2 s [.ref (cy (200 + 10)), .int n].toArray wq_k_lcharAt_10 RJ1 := hC
  obtain ⟨hx, hb, hml, hown, hts⟩ := id hC
  have hl : lv_has ls 2 [(0, .ref (cy (200 + 10))), (1, .int n)] := hl
  refine lv_iload_n hx hb ddJ1_charAt_3b067_0 rfl (lv_at hl 1 rfl) ?_
  refine lv_aload_n hx hb ddJ1_charAt_3b067_1 rfl (lv_at hl 0 rfl) ?_
  refine sg_len hC hO 10 (by decide) (v := 5) rfl ddJ1_charAt_3b067_2 ?_
  refine cg_Sv (As := [.int n, .int 5]) (rest := []) (mc := 0) (ms := 0) (rm := { frames := 1, cells := 0, slots := 0, locals := 22 }) hC hl.1 hO [] (by decide +kernel) (k_checkIndex0_5 l D cy _ _ (n := n) p_n) gq_k_lcharAt_10_k_checkIndex0_5_9 rfl rfl rfl 2 (by decide +kernel) ⟨Nat.le_of_ble_eq_true rfl, Nat.le_of_ble_eq_true rfl⟩ rfl rfl (Nat.le_of_ble_eq_true rfl) ddJ1_charAt_3b067_3 ⟨Nat.le_of_ble_eq_true rfl, Nat.le_of_ble_eq_true rfl⟩ (fun nw_3_9 l_3_10 H locs hw hO => ?_)
  obtain rfl := hw
  have hO : cO D cy A s.heap s 0 ad (cup [] g) _ _ := hO
  refine lv_aload_n hx hb ddJ1_charAt_3b067_6 rfl (lv_at hl 0 rfl) ?_
  refine lv_iload_n hx hb ddJ1_charAt_3b067_7 rfl (lv_at hl 1 rfl) ?_
  refine sg_bld hC hO 10 (by decide) (zi_in p_n (by decide)) ddJ1_charAt_3b067_8 (fun v_8_12 => ?_)
  refine lv_sipush (v := 255) hx hb ddJ1_charAt_3b067_9 (by decide) ?_
  refine lv_iand hx hb ddJ1_charAt_3b067_12 ?_
  refine zg_top (P := fun v => zi 0 255 v) (zi_and (zi_k (a := 0) (b := 255) (x := 255) rfl)) (fun v_12_13 z_12_14 => ?_)
  refine lv_i2c hx hb ddJ1_charAt_3b067_13 rfl ?_
  refine zg_top (P := fun v => zi 0 65535 v) (zi_i2c _) (fun v_13_15 z_13_16 => ?_)
  exact cg_iret (nw := fun _ => 0) hC hr hlk hO.same (zi_narC z_13_16) (Nat.le_of_ble_eq_true rfl) (Nat.le_of_ble_eq_true rfl) (⟨z_13_16, rfl⟩) ddJ1_charAt_3b067_14

