theorem ddJ0_coder_7d493_0 : decode cJ0_coder_7d493 0 = .ok (.getstatic 38, 3) := by decide +kernel
theorem ddJ0_coder_7d493_3 : decode cJ0_coder_7d493 3 = .ok (.ifCond .eq 10, 3) := by decide +kernel
theorem ddJ0_coder_7d493_6 : decode cJ0_coder_7d493 6 = .ok (.aload_n 0, 1) := by decide +kernel
theorem ddJ0_coder_7d493_7 : decode cJ0_coder_7d493 7 = .ok (.getfield 15, 3) := by decide +kernel
theorem ddJ0_coder_7d493_10 : decode cJ0_coder_7d493 10 = .ok (.goto 4, 3) := by decide +kernel
theorem ddJ0_coder_7d493_14 : decode cJ0_coder_7d493 14 = .ok (.ireturn, 1) := by decide +kernel
def wq_k_coder_0 : List Cond := Cond.code yJ0_coder_7d493 cJ0_coder_7d493 1 (some .byte) :: (([Cond.fieldLink RJ0 38 "java/lang/String" "COMPACT_STRINGS" "Z", Cond.fieldLink RJ0 15 "java/lang/String" "coder" "B"] : List Cond))
set_option maxHeartbeats 8000000 in
set_option maxRecDepth 100000 in
theorem k_coder_0 (l : Launch) (D : va_G) (cy : Nat → ClassId) (ad : Nat → Nat) (g : Nat → va_E)   : cMi l yJ0_coder_7d493 wq_k_coder_0 { frames := 0, cells := 0, slots := 0, locals := 0 } 0 0 0 0 D cy ad g [.ref (cy (100 + 0))] (fun r nw lu => (r = 0) ∧ (lu = [])) := by
  refine cM_of (Qc := fun A => cQi (fun r nw lu => (r = 0) ∧ (lu = [])) D 0 0 ad g A) (cc := cJ0_coder_7d493) (maxL := 1) (ret := (some .byte)) (by decide) rfl (Nat.le_of_ble_eq_true rfl) ?_
  intro p e s m below meth c A hC hr hlk hnm hO ls hl
  have hC : CallFix p m c cJ0_coder_7d493 1 s [.ref (cy (100 + 0))].toArray wq_k_coder_0 RJ0 := hC
  obtain ⟨hx, hb, hml, hown, hts⟩ := id hC
  have hl : lv_has ls 1 [(0, .ref (cy (100 + 0)))] := hl
  refine sg_com hC hO (List.mem_of_getElem? (i := 1) rfl) ddJ0_coder_7d493_0 ?_
  refine lv_if_eq (tgt := 13) hx hb ddJ0_coder_7d493_3 (by decide) (fun h => absurd h (by decide)) (fun _ => ?_)
  refine lv_aload_n hx hb ddJ0_coder_7d493_6 rfl (lv_at hl 0 rfl) ?_
  refine sg_cod hC hO 0 (by decide) (List.mem_of_getElem? (i := 2) rfl) ddJ0_coder_7d493_7 ?_
  refine lv_goto (tgt := 14) hx hb ddJ0_coder_7d493_10 (by decide) ?_
  exact cg_iret (nw := fun _ => 0) hC hr hlk hO.same rfl (Nat.le_of_ble_eq_true rfl) (Nat.le_of_ble_eq_true rfl) (⟨rfl, rfl⟩) ddJ0_coder_7d493_14

theorem ddJ0_length_8abf5_0 : decode cJ0_length_8abf5 0 = .ok (.aload_n 0, 1) := by decide +kernel
theorem ddJ0_length_8abf5_1 : decode cJ0_length_8abf5 1 = .ok (.getfield 9, 3) := by decide +kernel
theorem ddJ0_length_8abf5_4 : decode cJ0_length_8abf5 4 = .ok (.arraylength, 1) := by decide +kernel
theorem ddJ0_length_8abf5_5 : decode cJ0_length_8abf5 5 = .ok (.aload_n 0, 1) := by decide +kernel
theorem ddJ0_length_8abf5_6 : decode cJ0_length_8abf5 6 = .ok (.invokevirtual 335, 3) := by decide +kernel
theorem ddJ0_length_8abf5_9 : decode cJ0_length_8abf5 9 = .ok (.ishr, 1) := by decide +kernel
theorem ddJ0_length_8abf5_10 : decode cJ0_length_8abf5 10 = .ok (.ireturn, 1) := by decide +kernel
def wq_k_length_0 : List Cond := Cond.code yJ0_length_8abf5 cJ0_length_8abf5 1 (some .int) :: (([Cond.fieldLink RJ0 9 "java/lang/String" "value" "[B", Cond.methodLink RJ0 335 yJ0_coder_7d493, Cond.instanceMethod yJ0_coder_7d493, Cond.selects RJ0 yJ0_coder_7d493 yJ0_coder_7d493, Cond.initialized RJ0, Cond.code yJ0_coder_7d493 cJ0_coder_7d493 1 (some .byte), Cond.fieldLink RJ0 38 "java/lang/String" "COMPACT_STRINGS" "Z", Cond.fieldLink RJ0 15 "java/lang/String" "coder" "B"] : List Cond))
set_option maxRecDepth 20000 in
theorem gr_k_length_0_k_coder_0 : GoodIn wq_k_length_0 wq_k_coder_0 := List.forall_mem_cons.mpr ⟨⟨(List.mem_of_getElem? (i := 6) rfl), good_of_word rfl⟩, List.forall_mem_cons.mpr ⟨⟨(List.mem_of_getElem? (i := 7) rfl), good_of_word rfl⟩, List.forall_mem_cons.mpr ⟨⟨(List.mem_of_getElem? (i := 8) rfl), good_of_word rfl⟩, (fun _ h => absurd h List.not_mem_nil)⟩⟩⟩
set_option maxRecDepth 20000 in
theorem gq_k_length_0_k_coder_0_335 : GoodIn wq_k_length_0 (wsV RJ0 335 RJ0 yJ0_coder_7d493 wq_k_coder_0) := goodIn_app (List.forall_mem_cons.mpr ⟨⟨(List.mem_of_getElem? (i := 2) rfl), good_of_word rfl⟩, List.forall_mem_cons.mpr ⟨⟨(List.mem_of_getElem? (i := 3) rfl), good_of_word rfl⟩, List.forall_mem_cons.mpr ⟨⟨(List.mem_of_getElem? (i := 4) rfl), good_of_word rfl⟩, List.forall_mem_cons.mpr ⟨⟨(List.mem_of_getElem? (i := 5) rfl), good_of_word rfl⟩, (fun _ h => absurd h List.not_mem_nil)⟩⟩⟩⟩) gr_k_length_0_k_coder_0
set_option maxHeartbeats 8000000 in
set_option maxRecDepth 100000 in
theorem k_length_0 (l : Launch) (D : va_G) (cy : Nat → ClassId) (ad : Nat → Nat) (g : Nat → va_E)   : cMi l yJ0_length_8abf5 wq_k_length_0 { frames := 1, cells := 0, slots := 0, locals := 20 } 0 0 0 0 D cy ad g [.ref (cy (100 + 0))] (fun r nw lu => (r = 4) ∧ (lu = [])) := by
  refine cM_of (Qc := fun A => cQi (fun r nw lu => (r = 4) ∧ (lu = [])) D 0 0 ad g A) (cc := cJ0_length_8abf5) (maxL := 1) (ret := (some .int)) (by decide) rfl (Nat.le_of_ble_eq_true rfl) ?_
  intro p e s m below meth c A hC hr hlk hnm hO ls hl
  have hC : CallFix p m c cJ0_length_8abf5 1 s [.ref (cy (100 + 0))].toArray wq_k_length_0 RJ0 := hC
  obtain ⟨hx, hb, hml, hown, hts⟩ := id hC
  have hl : lv_has ls 1 [(0, .ref (cy (100 + 0)))] := hl
  refine lv_aload_n hx hb ddJ0_length_8abf5_0 rfl (lv_at hl 0 rfl) ?_
  refine sg_val hC hO 0 (by decide) (List.mem_of_getElem? (i := 1) rfl) ddJ0_length_8abf5_1 ?_
  refine sg_len hC hO 0 (by decide) (v := 4) rfl ddJ0_length_8abf5_4 ?_
  refine lv_aload_n hx hb ddJ0_length_8abf5_5 rfl (lv_at hl 0 rfl) ?_
  refine sg_Vi (As := []) (rest := [.int 4]) (mc := 0) (ms := 0) (rm := { frames := 0, cells := 0, slots := 0, locals := 0 }) hC hl.1 hO [] (by decide +kernel) 0 (by decide) (k_coder_0 l D cy _ _  ) gq_k_length_0_k_coder_0_335 rfl rfl rfl 0 (by decide +kernel) ⟨Nat.le_of_ble_eq_true rfl, Nat.le_of_ble_eq_true rfl⟩ rfl rfl (Nat.le_of_ble_eq_true rfl) ddJ0_length_8abf5_6 ⟨Nat.le_of_ble_eq_true rfl, Nat.le_of_ble_eq_true rfl⟩ (fun r_6_6 nw_6_4 l_6_5 H locs hw hO => ?_)
  obtain ⟨rfl, rfl⟩ := hw
  have hO : cO D cy A s.heap s 0 ad (cup [] g) _ _ := hO
  refine lv_ishr hx hb ddJ0_length_8abf5_9 ?_
  refine cg_ev (v := 4) (by decide) ?_
  exact cg_iret (nw := fun _ => 0) hC hr hlk hO.same rfl (Nat.le_of_ble_eq_true rfl) (Nat.le_of_ble_eq_true rfl) (⟨rfl, rfl⟩) ddJ0_length_8abf5_10

def wq_k_coder_1 : List Cond := Cond.code yJ0_coder_7d493 cJ0_coder_7d493 1 (some .byte) :: (([Cond.fieldLink RJ0 38 "java/lang/String" "COMPACT_STRINGS" "Z", Cond.fieldLink RJ0 15 "java/lang/String" "coder" "B"] : List Cond))
set_option maxHeartbeats 8000000 in
set_option maxRecDepth 100000 in
theorem k_coder_1 (l : Launch) (D : va_G) (cy : Nat → ClassId) (ad : Nat → Nat) (g : Nat → va_E)   : cMi l yJ0_coder_7d493 wq_k_coder_1 { frames := 0, cells := 0, slots := 0, locals := 0 } 0 0 0 0 D cy ad g [.ref (cy (100 + 1))] (fun r nw lu => (r = 0) ∧ (lu = [])) := by
  refine cM_of (Qc := fun A => cQi (fun r nw lu => (r = 0) ∧ (lu = [])) D 0 0 ad g A) (cc := cJ0_coder_7d493) (maxL := 1) (ret := (some .byte)) (by decide) rfl (Nat.le_of_ble_eq_true rfl) ?_
  intro p e s m below meth c A hC hr hlk hnm hO ls hl
  have hC : CallFix p m c cJ0_coder_7d493 1 s [.ref (cy (100 + 1))].toArray wq_k_coder_1 RJ0 := hC
  obtain ⟨hx, hb, hml, hown, hts⟩ := id hC
  have hl : lv_has ls 1 [(0, .ref (cy (100 + 1)))] := hl
  refine sg_com hC hO (List.mem_of_getElem? (i := 1) rfl) ddJ0_coder_7d493_0 ?_
  refine lv_if_eq (tgt := 13) hx hb ddJ0_coder_7d493_3 (by decide) (fun h => absurd h (by decide)) (fun _ => ?_)
  refine lv_aload_n hx hb ddJ0_coder_7d493_6 rfl (lv_at hl 0 rfl) ?_
  refine sg_cod hC hO 1 (by decide) (List.mem_of_getElem? (i := 2) rfl) ddJ0_coder_7d493_7 ?_
  refine lv_goto (tgt := 14) hx hb ddJ0_coder_7d493_10 (by decide) ?_
  exact cg_iret (nw := fun _ => 0) hC hr hlk hO.same rfl (Nat.le_of_ble_eq_true rfl) (Nat.le_of_ble_eq_true rfl) (⟨rfl, rfl⟩) ddJ0_coder_7d493_14

def wq_k_length_1 : List Cond := Cond.code yJ0_length_8abf5 cJ0_length_8abf5 1 (some .int) :: (([Cond.fieldLink RJ0 9 "java/lang/String" "value" "[B", Cond.methodLink RJ0 335 yJ0_coder_7d493, Cond.instanceMethod yJ0_coder_7d493, Cond.selects RJ0 yJ0_coder_7d493 yJ0_coder_7d493, Cond.initialized RJ0, Cond.code yJ0_coder_7d493 cJ0_coder_7d493 1 (some .byte), Cond.fieldLink RJ0 38 "java/lang/String" "COMPACT_STRINGS" "Z", Cond.fieldLink RJ0 15 "java/lang/String" "coder" "B"] : List Cond))
set_option maxRecDepth 20000 in
theorem gr_k_length_1_k_coder_1 : GoodIn wq_k_length_1 wq_k_coder_1 := List.forall_mem_cons.mpr ⟨⟨(List.mem_of_getElem? (i := 6) rfl), good_of_word rfl⟩, List.forall_mem_cons.mpr ⟨⟨(List.mem_of_getElem? (i := 7) rfl), good_of_word rfl⟩, List.forall_mem_cons.mpr ⟨⟨(List.mem_of_getElem? (i := 8) rfl), good_of_word rfl⟩, (fun _ h => absurd h List.not_mem_nil)⟩⟩⟩
set_option maxRecDepth 20000 in
theorem gq_k_length_1_k_coder_1_335 : GoodIn wq_k_length_1 (wsV RJ0 335 RJ0 yJ0_coder_7d493 wq_k_coder_1) := goodIn_app (List.forall_mem_cons.mpr ⟨⟨(List.mem_of_getElem? (i := 2) rfl), good_of_word rfl⟩, List.forall_mem_cons.mpr ⟨⟨(List.mem_of_getElem? (i := 3) rfl), good_of_word rfl⟩, List.forall_mem_cons.mpr ⟨⟨(List.mem_of_getElem? (i := 4) rfl), good_of_word rfl⟩, List.forall_mem_cons.mpr ⟨⟨(List.mem_of_getElem? (i := 5) rfl), good_of_word rfl⟩, (fun _ h => absurd h List.not_mem_nil)⟩⟩⟩⟩) gr_k_length_1_k_coder_1
set_option maxHeartbeats 8000000 in
set_option maxRecDepth 100000 in
theorem k_length_1 (l : Launch) (D : va_G) (cy : Nat → ClassId) (ad : Nat → Nat) (g : Nat → va_E)   : cMi l yJ0_length_8abf5 wq_k_length_1 { frames := 1, cells := 0, slots := 0, locals := 20 } 0 0 0 0 D cy ad g [.ref (cy (100 + 1))] (fun r nw lu => (r = 4) ∧ (lu = [])) := by
  refine cM_of (Qc := fun A => cQi (fun r nw lu => (r = 4) ∧ (lu = [])) D 0 0 ad g A) (cc := cJ0_length_8abf5) (maxL := 1) (ret := (some .int)) (by decide) rfl (Nat.le_of_ble_eq_true rfl) ?_
  intro p e s m below meth c A hC hr hlk hnm hO ls hl
  have hC : CallFix p m c cJ0_length_8abf5 1 s [.ref (cy (100 + 1))].toArray wq_k_length_1 RJ0 := hC
  obtain ⟨hx, hb, hml, hown, hts⟩ := id hC
  have hl : lv_has ls 1 [(0, .ref (cy (100 + 1)))] := hl
  refine lv_aload_n hx hb ddJ0_length_8abf5_0 rfl (lv_at hl 0 rfl) ?_
  refine sg_val hC hO 1 (by decide) (List.mem_of_getElem? (i := 1) rfl) ddJ0_length_8abf5_1 ?_
  refine sg_len hC hO 1 (by decide) (v := 4) rfl ddJ0_length_8abf5_4 ?_
  refine lv_aload_n hx hb ddJ0_length_8abf5_5 rfl (lv_at hl 0 rfl) ?_
  refine sg_Vi (As := []) (rest := [.int 4]) (mc := 0) (ms := 0) (rm := { frames := 0, cells := 0, slots := 0, locals := 0 }) hC hl.1 hO [] (by decide +kernel) 1 (by decide) (k_coder_1 l D cy _ _  ) gq_k_length_1_k_coder_1_335 rfl rfl rfl 0 (by decide +kernel) ⟨Nat.le_of_ble_eq_true rfl, Nat.le_of_ble_eq_true rfl⟩ rfl rfl (Nat.le_of_ble_eq_true rfl) ddJ0_length_8abf5_6 ⟨Nat.le_of_ble_eq_true rfl, Nat.le_of_ble_eq_true rfl⟩ (fun r_6_6 nw_6_4 l_6_5 H locs hw hO => ?_)
  obtain ⟨rfl, rfl⟩ := hw
  have hO : cO D cy A s.heap s 0 ad (cup [] g) _ _ := hO
  refine lv_ishr hx hb ddJ0_length_8abf5_9 ?_
  refine cg_ev (v := 4) (by decide) ?_
  exact cg_iret (nw := fun _ => 0) hC hr hlk hO.same rfl (Nat.le_of_ble_eq_true rfl) (Nat.le_of_ble_eq_true rfl) (⟨rfl, rfl⟩) ddJ0_length_8abf5_10

def wq_k_coder_2 : List Cond := Cond.code yJ0_coder_7d493 cJ0_coder_7d493 1 (some .byte) :: (([Cond.fieldLink RJ0 38 "java/lang/String" "COMPACT_STRINGS" "Z", Cond.fieldLink RJ0 15 "java/lang/String" "coder" "B"] : List Cond))
set_option maxHeartbeats 8000000 in
set_option maxRecDepth 100000 in
theorem k_coder_2 (l : Launch) (D : va_G) (cy : Nat → ClassId) (ad : Nat → Nat) (g : Nat → va_E)   : cMi l yJ0_coder_7d493 wq_k_coder_2 { frames := 0, cells := 0, slots := 0, locals := 0 } 0 0 0 0 D cy ad g [.ref (cy (100 + 2))] (fun r nw lu => (r = 0) ∧ (lu = [])) := by
  refine cM_of (Qc := fun A => cQi (fun r nw lu => (r = 0) ∧ (lu = [])) D 0 0 ad g A) (cc := cJ0_coder_7d493) (maxL := 1) (ret := (some .byte)) (by decide) rfl (Nat.le_of_ble_eq_true rfl) ?_
  intro p e s m below meth c A hC hr hlk hnm hO ls hl
  have hC : CallFix p m c cJ0_coder_7d493 1 s [.ref (cy (100 + 2))].toArray wq_k_coder_2 RJ0 := hC
  obtain ⟨hx, hb, hml, hown, hts⟩ := id hC
  have hl : lv_has ls 1 [(0, .ref (cy (100 + 2)))] := hl
  refine sg_com hC hO (List.mem_of_getElem? (i := 1) rfl) ddJ0_coder_7d493_0 ?_
  refine lv_if_eq (tgt := 13) hx hb ddJ0_coder_7d493_3 (by decide) (fun h => absurd h (by decide)) (fun _ => ?_)
  refine lv_aload_n hx hb ddJ0_coder_7d493_6 rfl (lv_at hl 0 rfl) ?_
  refine sg_cod hC hO 2 (by decide) (List.mem_of_getElem? (i := 2) rfl) ddJ0_coder_7d493_7 ?_
  refine lv_goto (tgt := 14) hx hb ddJ0_coder_7d493_10 (by decide) ?_
  exact cg_iret (nw := fun _ => 0) hC hr hlk hO.same rfl (Nat.le_of_ble_eq_true rfl) (Nat.le_of_ble_eq_true rfl) (⟨rfl, rfl⟩) ddJ0_coder_7d493_14

def wq_k_length_2 : List Cond := Cond.code yJ0_length_8abf5 cJ0_length_8abf5 1 (some .int) :: (([Cond.fieldLink RJ0 9 "java/lang/String" "value" "[B", Cond.methodLink RJ0 335 yJ0_coder_7d493, Cond.instanceMethod yJ0_coder_7d493, Cond.selects RJ0 yJ0_coder_7d493 yJ0_coder_7d493, Cond.initialized RJ0, Cond.code yJ0_coder_7d493 cJ0_coder_7d493 1 (some .byte), Cond.fieldLink RJ0 38 "java/lang/String" "COMPACT_STRINGS" "Z", Cond.fieldLink RJ0 15 "java/lang/String" "coder" "B"] : List Cond))
set_option maxRecDepth 20000 in
theorem gr_k_length_2_k_coder_2 : GoodIn wq_k_length_2 wq_k_coder_2 := List.forall_mem_cons.mpr ⟨⟨(List.mem_of_getElem? (i := 6) rfl), good_of_word rfl⟩, List.forall_mem_cons.mpr ⟨⟨(List.mem_of_getElem? (i := 7) rfl), good_of_word rfl⟩, List.forall_mem_cons.mpr ⟨⟨(List.mem_of_getElem? (i := 8) rfl), good_of_word rfl⟩, (fun _ h => absurd h List.not_mem_nil)⟩⟩⟩
set_option maxRecDepth 20000 in
theorem gq_k_length_2_k_coder_2_335 : GoodIn wq_k_length_2 (wsV RJ0 335 RJ0 yJ0_coder_7d493 wq_k_coder_2) := goodIn_app (List.forall_mem_cons.mpr ⟨⟨(List.mem_of_getElem? (i := 2) rfl), good_of_word rfl⟩, List.forall_mem_cons.mpr ⟨⟨(List.mem_of_getElem? (i := 3) rfl), good_of_word rfl⟩, List.forall_mem_cons.mpr ⟨⟨(List.mem_of_getElem? (i := 4) rfl), good_of_word rfl⟩, List.forall_mem_cons.mpr ⟨⟨(List.mem_of_getElem? (i := 5) rfl), good_of_word rfl⟩, (fun _ h => absurd h List.not_mem_nil)⟩⟩⟩⟩) gr_k_length_2_k_coder_2
set_option maxHeartbeats 8000000 in
set_option maxRecDepth 100000 in
theorem k_length_2 (l : Launch) (D : va_G) (cy : Nat → ClassId) (ad : Nat → Nat) (g : Nat → va_E)   : cMi l yJ0_length_8abf5 wq_k_length_2 { frames := 1, cells := 0, slots := 0, locals := 20 } 0 0 0 0 D cy ad g [.ref (cy (100 + 2))] (fun r nw lu => (r = 4) ∧ (lu = [])) := by
  refine cM_of (Qc := fun A => cQi (fun r nw lu => (r = 4) ∧ (lu = [])) D 0 0 ad g A) (cc := cJ0_length_8abf5) (maxL := 1) (ret := (some .int)) (by decide) rfl (Nat.le_of_ble_eq_true rfl) ?_
  intro p e s m below meth c A hC hr hlk hnm hO ls hl
  have hC : CallFix p m c cJ0_length_8abf5 1 s [.ref (cy (100 + 2))].toArray wq_k_length_2 RJ0 := hC
  obtain ⟨hx, hb, hml, hown, hts⟩ := id hC
  have hl : lv_has ls 1 [(0, .ref (cy (100 + 2)))] := hl
  refine lv_aload_n hx hb ddJ0_length_8abf5_0 rfl (lv_at hl 0 rfl) ?_
  refine sg_val hC hO 2 (by decide) (List.mem_of_getElem? (i := 1) rfl) ddJ0_length_8abf5_1 ?_
  refine sg_len hC hO 2 (by decide) (v := 4) rfl ddJ0_length_8abf5_4 ?_
  refine lv_aload_n hx hb ddJ0_length_8abf5_5 rfl (lv_at hl 0 rfl) ?_
  refine sg_Vi (As := []) (rest := [.int 4]) (mc := 0) (ms := 0) (rm := { frames := 0, cells := 0, slots := 0, locals := 0 }) hC hl.1 hO [] (by decide +kernel) 2 (by decide) (k_coder_2 l D cy _ _  ) gq_k_length_2_k_coder_2_335 rfl rfl rfl 0 (by decide +kernel) ⟨Nat.le_of_ble_eq_true rfl, Nat.le_of_ble_eq_true rfl⟩ rfl rfl (Nat.le_of_ble_eq_true rfl) ddJ0_length_8abf5_6 ⟨Nat.le_of_ble_eq_true rfl, Nat.le_of_ble_eq_true rfl⟩ (fun r_6_6 nw_6_4 l_6_5 H locs hw hO => ?_)
  obtain ⟨rfl, rfl⟩ := hw
  have hO : cO D cy A s.heap s 0 ad (cup [] g) _ _ := hO
  refine lv_ishr hx hb ddJ0_length_8abf5_9 ?_
  refine cg_ev (v := 4) (by decide) ?_
  exact cg_iret (nw := fun _ => 0) hC hr hlk hO.same rfl (Nat.le_of_ble_eq_true rfl) (Nat.le_of_ble_eq_true rfl) (⟨rfl, rfl⟩) ddJ0_length_8abf5_10

def wq_k_coder_3 : List Cond := Cond.code yJ0_coder_7d493 cJ0_coder_7d493 1 (some .byte) :: (([Cond.fieldLink RJ0 38 "java/lang/String" "COMPACT_STRINGS" "Z", Cond.fieldLink RJ0 15 "java/lang/String" "coder" "B"] : List Cond))
set_option maxHeartbeats 8000000 in
set_option maxRecDepth 100000 in
theorem k_coder_3 (l : Launch) (D : va_G) (cy : Nat → ClassId) (ad : Nat → Nat) (g : Nat → va_E)   : cMi l yJ0_coder_7d493 wq_k_coder_3 { frames := 0, cells := 0, slots := 0, locals := 0 } 0 0 0 0 D cy ad g [.ref (cy (100 + 3))] (fun r nw lu => (r = 0) ∧ (lu = [])) := by
  refine cM_of (Qc := fun A => cQi (fun r nw lu => (r = 0) ∧ (lu = [])) D 0 0 ad g A) (cc := cJ0_coder_7d493) (maxL := 1) (ret := (some .byte)) (by decide) rfl (Nat.le_of_ble_eq_true rfl) ?_
  intro p e s m below meth c A hC hr hlk hnm hO ls hl
  have hC : CallFix p m c cJ0_coder_7d493 1 s [.ref (cy (100 + 3))].toArray wq_k_coder_3 RJ0 := hC
  obtain ⟨hx, hb, hml, hown, hts⟩ := id hC
  have hl : lv_has ls 1 [(0, .ref (cy (100 + 3)))] := hl
  refine sg_com hC hO (List.mem_of_getElem? (i := 1) rfl) ddJ0_coder_7d493_0 ?_
  refine lv_if_eq (tgt := 13) hx hb ddJ0_coder_7d493_3 (by decide) (fun h => absurd h (by decide)) (fun _ => ?_)
  refine lv_aload_n hx hb ddJ0_coder_7d493_6 rfl (lv_at hl 0 rfl) ?_
  refine sg_cod hC hO 3 (by decide) (List.mem_of_getElem? (i := 2) rfl) ddJ0_coder_7d493_7 ?_
  refine lv_goto (tgt := 14) hx hb ddJ0_coder_7d493_10 (by decide) ?_
  exact cg_iret (nw := fun _ => 0) hC hr hlk hO.same rfl (Nat.le_of_ble_eq_true rfl) (Nat.le_of_ble_eq_true rfl) (⟨rfl, rfl⟩) ddJ0_coder_7d493_14

def wq_k_length_3 : List Cond := Cond.code yJ0_length_8abf5 cJ0_length_8abf5 1 (some .int) :: (([Cond.fieldLink RJ0 9 "java/lang/String" "value" "[B", Cond.methodLink RJ0 335 yJ0_coder_7d493, Cond.instanceMethod yJ0_coder_7d493, Cond.selects RJ0 yJ0_coder_7d493 yJ0_coder_7d493, Cond.initialized RJ0, Cond.code yJ0_coder_7d493 cJ0_coder_7d493 1 (some .byte), Cond.fieldLink RJ0 38 "java/lang/String" "COMPACT_STRINGS" "Z", Cond.fieldLink RJ0 15 "java/lang/String" "coder" "B"] : List Cond))
set_option maxRecDepth 20000 in
theorem gr_k_length_3_k_coder_3 : GoodIn wq_k_length_3 wq_k_coder_3 := List.forall_mem_cons.mpr ⟨⟨(List.mem_of_getElem? (i := 6) rfl), good_of_word rfl⟩, List.forall_mem_cons.mpr ⟨⟨(List.mem_of_getElem? (i := 7) rfl), good_of_word rfl⟩, List.forall_mem_cons.mpr ⟨⟨(List.mem_of_getElem? (i := 8) rfl), good_of_word rfl⟩, (fun _ h => absurd h List.not_mem_nil)⟩⟩⟩
set_option maxRecDepth 20000 in
theorem gq_k_length_3_k_coder_3_335 : GoodIn wq_k_length_3 (wsV RJ0 335 RJ0 yJ0_coder_7d493 wq_k_coder_3) := goodIn_app (List.forall_mem_cons.mpr ⟨⟨(List.mem_of_getElem? (i := 2) rfl), good_of_word rfl⟩, List.forall_mem_cons.mpr ⟨⟨(List.mem_of_getElem? (i := 3) rfl), good_of_word rfl⟩, List.forall_mem_cons.mpr ⟨⟨(List.mem_of_getElem? (i := 4) rfl), good_of_word rfl⟩, List.forall_mem_cons.mpr ⟨⟨(List.mem_of_getElem? (i := 5) rfl), good_of_word rfl⟩, (fun _ h => absurd h List.not_mem_nil)⟩⟩⟩⟩) gr_k_length_3_k_coder_3
set_option maxHeartbeats 8000000 in
set_option maxRecDepth 100000 in
theorem k_length_3 (l : Launch) (D : va_G) (cy : Nat → ClassId) (ad : Nat → Nat) (g : Nat → va_E)   : cMi l yJ0_length_8abf5 wq_k_length_3 { frames := 1, cells := 0, slots := 0, locals := 20 } 0 0 0 0 D cy ad g [.ref (cy (100 + 3))] (fun r nw lu => (r = 3) ∧ (lu = [])) := by
  refine cM_of (Qc := fun A => cQi (fun r nw lu => (r = 3) ∧ (lu = [])) D 0 0 ad g A) (cc := cJ0_length_8abf5) (maxL := 1) (ret := (some .int)) (by decide) rfl (Nat.le_of_ble_eq_true rfl) ?_
  intro p e s m below meth c A hC hr hlk hnm hO ls hl
  have hC : CallFix p m c cJ0_length_8abf5 1 s [.ref (cy (100 + 3))].toArray wq_k_length_3 RJ0 := hC
  obtain ⟨hx, hb, hml, hown, hts⟩ := id hC
  have hl : lv_has ls 1 [(0, .ref (cy (100 + 3)))] := hl
  refine lv_aload_n hx hb ddJ0_length_8abf5_0 rfl (lv_at hl 0 rfl) ?_
  refine sg_val hC hO 3 (by decide) (List.mem_of_getElem? (i := 1) rfl) ddJ0_length_8abf5_1 ?_
  refine sg_len hC hO 3 (by decide) (v := 3) rfl ddJ0_length_8abf5_4 ?_
  refine lv_aload_n hx hb ddJ0_length_8abf5_5 rfl (lv_at hl 0 rfl) ?_
  refine sg_Vi (As := []) (rest := [.int 3]) (mc := 0) (ms := 0) (rm := { frames := 0, cells := 0, slots := 0, locals := 0 }) hC hl.1 hO [] (by decide +kernel) 3 (by decide) (k_coder_3 l D cy _ _  ) gq_k_length_3_k_coder_3_335 rfl rfl rfl 0 (by decide +kernel) ⟨Nat.le_of_ble_eq_true rfl, Nat.le_of_ble_eq_true rfl⟩ rfl rfl (Nat.le_of_ble_eq_true rfl) ddJ0_length_8abf5_6 ⟨Nat.le_of_ble_eq_true rfl, Nat.le_of_ble_eq_true rfl⟩ (fun r_6_6 nw_6_4 l_6_5 H locs hw hO => ?_)
  obtain ⟨rfl, rfl⟩ := hw
  have hO : cO D cy A s.heap s 0 ad (cup [] g) _ _ := hO
  refine lv_ishr hx hb ddJ0_length_8abf5_9 ?_
  refine cg_ev (v := 3) (by decide) ?_
  exact cg_iret (nw := fun _ => 0) hC hr hlk hO.same rfl (Nat.le_of_ble_eq_true rfl) (Nat.le_of_ble_eq_true rfl) (⟨rfl, rfl⟩) ddJ0_length_8abf5_10

def wq_k_coder_4 : List Cond := Cond.code yJ0_coder_7d493 cJ0_coder_7d493 1 (some .byte) :: (([Cond.fieldLink RJ0 38 "java/lang/String" "COMPACT_STRINGS" "Z", Cond.fieldLink RJ0 15 "java/lang/String" "coder" "B"] : List Cond))
set_option maxHeartbeats 8000000 in
set_option maxRecDepth 100000 in
theorem k_coder_4 (l : Launch) (D : va_G) (cy : Nat → ClassId) (ad : Nat → Nat) (g : Nat → va_E)   : cMi l yJ0_coder_7d493 wq_k_coder_4 { frames := 0, cells := 0, slots := 0, locals := 0 } 0 0 0 0 D cy ad g [.ref (cy (100 + 4))] (fun r nw lu => (r = 0) ∧ (lu = [])) := by
  refine cM_of (Qc := fun A => cQi (fun r nw lu => (r = 0) ∧ (lu = [])) D 0 0 ad g A) (cc := cJ0_coder_7d493) (maxL := 1) (ret := (some .byte)) (by decide) rfl (Nat.le_of_ble_eq_true rfl) ?_
  intro p e s m below meth c A hC hr hlk hnm hO ls hl
  have hC : CallFix p m c cJ0_coder_7d493 1 s [.ref (cy (100 + 4))].toArray wq_k_coder_4 RJ0 := hC
  obtain ⟨hx, hb, hml, hown, hts⟩ := id hC
  have hl : lv_has ls 1 [(0, .ref (cy (100 + 4)))] := hl
  refine sg_com hC hO (List.mem_of_getElem? (i := 1) rfl) ddJ0_coder_7d493_0 ?_
  refine lv_if_eq (tgt := 13) hx hb ddJ0_coder_7d493_3 (by decide) (fun h => absurd h (by decide)) (fun _ => ?_)
  refine lv_aload_n hx hb ddJ0_coder_7d493_6 rfl (lv_at hl 0 rfl) ?_
  refine sg_cod hC hO 4 (by decide) (List.mem_of_getElem? (i := 2) rfl) ddJ0_coder_7d493_7 ?_
  refine lv_goto (tgt := 14) hx hb ddJ0_coder_7d493_10 (by decide) ?_
  exact cg_iret (nw := fun _ => 0) hC hr hlk hO.same rfl (Nat.le_of_ble_eq_true rfl) (Nat.le_of_ble_eq_true rfl) (⟨rfl, rfl⟩) ddJ0_coder_7d493_14

def wq_k_length_4 : List Cond := Cond.code yJ0_length_8abf5 cJ0_length_8abf5 1 (some .int) :: (([Cond.fieldLink RJ0 9 "java/lang/String" "value" "[B", Cond.methodLink RJ0 335 yJ0_coder_7d493, Cond.instanceMethod yJ0_coder_7d493, Cond.selects RJ0 yJ0_coder_7d493 yJ0_coder_7d493, Cond.initialized RJ0, Cond.code yJ0_coder_7d493 cJ0_coder_7d493 1 (some .byte), Cond.fieldLink RJ0 38 "java/lang/String" "COMPACT_STRINGS" "Z", Cond.fieldLink RJ0 15 "java/lang/String" "coder" "B"] : List Cond))
set_option maxRecDepth 20000 in
theorem gr_k_length_4_k_coder_4 : GoodIn wq_k_length_4 wq_k_coder_4 := List.forall_mem_cons.mpr ⟨⟨(List.mem_of_getElem? (i := 6) rfl), good_of_word rfl⟩, List.forall_mem_cons.mpr ⟨⟨(List.mem_of_getElem? (i := 7) rfl), good_of_word rfl⟩, List.forall_mem_cons.mpr ⟨⟨(List.mem_of_getElem? (i := 8) rfl), good_of_word rfl⟩, (fun _ h => absurd h List.not_mem_nil)⟩⟩⟩
set_option maxRecDepth 20000 in
theorem gq_k_length_4_k_coder_4_335 : GoodIn wq_k_length_4 (wsV RJ0 335 RJ0 yJ0_coder_7d493 wq_k_coder_4) := goodIn_app (List.forall_mem_cons.mpr ⟨⟨(List.mem_of_getElem? (i := 2) rfl), good_of_word rfl⟩, List.forall_mem_cons.mpr ⟨⟨(List.mem_of_getElem? (i := 3) rfl), good_of_word rfl⟩, List.forall_mem_cons.mpr ⟨⟨(List.mem_of_getElem? (i := 4) rfl), good_of_word rfl⟩, List.forall_mem_cons.mpr ⟨⟨(List.mem_of_getElem? (i := 5) rfl), good_of_word rfl⟩, (fun _ h => absurd h List.not_mem_nil)⟩⟩⟩⟩) gr_k_length_4_k_coder_4
set_option maxHeartbeats 8000000 in
set_option maxRecDepth 100000 in
theorem k_length_4 (l : Launch) (D : va_G) (cy : Nat → ClassId) (ad : Nat → Nat) (g : Nat → va_E)   : cMi l yJ0_length_8abf5 wq_k_length_4 { frames := 1, cells := 0, slots := 0, locals := 20 } 0 0 0 0 D cy ad g [.ref (cy (100 + 4))] (fun r nw lu => (r = 6) ∧ (lu = [])) := by
  refine cM_of (Qc := fun A => cQi (fun r nw lu => (r = 6) ∧ (lu = [])) D 0 0 ad g A) (cc := cJ0_length_8abf5) (maxL := 1) (ret := (some .int)) (by decide) rfl (Nat.le_of_ble_eq_true rfl) ?_
  intro p e s m below meth c A hC hr hlk hnm hO ls hl
  have hC : CallFix p m c cJ0_length_8abf5 1 s [.ref (cy (100 + 4))].toArray wq_k_length_4 RJ0 := hC
  obtain ⟨hx, hb, hml, hown, hts⟩ := id hC
  have hl : lv_has ls 1 [(0, .ref (cy (100 + 4)))] := hl
  refine lv_aload_n hx hb ddJ0_length_8abf5_0 rfl (lv_at hl 0 rfl) ?_
  refine sg_val hC hO 4 (by decide) (List.mem_of_getElem? (i := 1) rfl) ddJ0_length_8abf5_1 ?_
  refine sg_len hC hO 4 (by decide) (v := 6) rfl ddJ0_length_8abf5_4 ?_
  refine lv_aload_n hx hb ddJ0_length_8abf5_5 rfl (lv_at hl 0 rfl) ?_
  refine sg_Vi (As := []) (rest := [.int 6]) (mc := 0) (ms := 0) (rm := { frames := 0, cells := 0, slots := 0, locals := 0 }) hC hl.1 hO [] (by decide +kernel) 4 (by decide) (k_coder_4 l D cy _ _  ) gq_k_length_4_k_coder_4_335 rfl rfl rfl 0 (by decide +kernel) ⟨Nat.le_of_ble_eq_true rfl, Nat.le_of_ble_eq_true rfl⟩ rfl rfl (Nat.le_of_ble_eq_true rfl) ddJ0_length_8abf5_6 ⟨Nat.le_of_ble_eq_true rfl, Nat.le_of_ble_eq_true rfl⟩ (fun r_6_6 nw_6_4 l_6_5 H locs hw hO => ?_)
  obtain ⟨rfl, rfl⟩ := hw
  have hO : cO D cy A s.heap s 0 ad (cup [] g) _ _ := hO
  refine lv_ishr hx hb ddJ0_length_8abf5_9 ?_
  refine cg_ev (v := 6) (by decide) ?_
  exact cg_iret (nw := fun _ => 0) hC hr hlk hO.same rfl (Nat.le_of_ble_eq_true rfl) (Nat.le_of_ble_eq_true rfl) (⟨rfl, rfl⟩) ddJ0_length_8abf5_10

def wq_k_coder_5 : List Cond := Cond.code yJ0_coder_7d493 cJ0_coder_7d493 1 (some .byte) :: (([Cond.fieldLink RJ0 38 "java/lang/String" "COMPACT_STRINGS" "Z", Cond.fieldLink RJ0 15 "java/lang/String" "coder" "B"] : List Cond))
set_option maxHeartbeats 8000000 in
set_option maxRecDepth 100000 in
theorem k_coder_5 (l : Launch) (D : va_G) (cy : Nat → ClassId) (ad : Nat → Nat) (g : Nat → va_E)   : cMi l yJ0_coder_7d493 wq_k_coder_5 { frames := 0, cells := 0, slots := 0, locals := 0 } 0 0 0 0 D cy ad g [.ref (cy (100 + 5))] (fun r nw lu => (r = 0) ∧ (lu = [])) := by
  refine cM_of (Qc := fun A => cQi (fun r nw lu => (r = 0) ∧ (lu = [])) D 0 0 ad g A) (cc := cJ0_coder_7d493) (maxL := 1) (ret := (some .byte)) (by decide) rfl (Nat.le_of_ble_eq_true rfl) ?_
  intro p e s m below meth c A hC hr hlk hnm hO ls hl
  have hC : CallFix p m c cJ0_coder_7d493 1 s [.ref (cy (100 + 5))].toArray wq_k_coder_5 RJ0 := hC
  obtain ⟨hx, hb, hml, hown, hts⟩ := id hC
  have hl : lv_has ls 1 [(0, .ref (cy (100 + 5)))] := hl
  refine sg_com hC hO (List.mem_of_getElem? (i := 1) rfl) ddJ0_coder_7d493_0 ?_
  refine lv_if_eq (tgt := 13) hx hb ddJ0_coder_7d493_3 (by decide) (fun h => absurd h (by decide)) (fun _ => ?_)
  refine lv_aload_n hx hb ddJ0_coder_7d493_6 rfl (lv_at hl 0 rfl) ?_
  refine sg_cod hC hO 5 (by decide) (List.mem_of_getElem? (i := 2) rfl) ddJ0_coder_7d493_7 ?_
  refine lv_goto (tgt := 14) hx hb ddJ0_coder_7d493_10 (by decide) ?_
  exact cg_iret (nw := fun _ => 0) hC hr hlk hO.same rfl (Nat.le_of_ble_eq_true rfl) (Nat.le_of_ble_eq_true rfl) (⟨rfl, rfl⟩) ddJ0_coder_7d493_14

def wq_k_length_5 : List Cond := Cond.code yJ0_length_8abf5 cJ0_length_8abf5 1 (some .int) :: (([Cond.fieldLink RJ0 9 "java/lang/String" "value" "[B", Cond.methodLink RJ0 335 yJ0_coder_7d493, Cond.instanceMethod yJ0_coder_7d493, Cond.selects RJ0 yJ0_coder_7d493 yJ0_coder_7d493, Cond.initialized RJ0, Cond.code yJ0_coder_7d493 cJ0_coder_7d493 1 (some .byte), Cond.fieldLink RJ0 38 "java/lang/String" "COMPACT_STRINGS" "Z", Cond.fieldLink RJ0 15 "java/lang/String" "coder" "B"] : List Cond))
set_option maxRecDepth 20000 in
theorem gr_k_length_5_k_coder_5 : GoodIn wq_k_length_5 wq_k_coder_5 := List.forall_mem_cons.mpr ⟨⟨(List.mem_of_getElem? (i := 6) rfl), good_of_word rfl⟩, List.forall_mem_cons.mpr ⟨⟨(List.mem_of_getElem? (i := 7) rfl), good_of_word rfl⟩, List.forall_mem_cons.mpr ⟨⟨(List.mem_of_getElem? (i := 8) rfl), good_of_word rfl⟩, (fun _ h => absurd h List.not_mem_nil)⟩⟩⟩
set_option maxRecDepth 20000 in
theorem gq_k_length_5_k_coder_5_335 : GoodIn wq_k_length_5 (wsV RJ0 335 RJ0 yJ0_coder_7d493 wq_k_coder_5) := goodIn_app (List.forall_mem_cons.mpr ⟨⟨(List.mem_of_getElem? (i := 2) rfl), good_of_word rfl⟩, List.forall_mem_cons.mpr ⟨⟨(List.mem_of_getElem? (i := 3) rfl), good_of_word rfl⟩, List.forall_mem_cons.mpr ⟨⟨(List.mem_of_getElem? (i := 4) rfl), good_of_word rfl⟩, List.forall_mem_cons.mpr ⟨⟨(List.mem_of_getElem? (i := 5) rfl), good_of_word rfl⟩, (fun _ h => absurd h List.not_mem_nil)⟩⟩⟩⟩) gr_k_length_5_k_coder_5
set_option maxHeartbeats 8000000 in
set_option maxRecDepth 100000 in
theorem k_length_5 (l : Launch) (D : va_G) (cy : Nat → ClassId) (ad : Nat → Nat) (g : Nat → va_E)   : cMi l yJ0_length_8abf5 wq_k_length_5 { frames := 1, cells := 0, slots := 0, locals := 20 } 0 0 0 0 D cy ad g [.ref (cy (100 + 5))] (fun r nw lu => (r = 3) ∧ (lu = [])) := by
  refine cM_of (Qc := fun A => cQi (fun r nw lu => (r = 3) ∧ (lu = [])) D 0 0 ad g A) (cc := cJ0_length_8abf5) (maxL := 1) (ret := (some .int)) (by decide) rfl (Nat.le_of_ble_eq_true rfl) ?_
  intro p e s m below meth c A hC hr hlk hnm hO ls hl
  have hC : CallFix p m c cJ0_length_8abf5 1 s [.ref (cy (100 + 5))].toArray wq_k_length_5 RJ0 := hC
  obtain ⟨hx, hb, hml, hown, hts⟩ := id hC
  have hl : lv_has ls 1 [(0, .ref (cy (100 + 5)))] := hl
  refine lv_aload_n hx hb ddJ0_length_8abf5_0 rfl (lv_at hl 0 rfl) ?_
  refine sg_val hC hO 5 (by decide) (List.mem_of_getElem? (i := 1) rfl) ddJ0_length_8abf5_1 ?_
  refine sg_len hC hO 5 (by decide) (v := 3) rfl ddJ0_length_8abf5_4 ?_
  refine lv_aload_n hx hb ddJ0_length_8abf5_5 rfl (lv_at hl 0 rfl) ?_
  refine sg_Vi (As := []) (rest := [.int 3]) (mc := 0) (ms := 0) (rm := { frames := 0, cells := 0, slots := 0, locals := 0 }) hC hl.1 hO [] (by decide +kernel) 5 (by decide) (k_coder_5 l D cy _ _  ) gq_k_length_5_k_coder_5_335 rfl rfl rfl 0 (by decide +kernel) ⟨Nat.le_of_ble_eq_true rfl, Nat.le_of_ble_eq_true rfl⟩ rfl rfl (Nat.le_of_ble_eq_true rfl) ddJ0_length_8abf5_6 ⟨Nat.le_of_ble_eq_true rfl, Nat.le_of_ble_eq_true rfl⟩ (fun r_6_6 nw_6_4 l_6_5 H locs hw hO => ?_)
  obtain ⟨rfl, rfl⟩ := hw
  have hO : cO D cy A s.heap s 0 ad (cup [] g) _ _ := hO
  refine lv_ishr hx hb ddJ0_length_8abf5_9 ?_
  refine cg_ev (v := 3) (by decide) ?_
  exact cg_iret (nw := fun _ => 0) hC hr hlk hO.same rfl (Nat.le_of_ble_eq_true rfl) (Nat.le_of_ble_eq_true rfl) (⟨rfl, rfl⟩) ddJ0_length_8abf5_10

def wq_k_coder_6 : List Cond := Cond.code yJ0_coder_7d493 cJ0_coder_7d493 1 (some .byte) :: (([Cond.fieldLink RJ0 38 "java/lang/String" "COMPACT_STRINGS" "Z", Cond.fieldLink RJ0 15 "java/lang/String" "coder" "B"] : List Cond))
set_option maxHeartbeats 8000000 in
set_option maxRecDepth 100000 in
theorem k_coder_6 (l : Launch) (D : va_G) (cy : Nat → ClassId) (ad : Nat → Nat) (g : Nat → va_E)   : cMi l yJ0_coder_7d493 wq_k_coder_6 { frames := 0, cells := 0, slots := 0, locals := 0 } 0 0 0 0 D cy ad g [.ref (cy (100 + 6))] (fun r nw lu => (r = 0) ∧ (lu = [])) := by
  refine cM_of (Qc := fun A => cQi (fun r nw lu => (r = 0) ∧ (lu = [])) D 0 0 ad g A) (cc := cJ0_coder_7d493) (maxL := 1) (ret := (some .byte)) (by decide) rfl (Nat.le_of_ble_eq_true rfl) ?_
  intro p e s m below meth c A hC hr hlk hnm hO ls hl
  have hC : CallFix p m c cJ0_coder_7d493 1 s [.ref (cy (100 + 6))].toArray wq_k_coder_6 RJ0 := hC
  obtain ⟨hx, hb, hml, hown, hts⟩ := id hC
  have hl : lv_has ls 1 [(0, .ref (cy (100 + 6)))] := hl
  refine sg_com hC hO (List.mem_of_getElem? (i := 1) rfl) ddJ0_coder_7d493_0 ?_
  refine lv_if_eq (tgt := 13) hx hb ddJ0_coder_7d493_3 (by decide) (fun h => absurd h (by decide)) (fun _ => ?_)
  refine lv_aload_n hx hb ddJ0_coder_7d493_6 rfl (lv_at hl 0 rfl) ?_
  refine sg_cod hC hO 6 (by decide) (List.mem_of_getElem? (i := 2) rfl) ddJ0_coder_7d493_7 ?_
  refine lv_goto (tgt := 14) hx hb ddJ0_coder_7d493_10 (by decide) ?_
  exact cg_iret (nw := fun _ => 0) hC hr hlk hO.same rfl (Nat.le_of_ble_eq_true rfl) (Nat.le_of_ble_eq_true rfl) (⟨rfl, rfl⟩) ddJ0_coder_7d493_14

def wq_k_length_6 : List Cond := Cond.code yJ0_length_8abf5 cJ0_length_8abf5 1 (some .int) :: (([Cond.fieldLink RJ0 9 "java/lang/String" "value" "[B", Cond.methodLink RJ0 335 yJ0_coder_7d493, Cond.instanceMethod yJ0_coder_7d493, Cond.selects RJ0 yJ0_coder_7d493 yJ0_coder_7d493, Cond.initialized RJ0, Cond.code yJ0_coder_7d493 cJ0_coder_7d493 1 (some .byte), Cond.fieldLink RJ0 38 "java/lang/String" "COMPACT_STRINGS" "Z", Cond.fieldLink RJ0 15 "java/lang/String" "coder" "B"] : List Cond))
set_option maxRecDepth 20000 in
theorem gr_k_length_6_k_coder_6 : GoodIn wq_k_length_6 wq_k_coder_6 := List.forall_mem_cons.mpr ⟨⟨(List.mem_of_getElem? (i := 6) rfl), good_of_word rfl⟩, List.forall_mem_cons.mpr ⟨⟨(List.mem_of_getElem? (i := 7) rfl), good_of_word rfl⟩, List.forall_mem_cons.mpr ⟨⟨(List.mem_of_getElem? (i := 8) rfl), good_of_word rfl⟩, (fun _ h => absurd h List.not_mem_nil)⟩⟩⟩
set_option maxRecDepth 20000 in
theorem gq_k_length_6_k_coder_6_335 : GoodIn wq_k_length_6 (wsV RJ0 335 RJ0 yJ0_coder_7d493 wq_k_coder_6) := goodIn_app (List.forall_mem_cons.mpr ⟨⟨(List.mem_of_getElem? (i := 2) rfl), good_of_word rfl⟩, List.forall_mem_cons.mpr ⟨⟨(List.mem_of_getElem? (i := 3) rfl), good_of_word rfl⟩, List.forall_mem_cons.mpr ⟨⟨(List.mem_of_getElem? (i := 4) rfl), good_of_word rfl⟩, List.forall_mem_cons.mpr ⟨⟨(List.mem_of_getElem? (i := 5) rfl), good_of_word rfl⟩, (fun _ h => absurd h List.not_mem_nil)⟩⟩⟩⟩) gr_k_length_6_k_coder_6
set_option maxHeartbeats 8000000 in
set_option maxRecDepth 100000 in
theorem k_length_6 (l : Launch) (D : va_G) (cy : Nat → ClassId) (ad : Nat → Nat) (g : Nat → va_E)   : cMi l yJ0_length_8abf5 wq_k_length_6 { frames := 1, cells := 0, slots := 0, locals := 20 } 0 0 0 0 D cy ad g [.ref (cy (100 + 6))] (fun r nw lu => (r = 5) ∧ (lu = [])) := by
  refine cM_of (Qc := fun A => cQi (fun r nw lu => (r = 5) ∧ (lu = [])) D 0 0 ad g A) (cc := cJ0_length_8abf5) (maxL := 1) (ret := (some .int)) (by decide) rfl (Nat.le_of_ble_eq_true rfl) ?_
  intro p e s m below meth c A hC hr hlk hnm hO ls hl
  have hC : CallFix p m c cJ0_length_8abf5 1 s [.ref (cy (100 + 6))].toArray wq_k_length_6 RJ0 := hC
  obtain ⟨hx, hb, hml, hown, hts⟩ := id hC
  have hl : lv_has ls 1 [(0, .ref (cy (100 + 6)))] := hl
  refine lv_aload_n hx hb ddJ0_length_8abf5_0 rfl (lv_at hl 0 rfl) ?_
  refine sg_val hC hO 6 (by decide) (List.mem_of_getElem? (i := 1) rfl) ddJ0_length_8abf5_1 ?_
  refine sg_len hC hO 6 (by decide) (v := 5) rfl ddJ0_length_8abf5_4 ?_
  refine lv_aload_n hx hb ddJ0_length_8abf5_5 rfl (lv_at hl 0 rfl) ?_
  refine sg_Vi (As := []) (rest := [.int 5]) (mc := 0) (ms := 0) (rm := { frames := 0, cells := 0, slots := 0, locals := 0 }) hC hl.1 hO [] (by decide +kernel) 6 (by decide) (k_coder_6 l D cy _ _  ) gq_k_length_6_k_coder_6_335 rfl rfl rfl 0 (by decide +kernel) ⟨Nat.le_of_ble_eq_true rfl, Nat.le_of_ble_eq_true rfl⟩ rfl rfl (Nat.le_of_ble_eq_true rfl) ddJ0_length_8abf5_6 ⟨Nat.le_of_ble_eq_true rfl, Nat.le_of_ble_eq_true rfl⟩ (fun r_6_6 nw_6_4 l_6_5 H locs hw hO => ?_)
  obtain ⟨rfl, rfl⟩ := hw
  have hO : cO D cy A s.heap s 0 ad (cup [] g) _ _ := hO
  refine lv_ishr hx hb ddJ0_length_8abf5_9 ?_
  refine cg_ev (v := 5) (by decide) ?_
  exact cg_iret (nw := fun _ => 0) hC hr hlk hO.same rfl (Nat.le_of_ble_eq_true rfl) (Nat.le_of_ble_eq_true rfl) (⟨rfl, rfl⟩) ddJ0_length_8abf5_10

def wq_k_coder_7 : List Cond := Cond.code yJ0_coder_7d493 cJ0_coder_7d493 1 (some .byte) :: (([Cond.fieldLink RJ0 38 "java/lang/String" "COMPACT_STRINGS" "Z", Cond.fieldLink RJ0 15 "java/lang/String" "coder" "B"] : List Cond))
set_option maxHeartbeats 8000000 in
set_option maxRecDepth 100000 in
theorem k_coder_7 (l : Launch) (D : va_G) (cy : Nat → ClassId) (ad : Nat → Nat) (g : Nat → va_E)   : cMi l yJ0_coder_7d493 wq_k_coder_7 { frames := 0, cells := 0, slots := 0, locals := 0 } 0 0 0 0 D cy ad g [.ref (cy (100 + 7))] (fun r nw lu => (r = 0) ∧ (lu = [])) := by
  refine cM_of (Qc := fun A => cQi (fun r nw lu => (r = 0) ∧ (lu = [])) D 0 0 ad g A) (cc := cJ0_coder_7d493) (maxL := 1) (ret := (some .byte)) (by decide) rfl (Nat.le_of_ble_eq_true rfl) ?_
  intro p e s m below meth c A hC hr hlk hnm hO ls hl
  have hC : CallFix p m c cJ0_coder_7d493 1 s [.ref (cy (100 + 7))].toArray wq_k_coder_7 RJ0 := hC
  obtain ⟨hx, hb, hml, hown, hts⟩ := id hC
  have hl : lv_has ls 1 [(0, .ref (cy (100 + 7)))] := hl
  refine sg_com hC hO (List.mem_of_getElem? (i := 1) rfl) ddJ0_coder_7d493_0 ?_
  refine lv_if_eq (tgt := 13) hx hb ddJ0_coder_7d493_3 (by decide) (fun h => absurd h (by decide)) (fun _ => ?_)
  refine lv_aload_n hx hb ddJ0_coder_7d493_6 rfl (lv_at hl 0 rfl) ?_
  refine sg_cod hC hO 7 (by decide) (List.mem_of_getElem? (i := 2) rfl) ddJ0_coder_7d493_7 ?_
  refine lv_goto (tgt := 14) hx hb ddJ0_coder_7d493_10 (by decide) ?_
  exact cg_iret (nw := fun _ => 0) hC hr hlk hO.same rfl (Nat.le_of_ble_eq_true rfl) (Nat.le_of_ble_eq_true rfl) (⟨rfl, rfl⟩) ddJ0_coder_7d493_14

def wq_k_length_7 : List Cond := Cond.code yJ0_length_8abf5 cJ0_length_8abf5 1 (some .int) :: (([Cond.fieldLink RJ0 9 "java/lang/String" "value" "[B", Cond.methodLink RJ0 335 yJ0_coder_7d493, Cond.instanceMethod yJ0_coder_7d493, Cond.selects RJ0 yJ0_coder_7d493 yJ0_coder_7d493, Cond.initialized RJ0, Cond.code yJ0_coder_7d493 cJ0_coder_7d493 1 (some .byte), Cond.fieldLink RJ0 38 "java/lang/String" "COMPACT_STRINGS" "Z", Cond.fieldLink RJ0 15 "java/lang/String" "coder" "B"] : List Cond))
set_option maxRecDepth 20000 in
theorem gr_k_length_7_k_coder_7 : GoodIn wq_k_length_7 wq_k_coder_7 := List.forall_mem_cons.mpr ⟨⟨(List.mem_of_getElem? (i := 6) rfl), good_of_word rfl⟩, List.forall_mem_cons.mpr ⟨⟨(List.mem_of_getElem? (i := 7) rfl), good_of_word rfl⟩, List.forall_mem_cons.mpr ⟨⟨(List.mem_of_getElem? (i := 8) rfl), good_of_word rfl⟩, (fun _ h => absurd h List.not_mem_nil)⟩⟩⟩
set_option maxRecDepth 20000 in
theorem gq_k_length_7_k_coder_7_335 : GoodIn wq_k_length_7 (wsV RJ0 335 RJ0 yJ0_coder_7d493 wq_k_coder_7) := goodIn_app (List.forall_mem_cons.mpr ⟨⟨(List.mem_of_getElem? (i := 2) rfl), good_of_word rfl⟩, List.forall_mem_cons.mpr ⟨⟨(List.mem_of_getElem? (i := 3) rfl), good_of_word rfl⟩, List.forall_mem_cons.mpr ⟨⟨(List.mem_of_getElem? (i := 4) rfl), good_of_word rfl⟩, List.forall_mem_cons.mpr ⟨⟨(List.mem_of_getElem? (i := 5) rfl), good_of_word rfl⟩, (fun _ h => absurd h List.not_mem_nil)⟩⟩⟩⟩) gr_k_length_7_k_coder_7
set_option maxHeartbeats 8000000 in
set_option maxRecDepth 100000 in
theorem k_length_7 (l : Launch) (D : va_G) (cy : Nat → ClassId) (ad : Nat → Nat) (g : Nat → va_E)   : cMi l yJ0_length_8abf5 wq_k_length_7 { frames := 1, cells := 0, slots := 0, locals := 20 } 0 0 0 0 D cy ad g [.ref (cy (100 + 7))] (fun r nw lu => (r = 2) ∧ (lu = [])) := by
  refine cM_of (Qc := fun A => cQi (fun r nw lu => (r = 2) ∧ (lu = [])) D 0 0 ad g A) (cc := cJ0_length_8abf5) (maxL := 1) (ret := (some .int)) (by decide) rfl (Nat.le_of_ble_eq_true rfl) ?_
  intro p e s m below meth c A hC hr hlk hnm hO ls hl
  have hC : CallFix p m c cJ0_length_8abf5 1 s [.ref (cy (100 + 7))].toArray wq_k_length_7 RJ0 := hC
  obtain ⟨hx, hb, hml, hown, hts⟩ := id hC
  have hl : lv_has ls 1 [(0, .ref (cy (100 + 7)))] := hl
  refine lv_aload_n hx hb ddJ0_length_8abf5_0 rfl (lv_at hl 0 rfl) ?_
  refine sg_val hC hO 7 (by decide) (List.mem_of_getElem? (i := 1) rfl) ddJ0_length_8abf5_1 ?_
  refine sg_len hC hO 7 (by decide) (v := 2) rfl ddJ0_length_8abf5_4 ?_
  refine lv_aload_n hx hb ddJ0_length_8abf5_5 rfl (lv_at hl 0 rfl) ?_
  refine sg_Vi (As := []) (rest := [.int 2]) (mc := 0) (ms := 0) (rm := { frames := 0, cells := 0, slots := 0, locals := 0 }) hC hl.1 hO [] (by decide +kernel) 7 (by decide) (k_coder_7 l D cy _ _  ) gq_k_length_7_k_coder_7_335 rfl rfl rfl 0 (by decide +kernel) ⟨Nat.le_of_ble_eq_true rfl, Nat.le_of_ble_eq_true rfl⟩ rfl rfl (Nat.le_of_ble_eq_true rfl) ddJ0_length_8abf5_6 ⟨Nat.le_of_ble_eq_true rfl, Nat.le_of_ble_eq_true rfl⟩ (fun r_6_6 nw_6_4 l_6_5 H locs hw hO => ?_)
  obtain ⟨rfl, rfl⟩ := hw
  have hO : cO D cy A s.heap s 0 ad (cup [] g) _ _ := hO
  refine lv_ishr hx hb ddJ0_length_8abf5_9 ?_
  refine cg_ev (v := 2) (by decide) ?_
  exact cg_iret (nw := fun _ => 0) hC hr hlk hO.same rfl (Nat.le_of_ble_eq_true rfl) (Nat.le_of_ble_eq_true rfl) (⟨rfl, rfl⟩) ddJ0_length_8abf5_10

def wq_k_coder_8 : List Cond := Cond.code yJ0_coder_7d493 cJ0_coder_7d493 1 (some .byte) :: (([Cond.fieldLink RJ0 38 "java/lang/String" "COMPACT_STRINGS" "Z", Cond.fieldLink RJ0 15 "java/lang/String" "coder" "B"] : List Cond))
set_option maxHeartbeats 8000000 in
set_option maxRecDepth 100000 in
theorem k_coder_8 (l : Launch) (D : va_G) (cy : Nat → ClassId) (ad : Nat → Nat) (g : Nat → va_E)   : cMi l yJ0_coder_7d493 wq_k_coder_8 { frames := 0, cells := 0, slots := 0, locals := 0 } 0 0 0 0 D cy ad g [.ref (cy (100 + 8))] (fun r nw lu => (r = 0) ∧ (lu = [])) := by
  refine cM_of (Qc := fun A => cQi (fun r nw lu => (r = 0) ∧ (lu = [])) D 0 0 ad g A) (cc := cJ0_coder_7d493) (maxL := 1) (ret := (some .byte)) (by decide) rfl (Nat.le_of_ble_eq_true rfl) ?_
  intro p e s m below meth c A hC hr hlk hnm hO ls hl
  have hC : CallFix p m c cJ0_coder_7d493 1 s [.ref (cy (100 + 8))].toArray wq_k_coder_8 RJ0 := hC
  obtain ⟨hx, hb, hml, hown, hts⟩ := id hC
  have hl : lv_has ls 1 [(0, .ref (cy (100 + 8)))] := hl
  refine sg_com hC hO (List.mem_of_getElem? (i := 1) rfl) ddJ0_coder_7d493_0 ?_
  refine lv_if_eq (tgt := 13) hx hb ddJ0_coder_7d493_3 (by decide) (fun h => absurd h (by decide)) (fun _ => ?_)
  refine lv_aload_n hx hb ddJ0_coder_7d493_6 rfl (lv_at hl 0 rfl) ?_
  refine sg_cod hC hO 8 (by decide) (List.mem_of_getElem? (i := 2) rfl) ddJ0_coder_7d493_7 ?_
  refine lv_goto (tgt := 14) hx hb ddJ0_coder_7d493_10 (by decide) ?_
  exact cg_iret (nw := fun _ => 0) hC hr hlk hO.same rfl (Nat.le_of_ble_eq_true rfl) (Nat.le_of_ble_eq_true rfl) (⟨rfl, rfl⟩) ddJ0_coder_7d493_14

def wq_k_length_8 : List Cond := Cond.code yJ0_length_8abf5 cJ0_length_8abf5 1 (some .int) :: (([Cond.fieldLink RJ0 9 "java/lang/String" "value" "[B", Cond.methodLink RJ0 335 yJ0_coder_7d493, Cond.instanceMethod yJ0_coder_7d493, Cond.selects RJ0 yJ0_coder_7d493 yJ0_coder_7d493, Cond.initialized RJ0, Cond.code yJ0_coder_7d493 cJ0_coder_7d493 1 (some .byte), Cond.fieldLink RJ0 38 "java/lang/String" "COMPACT_STRINGS" "Z", Cond.fieldLink RJ0 15 "java/lang/String" "coder" "B"] : List Cond))
set_option maxRecDepth 20000 in
theorem gr_k_length_8_k_coder_8 : GoodIn wq_k_length_8 wq_k_coder_8 := List.forall_mem_cons.mpr ⟨⟨(List.mem_of_getElem? (i := 6) rfl), good_of_word rfl⟩, List.forall_mem_cons.mpr ⟨⟨(List.mem_of_getElem? (i := 7) rfl), good_of_word rfl⟩, List.forall_mem_cons.mpr ⟨⟨(List.mem_of_getElem? (i := 8) rfl), good_of_word rfl⟩, (fun _ h => absurd h List.not_mem_nil)⟩⟩⟩
set_option maxRecDepth 20000 in
theorem gq_k_length_8_k_coder_8_335 : GoodIn wq_k_length_8 (wsV RJ0 335 RJ0 yJ0_coder_7d493 wq_k_coder_8) := goodIn_app (List.forall_mem_cons.mpr ⟨⟨(List.mem_of_getElem? (i := 2) rfl), good_of_word rfl⟩, List.forall_mem_cons.mpr ⟨⟨(List.mem_of_getElem? (i := 3) rfl), good_of_word rfl⟩, List.forall_mem_cons.mpr ⟨⟨(List.mem_of_getElem? (i := 4) rfl), good_of_word rfl⟩, List.forall_mem_cons.mpr ⟨⟨(List.mem_of_getElem? (i := 5) rfl), good_of_word rfl⟩, (fun _ h => absurd h List.not_mem_nil)⟩⟩⟩⟩) gr_k_length_8_k_coder_8
set_option maxHeartbeats 8000000 in
set_option maxRecDepth 100000 in
theorem k_length_8 (l : Launch) (D : va_G) (cy : Nat → ClassId) (ad : Nat → Nat) (g : Nat → va_E)   : cMi l yJ0_length_8abf5 wq_k_length_8 { frames := 1, cells := 0, slots := 0, locals := 20 } 0 0 0 0 D cy ad g [.ref (cy (100 + 8))] (fun r nw lu => (r = 4) ∧ (lu = [])) := by
  refine cM_of (Qc := fun A => cQi (fun r nw lu => (r = 4) ∧ (lu = [])) D 0 0 ad g A) (cc := cJ0_length_8abf5) (maxL := 1) (ret := (some .int)) (by decide) rfl (Nat.le_of_ble_eq_true rfl) ?_
  intro p e s m below meth c A hC hr hlk hnm hO ls hl
  have hC : CallFix p m c cJ0_length_8abf5 1 s [.ref (cy (100 + 8))].toArray wq_k_length_8 RJ0 := hC
  obtain ⟨hx, hb, hml, hown, hts⟩ := id hC
  have hl : lv_has ls 1 [(0, .ref (cy (100 + 8)))] := hl
  refine lv_aload_n hx hb ddJ0_length_8abf5_0 rfl (lv_at hl 0 rfl) ?_
  refine sg_val hC hO 8 (by decide) (List.mem_of_getElem? (i := 1) rfl) ddJ0_length_8abf5_1 ?_
  refine sg_len hC hO 8 (by decide) (v := 4) rfl ddJ0_length_8abf5_4 ?_
  refine lv_aload_n hx hb ddJ0_length_8abf5_5 rfl (lv_at hl 0 rfl) ?_
  refine sg_Vi (As := []) (rest := [.int 4]) (mc := 0) (ms := 0) (rm := { frames := 0, cells := 0, slots := 0, locals := 0 }) hC hl.1 hO [] (by decide +kernel) 8 (by decide) (k_coder_8 l D cy _ _  ) gq_k_length_8_k_coder_8_335 rfl rfl rfl 0 (by decide +kernel) ⟨Nat.le_of_ble_eq_true rfl, Nat.le_of_ble_eq_true rfl⟩ rfl rfl (Nat.le_of_ble_eq_true rfl) ddJ0_length_8abf5_6 ⟨Nat.le_of_ble_eq_true rfl, Nat.le_of_ble_eq_true rfl⟩ (fun r_6_6 nw_6_4 l_6_5 H locs hw hO => ?_)
  obtain ⟨rfl, rfl⟩ := hw
  have hO : cO D cy A s.heap s 0 ad (cup [] g) _ _ := hO
  refine lv_ishr hx hb ddJ0_length_8abf5_9 ?_
  refine cg_ev (v := 4) (by decide) ?_
  exact cg_iret (nw := fun _ => 0) hC hr hlk hO.same rfl (Nat.le_of_ble_eq_true rfl) (Nat.le_of_ble_eq_true rfl) (⟨rfl, rfl⟩) ddJ0_length_8abf5_10

def wq_k_coder_9 : List Cond := Cond.code yJ0_coder_7d493 cJ0_coder_7d493 1 (some .byte) :: (([Cond.fieldLink RJ0 38 "java/lang/String" "COMPACT_STRINGS" "Z", Cond.fieldLink RJ0 15 "java/lang/String" "coder" "B"] : List Cond))
set_option maxHeartbeats 8000000 in
set_option maxRecDepth 100000 in
theorem k_coder_9 (l : Launch) (D : va_G) (cy : Nat → ClassId) (ad : Nat → Nat) (g : Nat → va_E)   : cMi l yJ0_coder_7d493 wq_k_coder_9 { frames := 0, cells := 0, slots := 0, locals := 0 } 0 0 0 0 D cy ad g [.ref (cy (100 + 9))] (fun r nw lu => (r = 0) ∧ (lu = [])) := by
  refine cM_of (Qc := fun A => cQi (fun r nw lu => (r = 0) ∧ (lu = [])) D 0 0 ad g A) (cc := cJ0_coder_7d493) (maxL := 1) (ret := (some .byte)) (by decide) rfl (Nat.le_of_ble_eq_true rfl) ?_
  intro p e s m below meth c A hC hr hlk hnm hO ls hl
  have hC : CallFix p m c cJ0_coder_7d493 1 s [.ref (cy (100 + 9))].toArray wq_k_coder_9 RJ0 := hC
  obtain ⟨hx, hb, hml, hown, hts⟩ := id hC
  have hl : lv_has ls 1 [(0, .ref (cy (100 + 9)))] := hl
  refine sg_com hC hO (List.mem_of_getElem? (i := 1) rfl) ddJ0_coder_7d493_0 ?_
  refine lv_if_eq (tgt := 13) hx hb ddJ0_coder_7d493_3 (by decide) (fun h => absurd h (by decide)) (fun _ => ?_)
  refine lv_aload_n hx hb ddJ0_coder_7d493_6 rfl (lv_at hl 0 rfl) ?_
  refine sg_cod hC hO 9 (by decide) (List.mem_of_getElem? (i := 2) rfl) ddJ0_coder_7d493_7 ?_
  refine lv_goto (tgt := 14) hx hb ddJ0_coder_7d493_10 (by decide) ?_
  exact cg_iret (nw := fun _ => 0) hC hr hlk hO.same rfl (Nat.le_of_ble_eq_true rfl) (Nat.le_of_ble_eq_true rfl) (⟨rfl, rfl⟩) ddJ0_coder_7d493_14

def wq_k_length_9 : List Cond := Cond.code yJ0_length_8abf5 cJ0_length_8abf5 1 (some .int) :: (([Cond.fieldLink RJ0 9 "java/lang/String" "value" "[B", Cond.methodLink RJ0 335 yJ0_coder_7d493, Cond.instanceMethod yJ0_coder_7d493, Cond.selects RJ0 yJ0_coder_7d493 yJ0_coder_7d493, Cond.initialized RJ0, Cond.code yJ0_coder_7d493 cJ0_coder_7d493 1 (some .byte), Cond.fieldLink RJ0 38 "java/lang/String" "COMPACT_STRINGS" "Z", Cond.fieldLink RJ0 15 "java/lang/String" "coder" "B"] : List Cond))
set_option maxRecDepth 20000 in
theorem gr_k_length_9_k_coder_9 : GoodIn wq_k_length_9 wq_k_coder_9 := List.forall_mem_cons.mpr ⟨⟨(List.mem_of_getElem? (i := 6) rfl), good_of_word rfl⟩, List.forall_mem_cons.mpr ⟨⟨(List.mem_of_getElem? (i := 7) rfl), good_of_word rfl⟩, List.forall_mem_cons.mpr ⟨⟨(List.mem_of_getElem? (i := 8) rfl), good_of_word rfl⟩, (fun _ h => absurd h List.not_mem_nil)⟩⟩⟩
set_option maxRecDepth 20000 in
theorem gq_k_length_9_k_coder_9_335 : GoodIn wq_k_length_9 (wsV RJ0 335 RJ0 yJ0_coder_7d493 wq_k_coder_9) := goodIn_app (List.forall_mem_cons.mpr ⟨⟨(List.mem_of_getElem? (i := 2) rfl), good_of_word rfl⟩, List.forall_mem_cons.mpr ⟨⟨(List.mem_of_getElem? (i := 3) rfl), good_of_word rfl⟩, List.forall_mem_cons.mpr ⟨⟨(List.mem_of_getElem? (i := 4) rfl), good_of_word rfl⟩, List.forall_mem_cons.mpr ⟨⟨(List.mem_of_getElem? (i := 5) rfl), good_of_word rfl⟩, (fun _ h => absurd h List.not_mem_nil)⟩⟩⟩⟩) gr_k_length_9_k_coder_9
set_option maxHeartbeats 8000000 in
set_option maxRecDepth 100000 in
theorem k_length_9 (l : Launch) (D : va_G) (cy : Nat → ClassId) (ad : Nat → Nat) (g : Nat → va_E)   : cMi l yJ0_length_8abf5 wq_k_length_9 { frames := 1, cells := 0, slots := 0, locals := 20 } 0 0 0 0 D cy ad g [.ref (cy (100 + 9))] (fun r nw lu => (r = 5) ∧ (lu = [])) := by
  refine cM_of (Qc := fun A => cQi (fun r nw lu => (r = 5) ∧ (lu = [])) D 0 0 ad g A) (cc := cJ0_length_8abf5) (maxL := 1) (ret := (some .int)) (by decide) rfl (Nat.le_of_ble_eq_true rfl) ?_
  intro p e s m below meth c A hC hr hlk hnm hO ls hl
  have hC : CallFix p m c cJ0_length_8abf5 1 s [.ref (cy (100 + 9))].toArray wq_k_length_9 RJ0 := hC
  obtain ⟨hx, hb, hml, hown, hts⟩ := id hC
  have hl : lv_has ls 1 [(0, .ref (cy (100 + 9)))] := hl
  refine lv_aload_n hx hb ddJ0_length_8abf5_0 rfl (lv_at hl 0 rfl) ?_
  refine sg_val hC hO 9 (by decide) (List.mem_of_getElem? (i := 1) rfl) ddJ0_length_8abf5_1 ?_
  refine sg_len hC hO 9 (by decide) (v := 5) rfl ddJ0_length_8abf5_4 ?_
  refine lv_aload_n hx hb ddJ0_length_8abf5_5 rfl (lv_at hl 0 rfl) ?_
  refine sg_Vi (As := []) (rest := [.int 5]) (mc := 0) (ms := 0) (rm := { frames := 0, cells := 0, slots := 0, locals := 0 }) hC hl.1 hO [] (by decide +kernel) 9 (by decide) (k_coder_9 l D cy _ _  ) gq_k_length_9_k_coder_9_335 rfl rfl rfl 0 (by decide +kernel) ⟨Nat.le_of_ble_eq_true rfl, Nat.le_of_ble_eq_true rfl⟩ rfl rfl (Nat.le_of_ble_eq_true rfl) ddJ0_length_8abf5_6 ⟨Nat.le_of_ble_eq_true rfl, Nat.le_of_ble_eq_true rfl⟩ (fun r_6_6 nw_6_4 l_6_5 H locs hw hO => ?_)
  obtain ⟨rfl, rfl⟩ := hw
  have hO : cO D cy A s.heap s 0 ad (cup [] g) _ _ := hO
  refine lv_ishr hx hb ddJ0_length_8abf5_9 ?_
  refine cg_ev (v := 5) (by decide) ?_
  exact cg_iret (nw := fun _ => 0) hC hr hlk hO.same rfl (Nat.le_of_ble_eq_true rfl) (Nat.le_of_ble_eq_true rfl) (⟨rfl, rfl⟩) ddJ0_length_8abf5_10

def wq_k_coder_10 : List Cond := Cond.code yJ0_coder_7d493 cJ0_coder_7d493 1 (some .byte) :: (([Cond.fieldLink RJ0 38 "java/lang/String" "COMPACT_STRINGS" "Z", Cond.fieldLink RJ0 15 "java/lang/String" "coder" "B"] : List Cond))
set_option maxHeartbeats 8000000 in
set_option maxRecDepth 100000 in
theorem k_coder_10 (l : Launch) (D : va_G) (cy : Nat → ClassId) (ad : Nat → Nat) (g : Nat → va_E)   : cMi l yJ0_coder_7d493 wq_k_coder_10 { frames := 0, cells := 0, slots := 0, locals := 0 } 0 0 0 0 D cy ad g [.ref (cy (100 + 10))] (fun r nw lu => (r = 0) ∧ (lu = [])) := by
  refine cM_of (Qc := fun A => cQi (fun r nw lu => (r = 0) ∧ (lu = [])) D 0 0 ad g A) (cc := cJ0_coder_7d493) (maxL := 1) (ret := (some .byte)) (by decide) rfl (Nat.le_of_ble_eq_true rfl) ?_
  intro p e s m below meth c A hC hr hlk hnm hO ls hl
  have hC : CallFix p m c cJ0_coder_7d493 1 s [.ref (cy (100 + 10))].toArray wq_k_coder_10 RJ0 := hC
  obtain ⟨hx, hb, hml, hown, hts⟩ := id hC
  have hl : lv_has ls 1 [(0, .ref (cy (100 + 10)))] := hl
  refine sg_com hC hO (List.mem_of_getElem? (i := 1) rfl) ddJ0_coder_7d493_0 ?_
  refine lv_if_eq (tgt := 13) hx hb ddJ0_coder_7d493_3 (by decide) (fun h => absurd h (by decide)) (fun _ => ?_)
  refine lv_aload_n hx hb ddJ0_coder_7d493_6 rfl (lv_at hl 0 rfl) ?_
  refine sg_cod hC hO 10 (by decide) (List.mem_of_getElem? (i := 2) rfl) ddJ0_coder_7d493_7 ?_
  refine lv_goto (tgt := 14) hx hb ddJ0_coder_7d493_10 (by decide) ?_
  exact cg_iret (nw := fun _ => 0) hC hr hlk hO.same rfl (Nat.le_of_ble_eq_true rfl) (Nat.le_of_ble_eq_true rfl) (⟨rfl, rfl⟩) ddJ0_coder_7d493_14

def wq_k_length_10 : List Cond := Cond.code yJ0_length_8abf5 cJ0_length_8abf5 1 (some .int) :: (([Cond.fieldLink RJ0 9 "java/lang/String" "value" "[B", Cond.methodLink RJ0 335 yJ0_coder_7d493, Cond.instanceMethod yJ0_coder_7d493, Cond.selects RJ0 yJ0_coder_7d493 yJ0_coder_7d493, Cond.initialized RJ0, Cond.code yJ0_coder_7d493 cJ0_coder_7d493 1 (some .byte), Cond.fieldLink RJ0 38 "java/lang/String" "COMPACT_STRINGS" "Z", Cond.fieldLink RJ0 15 "java/lang/String" "coder" "B"] : List Cond))
set_option maxRecDepth 20000 in
theorem gr_k_length_10_k_coder_10 : GoodIn wq_k_length_10 wq_k_coder_10 := List.forall_mem_cons.mpr ⟨⟨(List.mem_of_getElem? (i := 6) rfl), good_of_word rfl⟩, List.forall_mem_cons.mpr ⟨⟨(List.mem_of_getElem? (i := 7) rfl), good_of_word rfl⟩, List.forall_mem_cons.mpr ⟨⟨(List.mem_of_getElem? (i := 8) rfl), good_of_word rfl⟩, (fun _ h => absurd h List.not_mem_nil)⟩⟩⟩
set_option maxRecDepth 20000 in
theorem gq_k_length_10_k_coder_10_335 : GoodIn wq_k_length_10 (wsV RJ0 335 RJ0 yJ0_coder_7d493 wq_k_coder_10) := goodIn_app (List.forall_mem_cons.mpr ⟨⟨(List.mem_of_getElem? (i := 2) rfl), good_of_word rfl⟩, List.forall_mem_cons.mpr ⟨⟨(List.mem_of_getElem? (i := 3) rfl), good_of_word rfl⟩, List.forall_mem_cons.mpr ⟨⟨(List.mem_of_getElem? (i := 4) rfl), good_of_word rfl⟩, List.forall_mem_cons.mpr ⟨⟨(List.mem_of_getElem? (i := 5) rfl), good_of_word rfl⟩, (fun _ h => absurd h List.not_mem_nil)⟩⟩⟩⟩) gr_k_length_10_k_coder_10
set_option maxHeartbeats 8000000 in
set_option maxRecDepth 100000 in
theorem k_length_10 (l : Launch) (D : va_G) (cy : Nat → ClassId) (ad : Nat → Nat) (g : Nat → va_E)   : cMi l yJ0_length_8abf5 wq_k_length_10 { frames := 1, cells := 0, slots := 0, locals := 20 } 0 0 0 0 D cy ad g [.ref (cy (100 + 10))] (fun r nw lu => (r = 5) ∧ (lu = [])) := by
  refine cM_of (Qc := fun A => cQi (fun r nw lu => (r = 5) ∧ (lu = [])) D 0 0 ad g A) (cc := cJ0_length_8abf5) (maxL := 1) (ret := (some .int)) (by decide) rfl (Nat.le_of_ble_eq_true rfl) ?_
  intro p e s m below meth c A hC hr hlk hnm hO ls hl
  have hC : CallFix p m c cJ0_length_8abf5 1 s [.ref (cy (100 + 10))].toArray wq_k_length_10 RJ0 := hC
  obtain ⟨hx, hb, hml, hown, hts⟩ := id hC
  have hl : lv_has ls 1 [(0, .ref (cy (100 + 10)))] := hl
  refine lv_aload_n hx hb ddJ0_length_8abf5_0 rfl (lv_at hl 0 rfl) ?_
  refine sg_val hC hO 10 (by decide) (List.mem_of_getElem? (i := 1) rfl) ddJ0_length_8abf5_1 ?_
  refine sg_len hC hO 10 (by decide) (v := 5) rfl ddJ0_length_8abf5_4 ?_
  refine lv_aload_n hx hb ddJ0_length_8abf5_5 rfl (lv_at hl 0 rfl) ?_
  refine sg_Vi (As := []) (rest := [.int 5]) (mc := 0) (ms := 0) (rm := { frames := 0, cells := 0, slots := 0, locals := 0 }) hC hl.1 hO [] (by decide +kernel) 10 (by decide) (k_coder_10 l D cy _ _  ) gq_k_length_10_k_coder_10_335 rfl rfl rfl 0 (by decide +kernel) ⟨Nat.le_of_ble_eq_true rfl, Nat.le_of_ble_eq_true rfl⟩ rfl rfl (Nat.le_of_ble_eq_true rfl) ddJ0_length_8abf5_6 ⟨Nat.le_of_ble_eq_true rfl, Nat.le_of_ble_eq_true rfl⟩ (fun r_6_6 nw_6_4 l_6_5 H locs hw hO => ?_)
  obtain ⟨rfl, rfl⟩ := hw
  have hO : cO D cy A s.heap s 0 ad (cup [] g) _ _ := hO
  refine lv_ishr hx hb ddJ0_length_8abf5_9 ?_
  refine cg_ev (v := 5) (by decide) ?_
  exact cg_iret (nw := fun _ => 0) hC hr hlk hO.same rfl (Nat.le_of_ble_eq_true rfl) (Nat.le_of_ble_eq_true rfl) (⟨rfl, rfl⟩) ddJ0_length_8abf5_10

def wq_k_coder_11 : List Cond := Cond.code yJ0_coder_7d493 cJ0_coder_7d493 1 (some .byte) :: (([Cond.fieldLink RJ0 38 "java/lang/String" "COMPACT_STRINGS" "Z", Cond.fieldLink RJ0 15 "java/lang/String" "coder" "B"] : List Cond))
set_option maxHeartbeats 8000000 in
set_option maxRecDepth 100000 in
theorem k_coder_11 (l : Launch) (D : va_G) (cy : Nat → ClassId) (ad : Nat → Nat) (g : Nat → va_E)   : cMi l yJ0_coder_7d493 wq_k_coder_11 { frames := 0, cells := 0, slots := 0, locals := 0 } 0 0 0 0 D cy ad g [.ref (cy (100 + 11))] (fun r nw lu => (r = 0) ∧ (lu = [])) := by
  refine cM_of (Qc := fun A => cQi (fun r nw lu => (r = 0) ∧ (lu = [])) D 0 0 ad g A) (cc := cJ0_coder_7d493) (maxL := 1) (ret := (some .byte)) (by decide) rfl (Nat.le_of_ble_eq_true rfl) ?_
  intro p e s m below meth c A hC hr hlk hnm hO ls hl
  have hC : CallFix p m c cJ0_coder_7d493 1 s [.ref (cy (100 + 11))].toArray wq_k_coder_11 RJ0 := hC
  obtain ⟨hx, hb, hml, hown, hts⟩ := id hC
  have hl : lv_has ls 1 [(0, .ref (cy (100 + 11)))] := hl
  refine sg_com hC hO (List.mem_of_getElem? (i := 1) rfl) ddJ0_coder_7d493_0 ?_
  refine lv_if_eq (tgt := 13) hx hb ddJ0_coder_7d493_3 (by decide) (fun h => absurd h (by decide)) (fun _ => ?_)
  refine lv_aload_n hx hb ddJ0_coder_7d493_6 rfl (lv_at hl 0 rfl) ?_
  refine sg_cod hC hO 11 (by decide) (List.mem_of_getElem? (i := 2) rfl) ddJ0_coder_7d493_7 ?_
  refine lv_goto (tgt := 14) hx hb ddJ0_coder_7d493_10 (by decide) ?_
  exact cg_iret (nw := fun _ => 0) hC hr hlk hO.same rfl (Nat.le_of_ble_eq_true rfl) (Nat.le_of_ble_eq_true rfl) (⟨rfl, rfl⟩) ddJ0_coder_7d493_14

def wq_k_length_11 : List Cond := Cond.code yJ0_length_8abf5 cJ0_length_8abf5 1 (some .int) :: (([Cond.fieldLink RJ0 9 "java/lang/String" "value" "[B", Cond.methodLink RJ0 335 yJ0_coder_7d493, Cond.instanceMethod yJ0_coder_7d493, Cond.selects RJ0 yJ0_coder_7d493 yJ0_coder_7d493, Cond.initialized RJ0, Cond.code yJ0_coder_7d493 cJ0_coder_7d493 1 (some .byte), Cond.fieldLink RJ0 38 "java/lang/String" "COMPACT_STRINGS" "Z", Cond.fieldLink RJ0 15 "java/lang/String" "coder" "B"] : List Cond))
set_option maxRecDepth 20000 in
theorem gr_k_length_11_k_coder_11 : GoodIn wq_k_length_11 wq_k_coder_11 := List.forall_mem_cons.mpr ⟨⟨(List.mem_of_getElem? (i := 6) rfl), good_of_word rfl⟩, List.forall_mem_cons.mpr ⟨⟨(List.mem_of_getElem? (i := 7) rfl), good_of_word rfl⟩, List.forall_mem_cons.mpr ⟨⟨(List.mem_of_getElem? (i := 8) rfl), good_of_word rfl⟩, (fun _ h => absurd h List.not_mem_nil)⟩⟩⟩
set_option maxRecDepth 20000 in
theorem gq_k_length_11_k_coder_11_335 : GoodIn wq_k_length_11 (wsV RJ0 335 RJ0 yJ0_coder_7d493 wq_k_coder_11) := goodIn_app (List.forall_mem_cons.mpr ⟨⟨(List.mem_of_getElem? (i := 2) rfl), good_of_word rfl⟩, List.forall_mem_cons.mpr ⟨⟨(List.mem_of_getElem? (i := 3) rfl), good_of_word rfl⟩, List.forall_mem_cons.mpr ⟨⟨(List.mem_of_getElem? (i := 4) rfl), good_of_word rfl⟩, List.forall_mem_cons.mpr ⟨⟨(List.mem_of_getElem? (i := 5) rfl), good_of_word rfl⟩, (fun _ h => absurd h List.not_mem_nil)⟩⟩⟩⟩) gr_k_length_11_k_coder_11
set_option maxHeartbeats 8000000 in
set_option maxRecDepth 100000 in
theorem k_length_11 (l : Launch) (D : va_G) (cy : Nat → ClassId) (ad : Nat → Nat) (g : Nat → va_E)   : cMi l yJ0_length_8abf5 wq_k_length_11 { frames := 1, cells := 0, slots := 0, locals := 20 } 0 0 0 0 D cy ad g [.ref (cy (100 + 11))] (fun r nw lu => (r = 3) ∧ (lu = [])) := by
  refine cM_of (Qc := fun A => cQi (fun r nw lu => (r = 3) ∧ (lu = [])) D 0 0 ad g A) (cc := cJ0_length_8abf5) (maxL := 1) (ret := (some .int)) (by decide) rfl (Nat.le_of_ble_eq_true rfl) ?_
  intro p e s m below meth c A hC hr hlk hnm hO ls hl
  have hC : CallFix p m c cJ0_length_8abf5 1 s [.ref (cy (100 + 11))].toArray wq_k_length_11 RJ0 := hC
  obtain ⟨hx, hb, hml, hown, hts⟩ := id hC
  have hl : lv_has ls 1 [(0, .ref (cy (100 + 11)))] := hl
  refine lv_aload_n hx hb ddJ0_length_8abf5_0 rfl (lv_at hl 0 rfl) ?_
  refine sg_val hC hO 11 (by decide) (List.mem_of_getElem? (i := 1) rfl) ddJ0_length_8abf5_1 ?_
  refine sg_len hC hO 11 (by decide) (v := 3) rfl ddJ0_length_8abf5_4 ?_
  refine lv_aload_n hx hb ddJ0_length_8abf5_5 rfl (lv_at hl 0 rfl) ?_
  refine sg_Vi (As := []) (rest := [.int 3]) (mc := 0) (ms := 0) (rm := { frames := 0, cells := 0, slots := 0, locals := 0 }) hC hl.1 hO [] (by decide +kernel) 11 (by decide) (k_coder_11 l D cy _ _  ) gq_k_length_11_k_coder_11_335 rfl rfl rfl 0 (by decide +kernel) ⟨Nat.le_of_ble_eq_true rfl, Nat.le_of_ble_eq_true rfl⟩ rfl rfl (Nat.le_of_ble_eq_true rfl) ddJ0_length_8abf5_6 ⟨Nat.le_of_ble_eq_true rfl, Nat.le_of_ble_eq_true rfl⟩ (fun r_6_6 nw_6_4 l_6_5 H locs hw hO => ?_)
  obtain ⟨rfl, rfl⟩ := hw
  have hO : cO D cy A s.heap s 0 ad (cup [] g) _ _ := hO
  refine lv_ishr hx hb ddJ0_length_8abf5_9 ?_
  refine cg_ev (v := 3) (by decide) ?_
  exact cg_iret (nw := fun _ => 0) hC hr hlk hO.same rfl (Nat.le_of_ble_eq_true rfl) (Nat.le_of_ble_eq_true rfl) (⟨rfl, rfl⟩) ddJ0_length_8abf5_10

def wq_k_coder_12 : List Cond := Cond.code yJ0_coder_7d493 cJ0_coder_7d493 1 (some .byte) :: (([Cond.fieldLink RJ0 38 "java/lang/String" "COMPACT_STRINGS" "Z", Cond.fieldLink RJ0 15 "java/lang/String" "coder" "B"] : List Cond))
set_option maxHeartbeats 8000000 in
set_option maxRecDepth 100000 in
theorem k_coder_12 (l : Launch) (D : va_G) (cy : Nat → ClassId) (ad : Nat → Nat) (g : Nat → va_E)   : cMi l yJ0_coder_7d493 wq_k_coder_12 { frames := 0, cells := 0, slots := 0, locals := 0 } 0 0 0 0 D cy ad g [.ref (cy (100 + 12))] (fun r nw lu => (r = 0) ∧ (lu = [])) := by
  refine cM_of (Qc := fun A => cQi (fun r nw lu => (r = 0) ∧ (lu = [])) D 0 0 ad g A) (cc := cJ0_coder_7d493) (maxL := 1) (ret := (some .byte)) (by decide) rfl (Nat.le_of_ble_eq_true rfl) ?_
  intro p e s m below meth c A hC hr hlk hnm hO ls hl
  have hC : CallFix p m c cJ0_coder_7d493 1 s [.ref (cy (100 + 12))].toArray wq_k_coder_12 RJ0 := hC
  obtain ⟨hx, hb, hml, hown, hts⟩ := id hC
  have hl : lv_has ls 1 [(0, .ref (cy (100 + 12)))] := hl
  refine sg_com hC hO (List.mem_of_getElem? (i := 1) rfl) ddJ0_coder_7d493_0 ?_
  refine lv_if_eq (tgt := 13) hx hb ddJ0_coder_7d493_3 (by decide) (fun h => absurd h (by decide)) (fun _ => ?_)
  refine lv_aload_n hx hb ddJ0_coder_7d493_6 rfl (lv_at hl 0 rfl) ?_
  refine sg_cod hC hO 12 (by decide) (List.mem_of_getElem? (i := 2) rfl) ddJ0_coder_7d493_7 ?_
  refine lv_goto (tgt := 14) hx hb ddJ0_coder_7d493_10 (by decide) ?_
  exact cg_iret (nw := fun _ => 0) hC hr hlk hO.same rfl (Nat.le_of_ble_eq_true rfl) (Nat.le_of_ble_eq_true rfl) (⟨rfl, rfl⟩) ddJ0_coder_7d493_14

def wq_k_length_12 : List Cond := Cond.code yJ0_length_8abf5 cJ0_length_8abf5 1 (some .int) :: (([Cond.fieldLink RJ0 9 "java/lang/String" "value" "[B", Cond.methodLink RJ0 335 yJ0_coder_7d493, Cond.instanceMethod yJ0_coder_7d493, Cond.selects RJ0 yJ0_coder_7d493 yJ0_coder_7d493, Cond.initialized RJ0, Cond.code yJ0_coder_7d493 cJ0_coder_7d493 1 (some .byte), Cond.fieldLink RJ0 38 "java/lang/String" "COMPACT_STRINGS" "Z", Cond.fieldLink RJ0 15 "java/lang/String" "coder" "B"] : List Cond))
set_option maxRecDepth 20000 in
theorem gr_k_length_12_k_coder_12 : GoodIn wq_k_length_12 wq_k_coder_12 := List.forall_mem_cons.mpr ⟨⟨(List.mem_of_getElem? (i := 6) rfl), good_of_word rfl⟩, List.forall_mem_cons.mpr ⟨⟨(List.mem_of_getElem? (i := 7) rfl), good_of_word rfl⟩, List.forall_mem_cons.mpr ⟨⟨(List.mem_of_getElem? (i := 8) rfl), good_of_word rfl⟩, (fun _ h => absurd h List.not_mem_nil)⟩⟩⟩
set_option maxRecDepth 20000 in
theorem gq_k_length_12_k_coder_12_335 : GoodIn wq_k_length_12 (wsV RJ0 335 RJ0 yJ0_coder_7d493 wq_k_coder_12) := goodIn_app (List.forall_mem_cons.mpr ⟨⟨(List.mem_of_getElem? (i := 2) rfl), good_of_word rfl⟩, List.forall_mem_cons.mpr ⟨⟨(List.mem_of_getElem? (i := 3) rfl), good_of_word rfl⟩, List.forall_mem_cons.mpr ⟨⟨(List.mem_of_getElem? (i := 4) rfl), good_of_word rfl⟩, List.forall_mem_cons.mpr ⟨⟨(List.mem_of_getElem? (i := 5) rfl), good_of_word rfl⟩, (fun _ h => absurd h List.not_mem_nil)⟩⟩⟩⟩) gr_k_length_12_k_coder_12
set_option maxHeartbeats 8000000 in
set_option maxRecDepth 100000 in
theorem k_length_12 (l : Launch) (D : va_G) (cy : Nat → ClassId) (ad : Nat → Nat) (g : Nat → va_E)   : cMi l yJ0_length_8abf5 wq_k_length_12 { frames := 1, cells := 0, slots := 0, locals := 20 } 0 0 0 0 D cy ad g [.ref (cy (100 + 12))] (fun r nw lu => (r = 3) ∧ (lu = [])) := by
  refine cM_of (Qc := fun A => cQi (fun r nw lu => (r = 3) ∧ (lu = [])) D 0 0 ad g A) (cc := cJ0_length_8abf5) (maxL := 1) (ret := (some .int)) (by decide) rfl (Nat.le_of_ble_eq_true rfl) ?_
  intro p e s m below meth c A hC hr hlk hnm hO ls hl
  have hC : CallFix p m c cJ0_length_8abf5 1 s [.ref (cy (100 + 12))].toArray wq_k_length_12 RJ0 := hC
  obtain ⟨hx, hb, hml, hown, hts⟩ := id hC
  have hl : lv_has ls 1 [(0, .ref (cy (100 + 12)))] := hl
  refine lv_aload_n hx hb ddJ0_length_8abf5_0 rfl (lv_at hl 0 rfl) ?_
  refine sg_val hC hO 12 (by decide) (List.mem_of_getElem? (i := 1) rfl) ddJ0_length_8abf5_1 ?_
  refine sg_len hC hO 12 (by decide) (v := 3) rfl ddJ0_length_8abf5_4 ?_
  refine lv_aload_n hx hb ddJ0_length_8abf5_5 rfl (lv_at hl 0 rfl) ?_
  refine sg_Vi (As := []) (rest := [.int 3]) (mc := 0) (ms := 0) (rm := { frames := 0, cells := 0, slots := 0, locals := 0 }) hC hl.1 hO [] (by decide +kernel) 12 (by decide) (k_coder_12 l D cy _ _  ) gq_k_length_12_k_coder_12_335 rfl rfl rfl 0 (by decide +kernel) ⟨Nat.le_of_ble_eq_true rfl, Nat.le_of_ble_eq_true rfl⟩ rfl rfl (Nat.le_of_ble_eq_true rfl) ddJ0_length_8abf5_6 ⟨Nat.le_of_ble_eq_true rfl, Nat.le_of_ble_eq_true rfl⟩ (fun r_6_6 nw_6_4 l_6_5 H locs hw hO => ?_)
  obtain ⟨rfl, rfl⟩ := hw
  have hO : cO D cy A s.heap s 0 ad (cup [] g) _ _ := hO
  refine lv_ishr hx hb ddJ0_length_8abf5_9 ?_
  refine cg_ev (v := 3) (by decide) ?_
  exact cg_iret (nw := fun _ => 0) hC hr hlk hO.same rfl (Nat.le_of_ble_eq_true rfl) (Nat.le_of_ble_eq_true rfl) (⟨rfl, rfl⟩) ddJ0_length_8abf5_10

def wq_k_coder_13 : List Cond := Cond.code yJ0_coder_7d493 cJ0_coder_7d493 1 (some .byte) :: (([Cond.fieldLink RJ0 38 "java/lang/String" "COMPACT_STRINGS" "Z", Cond.fieldLink RJ0 15 "java/lang/String" "coder" "B"] : List Cond))
set_option maxHeartbeats 8000000 in
set_option maxRecDepth 100000 in
theorem k_coder_13 (l : Launch) (D : va_G) (cy : Nat → ClassId) (ad : Nat → Nat) (g : Nat → va_E)   : cMi l yJ0_coder_7d493 wq_k_coder_13 { frames := 0, cells := 0, slots := 0, locals := 0 } 0 0 0 0 D cy ad g [.ref (cy (100 + 13))] (fun r nw lu => (r = 0) ∧ (lu = [])) := by
  refine cM_of (Qc := fun A => cQi (fun r nw lu => (r = 0) ∧ (lu = [])) D 0 0 ad g A) (cc := cJ0_coder_7d493) (maxL := 1) (ret := (some .byte)) (by decide) rfl (Nat.le_of_ble_eq_true rfl) ?_
  intro p e s m below meth c A hC hr hlk hnm hO ls hl
  have hC : CallFix p m c cJ0_coder_7d493 1 s [.ref (cy (100 + 13))].toArray wq_k_coder_13 RJ0 := hC
  obtain ⟨hx, hb, hml, hown, hts⟩ := id hC
  have hl : lv_has ls 1 [(0, .ref (cy (100 + 13)))] := hl
  refine sg_com hC hO (List.mem_of_getElem? (i := 1) rfl) ddJ0_coder_7d493_0 ?_
  refine lv_if_eq (tgt := 13) hx hb ddJ0_coder_7d493_3 (by decide) (fun h => absurd h (by decide)) (fun _ => ?_)
  refine lv_aload_n hx hb ddJ0_coder_7d493_6 rfl (lv_at hl 0 rfl) ?_
  refine sg_cod hC hO 13 (by decide) (List.mem_of_getElem? (i := 2) rfl) ddJ0_coder_7d493_7 ?_
  refine lv_goto (tgt := 14) hx hb ddJ0_coder_7d493_10 (by decide) ?_
  exact cg_iret (nw := fun _ => 0) hC hr hlk hO.same rfl (Nat.le_of_ble_eq_true rfl) (Nat.le_of_ble_eq_true rfl) (⟨rfl, rfl⟩) ddJ0_coder_7d493_14

def wq_k_length_13 : List Cond := Cond.code yJ0_length_8abf5 cJ0_length_8abf5 1 (some .int) :: (([Cond.fieldLink RJ0 9 "java/lang/String" "value" "[B", Cond.methodLink RJ0 335 yJ0_coder_7d493, Cond.instanceMethod yJ0_coder_7d493, Cond.selects RJ0 yJ0_coder_7d493 yJ0_coder_7d493, Cond.initialized RJ0, Cond.code yJ0_coder_7d493 cJ0_coder_7d493 1 (some .byte), Cond.fieldLink RJ0 38 "java/lang/String" "COMPACT_STRINGS" "Z", Cond.fieldLink RJ0 15 "java/lang/String" "coder" "B"] : List Cond))
set_option maxRecDepth 20000 in
theorem gr_k_length_13_k_coder_13 : GoodIn wq_k_length_13 wq_k_coder_13 := List.forall_mem_cons.mpr ⟨⟨(List.mem_of_getElem? (i := 6) rfl), good_of_word rfl⟩, List.forall_mem_cons.mpr ⟨⟨(List.mem_of_getElem? (i := 7) rfl), good_of_word rfl⟩, List.forall_mem_cons.mpr ⟨⟨(List.mem_of_getElem? (i := 8) rfl), good_of_word rfl⟩, (fun _ h => absurd h List.not_mem_nil)⟩⟩⟩
set_option maxRecDepth 20000 in
theorem gq_k_length_13_k_coder_13_335 : GoodIn wq_k_length_13 (wsV RJ0 335 RJ0 yJ0_coder_7d493 wq_k_coder_13) := goodIn_app (List.forall_mem_cons.mpr ⟨⟨(List.mem_of_getElem? (i := 2) rfl), good_of_word rfl⟩, List.forall_mem_cons.mpr ⟨⟨(List.mem_of_getElem? (i := 3) rfl), good_of_word rfl⟩, List.forall_mem_cons.mpr ⟨⟨(List.mem_of_getElem? (i := 4) rfl), good_of_word rfl⟩, List.forall_mem_cons.mpr ⟨⟨(List.mem_of_getElem? (i := 5) rfl), good_of_word rfl⟩, (fun _ h => absurd h List.not_mem_nil)⟩⟩⟩⟩) gr_k_length_13_k_coder_13
set_option maxHeartbeats 8000000 in
set_option maxRecDepth 100000 in
theorem k_length_13 (l : Launch) (D : va_G) (cy : Nat → ClassId) (ad : Nat → Nat) (g : Nat → va_E)   : cMi l yJ0_length_8abf5 wq_k_length_13 { frames := 1, cells := 0, slots := 0, locals := 20 } 0 0 0 0 D cy ad g [.ref (cy (100 + 13))] (fun r nw lu => (r = 2) ∧ (lu = [])) := by
  refine cM_of (Qc := fun A => cQi (fun r nw lu => (r = 2) ∧ (lu = [])) D 0 0 ad g A) (cc := cJ0_length_8abf5) (maxL := 1) (ret := (some .int)) (by decide) rfl (Nat.le_of_ble_eq_true rfl) ?_
  intro p e s m below meth c A hC hr hlk hnm hO ls hl
  have hC : CallFix p m c cJ0_length_8abf5 1 s [.ref (cy (100 + 13))].toArray wq_k_length_13 RJ0 := hC
  obtain ⟨hx, hb, hml, hown, hts⟩ := id hC
  have hl : lv_has ls 1 [(0, .ref (cy (100 + 13)))] := hl
  refine lv_aload_n hx hb ddJ0_length_8abf5_0 rfl (lv_at hl 0 rfl) ?_
  refine sg_val hC hO 13 (by decide) (List.mem_of_getElem? (i := 1) rfl) ddJ0_length_8abf5_1 ?_
  refine sg_len hC hO 13 (by decide) (v := 2) rfl ddJ0_length_8abf5_4 ?_
  refine lv_aload_n hx hb ddJ0_length_8abf5_5 rfl (lv_at hl 0 rfl) ?_
  refine sg_Vi (As := []) (rest := [.int 2]) (mc := 0) (ms := 0) (rm := { frames := 0, cells := 0, slots := 0, locals := 0 }) hC hl.1 hO [] (by decide +kernel) 13 (by decide) (k_coder_13 l D cy _ _  ) gq_k_length_13_k_coder_13_335 rfl rfl rfl 0 (by decide +kernel) ⟨Nat.le_of_ble_eq_true rfl, Nat.le_of_ble_eq_true rfl⟩ rfl rfl (Nat.le_of_ble_eq_true rfl) ddJ0_length_8abf5_6 ⟨Nat.le_of_ble_eq_true rfl, Nat.le_of_ble_eq_true rfl⟩ (fun r_6_6 nw_6_4 l_6_5 H locs hw hO => ?_)
  obtain ⟨rfl, rfl⟩ := hw
  have hO : cO D cy A s.heap s 0 ad (cup [] g) _ _ := hO
  refine lv_ishr hx hb ddJ0_length_8abf5_9 ?_
  refine cg_ev (v := 2) (by decide) ?_
  exact cg_iret (nw := fun _ => 0) hC hr hlk hO.same rfl (Nat.le_of_ble_eq_true rfl) (Nat.le_of_ble_eq_true rfl) (⟨rfl, rfl⟩) ddJ0_length_8abf5_10

def wq_k_coder_14 : List Cond := Cond.code yJ0_coder_7d493 cJ0_coder_7d493 1 (some .byte) :: (([Cond.fieldLink RJ0 38 "java/lang/String" "COMPACT_STRINGS" "Z", Cond.fieldLink RJ0 15 "java/lang/String" "coder" "B"] : List Cond))
set_option maxHeartbeats 8000000 in
set_option maxRecDepth 100000 in
theorem k_coder_14 (l : Launch) (D : va_G) (cy : Nat → ClassId) (ad : Nat → Nat) (g : Nat → va_E)   : cMi l yJ0_coder_7d493 wq_k_coder_14 { frames := 0, cells := 0, slots := 0, locals := 0 } 0 0 0 0 D cy ad g [.ref (cy (100 + 14))] (fun r nw lu => (r = 0) ∧ (lu = [])) := by
  refine cM_of (Qc := fun A => cQi (fun r nw lu => (r = 0) ∧ (lu = [])) D 0 0 ad g A) (cc := cJ0_coder_7d493) (maxL := 1) (ret := (some .byte)) (by decide) rfl (Nat.le_of_ble_eq_true rfl) ?_
  intro p e s m below meth c A hC hr hlk hnm hO ls hl
  have hC : CallFix p m c cJ0_coder_7d493 1 s [.ref (cy (100 + 14))].toArray wq_k_coder_14 RJ0 := hC
  obtain ⟨hx, hb, hml, hown, hts⟩ := id hC
  have hl : lv_has ls 1 [(0, .ref (cy (100 + 14)))] := hl
  refine sg_com hC hO (List.mem_of_getElem? (i := 1) rfl) ddJ0_coder_7d493_0 ?_
  refine lv_if_eq (tgt := 13) hx hb ddJ0_coder_7d493_3 (by decide) (fun h => absurd h (by decide)) (fun _ => ?_)
  refine lv_aload_n hx hb ddJ0_coder_7d493_6 rfl (lv_at hl 0 rfl) ?_
  refine sg_cod hC hO 14 (by decide) (List.mem_of_getElem? (i := 2) rfl) ddJ0_coder_7d493_7 ?_
  refine lv_goto (tgt := 14) hx hb ddJ0_coder_7d493_10 (by decide) ?_
  exact cg_iret (nw := fun _ => 0) hC hr hlk hO.same rfl (Nat.le_of_ble_eq_true rfl) (Nat.le_of_ble_eq_true rfl) (⟨rfl, rfl⟩) ddJ0_coder_7d493_14

def wq_k_length_14 : List Cond := Cond.code yJ0_length_8abf5 cJ0_length_8abf5 1 (some .int) :: (([Cond.fieldLink RJ0 9 "java/lang/String" "value" "[B", Cond.methodLink RJ0 335 yJ0_coder_7d493, Cond.instanceMethod yJ0_coder_7d493, Cond.selects RJ0 yJ0_coder_7d493 yJ0_coder_7d493, Cond.initialized RJ0, Cond.code yJ0_coder_7d493 cJ0_coder_7d493 1 (some .byte), Cond.fieldLink RJ0 38 "java/lang/String" "COMPACT_STRINGS" "Z", Cond.fieldLink RJ0 15 "java/lang/String" "coder" "B"] : List Cond))
set_option maxRecDepth 20000 in
theorem gr_k_length_14_k_coder_14 : GoodIn wq_k_length_14 wq_k_coder_14 := List.forall_mem_cons.mpr ⟨⟨(List.mem_of_getElem? (i := 6) rfl), good_of_word rfl⟩, List.forall_mem_cons.mpr ⟨⟨(List.mem_of_getElem? (i := 7) rfl), good_of_word rfl⟩, List.forall_mem_cons.mpr ⟨⟨(List.mem_of_getElem? (i := 8) rfl), good_of_word rfl⟩, (fun _ h => absurd h List.not_mem_nil)⟩⟩⟩
set_option maxRecDepth 20000 in
theorem gq_k_length_14_k_coder_14_335 : GoodIn wq_k_length_14 (wsV RJ0 335 RJ0 yJ0_coder_7d493 wq_k_coder_14) := goodIn_app (List.forall_mem_cons.mpr ⟨⟨(List.mem_of_getElem? (i := 2) rfl), good_of_word rfl⟩, List.forall_mem_cons.mpr ⟨⟨(List.mem_of_getElem? (i := 3) rfl), good_of_word rfl⟩, List.forall_mem_cons.mpr ⟨⟨(List.mem_of_getElem? (i := 4) rfl), good_of_word rfl⟩, List.forall_mem_cons.mpr ⟨⟨(List.mem_of_getElem? (i := 5) rfl), good_of_word rfl⟩, (fun _ h => absurd h List.not_mem_nil)⟩⟩⟩⟩) gr_k_length_14_k_coder_14
set_option maxHeartbeats 8000000 in
set_option maxRecDepth 100000 in
theorem k_length_14 (l : Launch) (D : va_G) (cy : Nat → ClassId) (ad : Nat → Nat) (g : Nat → va_E)   : cMi l yJ0_length_8abf5 wq_k_length_14 { frames := 1, cells := 0, slots := 0, locals := 20 } 0 0 0 0 D cy ad g [.ref (cy (100 + 14))] (fun r nw lu => (r = 3) ∧ (lu = [])) := by
  refine cM_of (Qc := fun A => cQi (fun r nw lu => (r = 3) ∧ (lu = [])) D 0 0 ad g A) (cc := cJ0_length_8abf5) (maxL := 1) (ret := (some .int)) (by decide) rfl (Nat.le_of_ble_eq_true rfl) ?_
  intro p e s m below meth c A hC hr hlk hnm hO ls hl
  have hC : CallFix p m c cJ0_length_8abf5 1 s [.ref (cy (100 + 14))].toArray wq_k_length_14 RJ0 := hC
  obtain ⟨hx, hb, hml, hown, hts⟩ := id hC
  have hl : lv_has ls 1 [(0, .ref (cy (100 + 14)))] := hl
  refine lv_aload_n hx hb ddJ0_length_8abf5_0 rfl (lv_at hl 0 rfl) ?_
  refine sg_val hC hO 14 (by decide) (List.mem_of_getElem? (i := 1) rfl) ddJ0_length_8abf5_1 ?_
  refine sg_len hC hO 14 (by decide) (v := 3) rfl ddJ0_length_8abf5_4 ?_
  refine lv_aload_n hx hb ddJ0_length_8abf5_5 rfl (lv_at hl 0 rfl) ?_
  refine sg_Vi (As := []) (rest := [.int 3]) (mc := 0) (ms := 0) (rm := { frames := 0, cells := 0, slots := 0, locals := 0 }) hC hl.1 hO [] (by decide +kernel) 14 (by decide) (k_coder_14 l D cy _ _  ) gq_k_length_14_k_coder_14_335 rfl rfl rfl 0 (by decide +kernel) ⟨Nat.le_of_ble_eq_true rfl, Nat.le_of_ble_eq_true rfl⟩ rfl rfl (Nat.le_of_ble_eq_true rfl) ddJ0_length_8abf5_6 ⟨Nat.le_of_ble_eq_true rfl, Nat.le_of_ble_eq_true rfl⟩ (fun r_6_6 nw_6_4 l_6_5 H locs hw hO => ?_)
  obtain ⟨rfl, rfl⟩ := hw
  have hO : cO D cy A s.heap s 0 ad (cup [] g) _ _ := hO
  refine lv_ishr hx hb ddJ0_length_8abf5_9 ?_
  refine cg_ev (v := 3) (by decide) ?_
  exact cg_iret (nw := fun _ => 0) hC hr hlk hO.same rfl (Nat.le_of_ble_eq_true rfl) (Nat.le_of_ble_eq_true rfl) (⟨rfl, rfl⟩) ddJ0_length_8abf5_10

def wq_k_coder_15 : List Cond := Cond.code yJ0_coder_7d493 cJ0_coder_7d493 1 (some .byte) :: (([Cond.fieldLink RJ0 38 "java/lang/String" "COMPACT_STRINGS" "Z", Cond.fieldLink RJ0 15 "java/lang/String" "coder" "B"] : List Cond))
set_option maxHeartbeats 8000000 in
set_option maxRecDepth 100000 in
theorem k_coder_15 (l : Launch) (D : va_G) (cy : Nat → ClassId) (ad : Nat → Nat) (g : Nat → va_E)   : cMi l yJ0_coder_7d493 wq_k_coder_15 { frames := 0, cells := 0, slots := 0, locals := 0 } 0 0 0 0 D cy ad g [.ref (cy (100 + 15))] (fun r nw lu => (r = 0) ∧ (lu = [])) := by
  refine cM_of (Qc := fun A => cQi (fun r nw lu => (r = 0) ∧ (lu = [])) D 0 0 ad g A) (cc := cJ0_coder_7d493) (maxL := 1) (ret := (some .byte)) (by decide) rfl (Nat.le_of_ble_eq_true rfl) ?_
  intro p e s m below meth c A hC hr hlk hnm hO ls hl
  have hC : CallFix p m c cJ0_coder_7d493 1 s [.ref (cy (100 + 15))].toArray wq_k_coder_15 RJ0 := hC
  obtain ⟨hx, hb, hml, hown, hts⟩ := id hC
  have hl : lv_has ls 1 [(0, .ref (cy (100 + 15)))] := hl
  refine sg_com hC hO (List.mem_of_getElem? (i := 1) rfl) ddJ0_coder_7d493_0 ?_
  refine lv_if_eq (tgt := 13) hx hb ddJ0_coder_7d493_3 (by decide) (fun h => absurd h (by decide)) (fun _ => ?_)
  refine lv_aload_n hx hb ddJ0_coder_7d493_6 rfl (lv_at hl 0 rfl) ?_
  refine sg_cod hC hO 15 (by decide) (List.mem_of_getElem? (i := 2) rfl) ddJ0_coder_7d493_7 ?_
  refine lv_goto (tgt := 14) hx hb ddJ0_coder_7d493_10 (by decide) ?_
  exact cg_iret (nw := fun _ => 0) hC hr hlk hO.same rfl (Nat.le_of_ble_eq_true rfl) (Nat.le_of_ble_eq_true rfl) (⟨rfl, rfl⟩) ddJ0_coder_7d493_14

def wq_k_length_15 : List Cond := Cond.code yJ0_length_8abf5 cJ0_length_8abf5 1 (some .int) :: (([Cond.fieldLink RJ0 9 "java/lang/String" "value" "[B", Cond.methodLink RJ0 335 yJ0_coder_7d493, Cond.instanceMethod yJ0_coder_7d493, Cond.selects RJ0 yJ0_coder_7d493 yJ0_coder_7d493, Cond.initialized RJ0, Cond.code yJ0_coder_7d493 cJ0_coder_7d493 1 (some .byte), Cond.fieldLink RJ0 38 "java/lang/String" "COMPACT_STRINGS" "Z", Cond.fieldLink RJ0 15 "java/lang/String" "coder" "B"] : List Cond))
set_option maxRecDepth 20000 in
theorem gr_k_length_15_k_coder_15 : GoodIn wq_k_length_15 wq_k_coder_15 := List.forall_mem_cons.mpr ⟨⟨(List.mem_of_getElem? (i := 6) rfl), good_of_word rfl⟩, List.forall_mem_cons.mpr ⟨⟨(List.mem_of_getElem? (i := 7) rfl), good_of_word rfl⟩, List.forall_mem_cons.mpr ⟨⟨(List.mem_of_getElem? (i := 8) rfl), good_of_word rfl⟩, (fun _ h => absurd h List.not_mem_nil)⟩⟩⟩
set_option maxRecDepth 20000 in
theorem gq_k_length_15_k_coder_15_335 : GoodIn wq_k_length_15 (wsV RJ0 335 RJ0 yJ0_coder_7d493 wq_k_coder_15) := goodIn_app (List.forall_mem_cons.mpr ⟨⟨(List.mem_of_getElem? (i := 2) rfl), good_of_word rfl⟩, List.forall_mem_cons.mpr ⟨⟨(List.mem_of_getElem? (i := 3) rfl), good_of_word rfl⟩, List.forall_mem_cons.mpr ⟨⟨(List.mem_of_getElem? (i := 4) rfl), good_of_word rfl⟩, List.forall_mem_cons.mpr ⟨⟨(List.mem_of_getElem? (i := 5) rfl), good_of_word rfl⟩, (fun _ h => absurd h List.not_mem_nil)⟩⟩⟩⟩) gr_k_length_15_k_coder_15
set_option maxHeartbeats 8000000 in
set_option maxRecDepth 100000 in
theorem k_length_15 (l : Launch) (D : va_G) (cy : Nat → ClassId) (ad : Nat → Nat) (g : Nat → va_E)   : cMi l yJ0_length_8abf5 wq_k_length_15 { frames := 1, cells := 0, slots := 0, locals := 20 } 0 0 0 0 D cy ad g [.ref (cy (100 + 15))] (fun r nw lu => (r = 11) ∧ (lu = [])) := by
  refine cM_of (Qc := fun A => cQi (fun r nw lu => (r = 11) ∧ (lu = [])) D 0 0 ad g A) (cc := cJ0_length_8abf5) (maxL := 1) (ret := (some .int)) (by decide) rfl (Nat.le_of_ble_eq_true rfl) ?_
  intro p e s m below meth c A hC hr hlk hnm hO ls hl
  have hC : CallFix p m c cJ0_length_8abf5 1 s [.ref (cy (100 + 15))].toArray wq_k_length_15 RJ0 := hC
  obtain ⟨hx, hb, hml, hown, hts⟩ := id hC
  have hl : lv_has ls 1 [(0, .ref (cy (100 + 15)))] := hl
  refine lv_aload_n hx hb ddJ0_length_8abf5_0 rfl (lv_at hl 0 rfl) ?_
  refine sg_val hC hO 15 (by decide) (List.mem_of_getElem? (i := 1) rfl) ddJ0_length_8abf5_1 ?_
  refine sg_len hC hO 15 (by decide) (v := 11) rfl ddJ0_length_8abf5_4 ?_
  refine lv_aload_n hx hb ddJ0_length_8abf5_5 rfl (lv_at hl 0 rfl) ?_
  refine sg_Vi (As := []) (rest := [.int 11]) (mc := 0) (ms := 0) (rm := { frames := 0, cells := 0, slots := 0, locals := 0 }) hC hl.1 hO [] (by decide +kernel) 15 (by decide) (k_coder_15 l D cy _ _  ) gq_k_length_15_k_coder_15_335 rfl rfl rfl 0 (by decide +kernel) ⟨Nat.le_of_ble_eq_true rfl, Nat.le_of_ble_eq_true rfl⟩ rfl rfl (Nat.le_of_ble_eq_true rfl) ddJ0_length_8abf5_6 ⟨Nat.le_of_ble_eq_true rfl, Nat.le_of_ble_eq_true rfl⟩ (fun r_6_6 nw_6_4 l_6_5 H locs hw hO => ?_)
  obtain ⟨rfl, rfl⟩ := hw
  have hO : cO D cy A s.heap s 0 ad (cup [] g) _ _ := hO
  refine lv_ishr hx hb ddJ0_length_8abf5_9 ?_
  refine cg_ev (v := 11) (by decide) ?_
  exact cg_iret (nw := fun _ => 0) hC hr hlk hO.same rfl (Nat.le_of_ble_eq_true rfl) (Nat.le_of_ble_eq_true rfl) (⟨rfl, rfl⟩) ddJ0_length_8abf5_10

theorem ddJ0_isLatin1_aae02_0 : decode cJ0_isLatin1_aae02 0 = .ok (.getstatic 38, 3) := by decide +kernel
theorem ddJ0_isLatin1_aae02_3 : decode cJ0_isLatin1_aae02 3 = .ok (.ifCond .eq 14, 3) := by decide +kernel
theorem ddJ0_isLatin1_aae02_6 : decode cJ0_isLatin1_aae02 6 = .ok (.aload_n 0, 1) := by decide +kernel
theorem ddJ0_isLatin1_aae02_7 : decode cJ0_isLatin1_aae02 7 = .ok (.getfield 15, 3) := by decide +kernel
theorem ddJ0_isLatin1_aae02_10 : decode cJ0_isLatin1_aae02 10 = .ok (.ifCond .ne 7, 3) := by decide +kernel
theorem ddJ0_isLatin1_aae02_13 : decode cJ0_isLatin1_aae02 13 = .ok (.iconst 1, 1) := by decide +kernel
theorem ddJ0_isLatin1_aae02_14 : decode cJ0_isLatin1_aae02 14 = .ok (.goto 4, 3) := by decide +kernel
theorem ddJ0_isLatin1_aae02_18 : decode cJ0_isLatin1_aae02 18 = .ok (.ireturn, 1) := by decide +kernel
def wq_k_isLatin1_15 : List Cond := Cond.code yJ0_isLatin1_aae02 cJ0_isLatin1_aae02 1 (some .boolean) :: (([Cond.fieldLink RJ0 38 "java/lang/String" "COMPACT_STRINGS" "Z", Cond.fieldLink RJ0 15 "java/lang/String" "coder" "B"] : List Cond))
set_option maxHeartbeats 8000000 in
set_option maxRecDepth 100000 in
theorem k_isLatin1_15 (l : Launch) (D : va_G) (cy : Nat → ClassId) (ad : Nat → Nat) (g : Nat → va_E)   : cMi l yJ0_isLatin1_aae02 wq_k_isLatin1_15 { frames := 0, cells := 0, slots := 0, locals := 0 } 0 0 0 0 D cy ad g [.ref (cy (100 + 15))] (fun r nw lu => (r = 1) ∧ (lu = [])) := by
  refine cM_of (Qc := fun A => cQi (fun r nw lu => (r = 1) ∧ (lu = [])) D 0 0 ad g A) (cc := cJ0_isLatin1_aae02) (maxL := 1) (ret := (some .boolean)) (by decide) rfl (Nat.le_of_ble_eq_true rfl) ?_
  intro p e s m below meth c A hC hr hlk hnm hO ls hl
  have hC : CallFix p m c cJ0_isLatin1_aae02 1 s [.ref (cy (100 + 15))].toArray wq_k_isLatin1_15 RJ0 := hC
  obtain ⟨hx, hb, hml, hown, hts⟩ := id hC
  have hl : lv_has ls 1 [(0, .ref (cy (100 + 15)))] := hl
  refine sg_com hC hO (List.mem_of_getElem? (i := 1) rfl) ddJ0_isLatin1_aae02_0 ?_
  refine lv_if_eq (tgt := 17) hx hb ddJ0_isLatin1_aae02_3 (by decide) (fun h => absurd h (by decide)) (fun _ => ?_)
  refine lv_aload_n hx hb ddJ0_isLatin1_aae02_6 rfl (lv_at hl 0 rfl) ?_
  refine sg_cod hC hO 15 (by decide) (List.mem_of_getElem? (i := 2) rfl) ddJ0_isLatin1_aae02_7 ?_
  refine lv_if_ne (tgt := 17) hx hb ddJ0_isLatin1_aae02_10 (by decide) (fun h => absurd h (by decide)) (fun _ => ?_)
  refine lv_iconst (v := 1) hx hb ddJ0_isLatin1_aae02_13 (by decide) ?_
  refine lv_goto (tgt := 18) hx hb ddJ0_isLatin1_aae02_14 (by decide) ?_
  exact cg_iret (nw := fun _ => 0) hC hr hlk hO.same rfl (Nat.le_of_ble_eq_true rfl) (Nat.le_of_ble_eq_true rfl) (⟨rfl, rfl⟩) ddJ0_isLatin1_aae02_18

theorem ddJ3_checkIndex_8e157_0 : decode cJ3_checkIndex_8e157 0 = .ok (.iload_n 0, 1) := by decide +kernel
theorem ddJ3_checkIndex_8e157_1 : decode cJ3_checkIndex_8e157 1 = .ok (.ifCond .lt 8, 3) := by decide +kernel
theorem ddJ3_checkIndex_8e157_4 : decode cJ3_checkIndex_8e157 4 = .ok (.iload_n 0, 1) := by decide +kernel
theorem ddJ3_checkIndex_8e157_5 : decode cJ3_checkIndex_8e157 5 = .ok (.iload_n 1, 1) := by decide +kernel
theorem ddJ3_checkIndex_8e157_6 : decode cJ3_checkIndex_8e157 6 = .ok (.if_icmp .lt 10, 3) := by decide +kernel
theorem ddJ3_checkIndex_8e157_16 : decode cJ3_checkIndex_8e157 16 = .ok (.iload_n 0, 1) := by decide +kernel
theorem ddJ3_checkIndex_8e157_17 : decode cJ3_checkIndex_8e157 17 = .ok (.ireturn, 1) := by decide +kernel
def wq_k_checkIndex3n_2 : List Cond := Cond.code yJ3_checkIndex_8e157 cJ3_checkIndex_8e157 3 (some .int) :: (([] : List Cond))
set_option maxHeartbeats 8000000 in
set_option maxRecDepth 100000 in
theorem k_checkIndex3n_2 (l : Launch) (D : va_G) (cy : Nat → ClassId) (ad : Nat → Nat) (g : Nat → va_E) {n : Int32} (p_n : zi 0 1 n) : cMi l yJ3_checkIndex_8e157 wq_k_checkIndex3n_2 { frames := 0, cells := 0, slots := 0, locals := 0 } 0 0 0 0 D cy ad g [.int n, .int 2, .null] (fun r nw lu => (zi 0 1 r) ∧ (lu = [])) := by
  refine cM_of (Qc := fun A => cQi (fun r nw lu => (zi 0 1 r) ∧ (lu = [])) D 0 0 ad g A) (cc := cJ3_checkIndex_8e157) (maxL := 3) (ret := (some .int)) (by decide) rfl (Nat.le_of_ble_eq_true rfl) ?_
  intro p e s m below meth c A hC hr hlk hnm hO ls hl
  have hC : CallFix p m c cJ3_checkIndex_8e157 3 s [.int n, .int 2, .null].toArray wq_k_checkIndex3n_2 RJ3 := hC
  obtain ⟨hx, hb, hml, hown, hts⟩ := id hC
  have hl : lv_has ls 3 [(0, .int n), (1, .int 2), (2, .null)] := hl
  refine lv_iload_n hx hb ddJ3_checkIndex_8e157_0 rfl (lv_at hl 0 rfl) ?_
  refine lv_if_lt (tgt := 9) hx hb ddJ3_checkIndex_8e157_1 (by decide) (fun h_1_5 => (zx_lt (zr_lt h_1_5) p_n (zi_k (a := 0) (b := 0) (x := 0) rfl) (by decide)).elim) (fun h_1_5 => ?_)
  have q_1_6 := zr_nlt h_1_5
  refine lv_iload_n hx hb ddJ3_checkIndex_8e157_4 rfl (lv_at hl 0 rfl) ?_
  refine lv_iload_n hx hb ddJ3_checkIndex_8e157_5 rfl (lv_at hl 1 rfl) ?_
  refine lv_icmp_lt (tgt := 16) hx hb ddJ3_checkIndex_8e157_6 (by decide) (fun h_6_7 => ?_) (fun h_6_7 => (zx_le (zr_nlt h_6_7) (zi_k (a := 2) (b := 2) (x := 2) rfl) p_n (by decide)).elim)
  have q_6_8 := zr_lt h_6_7
  refine lv_iload_n hx hb ddJ3_checkIndex_8e157_16 rfl (lv_at hl 0 rfl) ?_
  exact cg_iret (nw := fun _ => 0) hC hr hlk hO.same rfl (Nat.le_of_ble_eq_true rfl) (Nat.le_of_ble_eq_true rfl) (⟨p_n, rfl⟩) ddJ3_checkIndex_8e157_17

def wq_k_checkIndex3_2 : List Cond := Cond.code yJ3_checkIndex_8e157 cJ3_checkIndex_8e157 3 (some .int) :: (([] : List Cond))
set_option maxHeartbeats 8000000 in
set_option maxRecDepth 100000 in
theorem k_checkIndex3_2 (l : Launch) (D : va_G) (cy : Nat → ClassId) (ad : Nat → Nat) (g : Nat → va_E) {n : Int32} {tx : Nat} (p_n : zi 0 1 n) : cMi l yJ3_checkIndex_8e157 wq_k_checkIndex3_2 { frames := 0, cells := 0, slots := 0, locals := 0 } 0 0 0 0 D cy ad g [.int n, .int 2, .ref tx] (fun r nw lu => (zi 0 1 r) ∧ (lu = [])) := by
  refine cM_of (Qc := fun A => cQi (fun r nw lu => (zi 0 1 r) ∧ (lu = [])) D 0 0 ad g A) (cc := cJ3_checkIndex_8e157) (maxL := 3) (ret := (some .int)) (by decide) rfl (Nat.le_of_ble_eq_true rfl) ?_
  intro p e s m below meth c A hC hr hlk hnm hO ls hl
  have hC : CallFix p m c cJ3_checkIndex_8e157 3 s [.int n, .int 2, .ref tx].toArray wq_k_checkIndex3_2 RJ3 := hC
  obtain ⟨hx, hb, hml, hown, hts⟩ := id hC
  have hl : lv_has ls 3 [(0, .int n), (1, .int 2), (2, .ref tx)] := hl
  refine lv_iload_n hx hb ddJ3_checkIndex_8e157_0 rfl (lv_at hl 0 rfl) ?_
  refine lv_if_lt (tgt := 9) hx hb ddJ3_checkIndex_8e157_1 (by decide) (fun h_1_5 => (zx_lt (zr_lt h_1_5) p_n (zi_k (a := 0) (b := 0) (x := 0) rfl) (by decide)).elim) (fun h_1_5 => ?_)
  have q_1_6 := zr_nlt h_1_5
  refine lv_iload_n hx hb ddJ3_checkIndex_8e157_4 rfl (lv_at hl 0 rfl) ?_
  refine lv_iload_n hx hb ddJ3_checkIndex_8e157_5 rfl (lv_at hl 1 rfl) ?_
  refine lv_icmp_lt (tgt := 16) hx hb ddJ3_checkIndex_8e157_6 (by decide) (fun h_6_7 => ?_) (fun h_6_7 => (zx_le (zr_nlt h_6_7) (zi_k (a := 2) (b := 2) (x := 2) rfl) p_n (by decide)).elim)
  have q_6_8 := zr_lt h_6_7
  refine lv_iload_n hx hb ddJ3_checkIndex_8e157_16 rfl (lv_at hl 0 rfl) ?_
  exact cg_iret (nw := fun _ => 0) hC hr hlk hO.same rfl (Nat.le_of_ble_eq_true rfl) (Nat.le_of_ble_eq_true rfl) (⟨p_n, rfl⟩) ddJ3_checkIndex_8e157_17

theorem ddJ0_checkIndex_df160_0 : decode cJ0_checkIndex_df160 0 = .ok (.iload_n 0, 1) := by decide +kernel
theorem ddJ0_checkIndex_df160_1 : decode cJ0_checkIndex_df160 1 = .ok (.iload_n 1, 1) := by decide +kernel
theorem ddJ0_checkIndex_df160_2 : decode cJ0_checkIndex_df160 2 = .ok (.getstatic 1053, 3) := by decide +kernel
theorem ddJ0_checkIndex_df160_5 : decode cJ0_checkIndex_df160 5 = .ok (.invokestatic 1059, 3) := by decide +kernel
theorem ddJ0_checkIndex_df160_8 : decode cJ0_checkIndex_df160 8 = .ok (.pop, 1) := by decide +kernel
theorem ddJ0_checkIndex_df160_9 : decode cJ0_checkIndex_df160 9 = .ok (.return_, 1) := by decide +kernel
def wq_k_checkIndex0_2 : List Cond := Cond.code yJ0_checkIndex_df160 cJ0_checkIndex_df160 2 none :: (([Cond.fieldLink RJ0 1053 "jdk/internal/util/Preconditions" "SIOOBE_FORMATTER" "Ljava/util/function/BiFunction;", Cond.methodLink RJ0 1059 yJ3_checkIndex_8e157, Cond.static yJ3_checkIndex_8e157, Cond.initialized RJ3, Cond.code yJ3_checkIndex_8e157 cJ3_checkIndex_8e157 3 (some .int)] : List Cond))
set_option maxRecDepth 20000 in
theorem gr_k_checkIndex0_2_k_checkIndex3n_2 : GoodIn wq_k_checkIndex0_2 wq_k_checkIndex3n_2 := List.forall_mem_cons.mpr ⟨⟨(List.mem_of_getElem? (i := 5) rfl), good_of_word rfl⟩, (fun _ h => absurd h List.not_mem_nil)⟩
set_option maxRecDepth 20000 in
theorem gq_k_checkIndex0_2_k_checkIndex3n_2_1059 : GoodIn wq_k_checkIndex0_2 (va_wsS RJ0 1059 yJ3_checkIndex_8e157 wq_k_checkIndex3n_2) := goodIn_app (List.forall_mem_cons.mpr ⟨⟨(List.mem_of_getElem? (i := 2) rfl), good_of_word rfl⟩, List.forall_mem_cons.mpr ⟨⟨(List.mem_of_getElem? (i := 3) rfl), good_of_word rfl⟩, List.forall_mem_cons.mpr ⟨⟨(List.mem_of_getElem? (i := 4) rfl), good_of_word rfl⟩, (fun _ h => absurd h List.not_mem_nil)⟩⟩⟩) gr_k_checkIndex0_2_k_checkIndex3n_2
set_option maxRecDepth 20000 in
theorem gr_k_checkIndex0_2_k_checkIndex3_2 : GoodIn wq_k_checkIndex0_2 wq_k_checkIndex3_2 := List.forall_mem_cons.mpr ⟨⟨(List.mem_of_getElem? (i := 5) rfl), good_of_word rfl⟩, (fun _ h => absurd h List.not_mem_nil)⟩
set_option maxRecDepth 20000 in
theorem gq_k_checkIndex0_2_k_checkIndex3_2_1059 : GoodIn wq_k_checkIndex0_2 (va_wsS RJ0 1059 yJ3_checkIndex_8e157 wq_k_checkIndex3_2) := goodIn_app (List.forall_mem_cons.mpr ⟨⟨(List.mem_of_getElem? (i := 2) rfl), good_of_word rfl⟩, List.forall_mem_cons.mpr ⟨⟨(List.mem_of_getElem? (i := 3) rfl), good_of_word rfl⟩, List.forall_mem_cons.mpr ⟨⟨(List.mem_of_getElem? (i := 4) rfl), good_of_word rfl⟩, (fun _ h => absurd h List.not_mem_nil)⟩⟩⟩) gr_k_checkIndex0_2_k_checkIndex3_2
set_option maxHeartbeats 8000000 in
set_option maxRecDepth 100000 in
theorem k_checkIndex0_2 (l : Launch) (D : va_G) (cy : Nat → ClassId) (ad : Nat → Nat) (g : Nat → va_E) {n : Int32} (p_n : zi 0 1 n) : cMv l yJ0_checkIndex_df160 wq_k_checkIndex0_2 { frames := 1, cells := 0, slots := 0, locals := 22 } 0 0 0 0 D cy ad g [.int n, .int 2] (fun nw lu => lu = []) := by
  refine cM_of (Qc := fun A => cQv (fun nw lu => lu = []) D 0 0 ad g A) (cc := cJ0_checkIndex_df160) (maxL := 2) (ret := none) (by decide) rfl (Nat.le_of_ble_eq_true rfl) ?_
  intro p e s m below meth c A hC hr hlk hnm hO ls hl
  have hC : CallFix p m c cJ0_checkIndex_df160 2 s [.int n, .int 2].toArray wq_k_checkIndex0_2 RJ0 := hC
  obtain ⟨hx, hb, hml, hown, hts⟩ := id hC
  have hl : lv_has ls 2 [(0, .int n), (1, .int 2)] := hl
  refine lv_iload_n hx hb ddJ0_checkIndex_df160_0 rfl (lv_at hl 0 rfl) ?_
  refine lv_iload_n hx hb ddJ0_checkIndex_df160_1 rfl (lv_at hl 1 rfl) ?_
  refine sg_fmt hC hO (List.mem_of_getElem? (i := 1) rfl) ddJ0_checkIndex_df160_2 ?_ (fun t_2_10 => ?_)
  · refine cg_Si (As := [.int n, .int 2, .null]) (rest := []) (mc := 0) (ms := 0) (rm := { frames := 0, cells := 0, slots := 0, locals := 0 }) hC hl.1 hO [] (by decide +kernel) (k_checkIndex3n_2 l D cy _ _ (n := n) p_n) gq_k_checkIndex0_2_k_checkIndex3n_2_1059 rfl rfl rfl 3 (by decide +kernel) ⟨Nat.le_of_ble_eq_true rfl, Nat.le_of_ble_eq_true rfl⟩ rfl rfl (Nat.le_of_ble_eq_true rfl) ddJ0_checkIndex_df160_5 ⟨Nat.le_of_ble_eq_true rfl, Nat.le_of_ble_eq_true rfl⟩ (fun r_5_13 nw_5_11 l_5_12 H locs hw hO => ?_)
    obtain ⟨z_5_14, rfl⟩ := hw
    have hO : cO D cy A s.heap s 0 ad (cup [] g) _ _ := hO
    refine lv_pop hx hb ddJ0_checkIndex_df160_8 rfl ?_
    exact cg_vret (nw := fun _ => 0) hC hr hlk hO.same (Nat.le_of_ble_eq_true rfl) (Nat.le_of_ble_eq_true rfl) rfl ddJ0_checkIndex_df160_9
  · refine cg_Si (As := [.int n, .int 2, .ref t_2_10]) (rest := []) (mc := 0) (ms := 0) (rm := { frames := 0, cells := 0, slots := 0, locals := 0 }) hC hl.1 hO [] (by decide +kernel) (k_checkIndex3_2 l D cy _ _ (n := n) (tx := t_2_10) p_n) gq_k_checkIndex0_2_k_checkIndex3_2_1059 rfl rfl rfl 3 (by decide +kernel) ⟨Nat.le_of_ble_eq_true rfl, Nat.le_of_ble_eq_true rfl⟩ rfl rfl (Nat.le_of_ble_eq_true rfl) ddJ0_checkIndex_df160_5 ⟨Nat.le_of_ble_eq_true rfl, Nat.le_of_ble_eq_true rfl⟩ (fun r_5_17 nw_5_15 l_5_16 H locs hw hO => ?_)
    obtain ⟨z_5_18, rfl⟩ := hw
    have hO : cO D cy A s.heap s 0 ad (cup [] g) _ _ := hO
    refine lv_pop hx hb ddJ0_checkIndex_df160_8 rfl ?_
    exact cg_vret (nw := fun _ => 0) hC hr hlk hO.same (Nat.le_of_ble_eq_true rfl) (Nat.le_of_ble_eq_true rfl) rfl ddJ0_checkIndex_df160_9

def wq_k_checkIndex3n_3 : List Cond := Cond.code yJ3_checkIndex_8e157 cJ3_checkIndex_8e157 3 (some .int) :: (([] : List Cond))
set_option maxHeartbeats 8000000 in
set_option maxRecDepth 100000 in
theorem k_checkIndex3n_3 (l : Launch) (D : va_G) (cy : Nat → ClassId) (ad : Nat → Nat) (g : Nat → va_E) {n : Int32} (p_n : zi 0 2 n) : cMi l yJ3_checkIndex_8e157 wq_k_checkIndex3n_3 { frames := 0, cells := 0, slots := 0, locals := 0 } 0 0 0 0 D cy ad g [.int n, .int 3, .null] (fun r nw lu => (zi 0 2 r) ∧ (lu = [])) := by
  refine cM_of (Qc := fun A => cQi (fun r nw lu => (zi 0 2 r) ∧ (lu = [])) D 0 0 ad g A) (cc := cJ3_checkIndex_8e157) (maxL := 3) (ret := (some .int)) (by decide) rfl (Nat.le_of_ble_eq_true rfl) ?_
  intro p e s m below meth c A hC hr hlk hnm hO ls hl
  have hC : CallFix p m c cJ3_checkIndex_8e157 3 s [.int n, .int 3, .null].toArray wq_k_checkIndex3n_3 RJ3 := hC
  obtain ⟨hx, hb, hml, hown, hts⟩ := id hC
  have hl : lv_has ls 3 [(0, .int n), (1, .int 3), (2, .null)] := hl
  refine lv_iload_n hx hb ddJ3_checkIndex_8e157_0 rfl (lv_at hl 0 rfl) ?_
  refine lv_if_lt (tgt := 9) hx hb ddJ3_checkIndex_8e157_1 (by decide) (fun h_1_5 => (zx_lt (zr_lt h_1_5) p_n (zi_k (a := 0) (b := 0) (x := 0) rfl) (by decide)).elim) (fun h_1_5 => ?_)
  have q_1_6 := zr_nlt h_1_5
  refine lv_iload_n hx hb ddJ3_checkIndex_8e157_4 rfl (lv_at hl 0 rfl) ?_
  refine lv_iload_n hx hb ddJ3_checkIndex_8e157_5 rfl (lv_at hl 1 rfl) ?_
  refine lv_icmp_lt (tgt := 16) hx hb ddJ3_checkIndex_8e157_6 (by decide) (fun h_6_7 => ?_) (fun h_6_7 => (zx_le (zr_nlt h_6_7) (zi_k (a := 3) (b := 3) (x := 3) rfl) p_n (by decide)).elim)
  have q_6_8 := zr_lt h_6_7
  refine lv_iload_n hx hb ddJ3_checkIndex_8e157_16 rfl (lv_at hl 0 rfl) ?_
  exact cg_iret (nw := fun _ => 0) hC hr hlk hO.same rfl (Nat.le_of_ble_eq_true rfl) (Nat.le_of_ble_eq_true rfl) (⟨p_n, rfl⟩) ddJ3_checkIndex_8e157_17

def wq_k_checkIndex3_3 : List Cond := Cond.code yJ3_checkIndex_8e157 cJ3_checkIndex_8e157 3 (some .int) :: (([] : List Cond))
set_option maxHeartbeats 8000000 in
set_option maxRecDepth 100000 in
theorem k_checkIndex3_3 (l : Launch) (D : va_G) (cy : Nat → ClassId) (ad : Nat → Nat) (g : Nat → va_E) {n : Int32} {tx : Nat} (p_n : zi 0 2 n) : cMi l yJ3_checkIndex_8e157 wq_k_checkIndex3_3 { frames := 0, cells := 0, slots := 0, locals := 0 } 0 0 0 0 D cy ad g [.int n, .int 3, .ref tx] (fun r nw lu => (zi 0 2 r) ∧ (lu = [])) := by
  refine cM_of (Qc := fun A => cQi (fun r nw lu => (zi 0 2 r) ∧ (lu = [])) D 0 0 ad g A) (cc := cJ3_checkIndex_8e157) (maxL := 3) (ret := (some .int)) (by decide) rfl (Nat.le_of_ble_eq_true rfl) ?_
  intro p e s m below meth c A hC hr hlk hnm hO ls hl
  have hC : CallFix p m c cJ3_checkIndex_8e157 3 s [.int n, .int 3, .ref tx].toArray wq_k_checkIndex3_3 RJ3 := hC
  obtain ⟨hx, hb, hml, hown, hts⟩ := id hC
  have hl : lv_has ls 3 [(0, .int n), (1, .int 3), (2, .ref tx)] := hl
  refine lv_iload_n hx hb ddJ3_checkIndex_8e157_0 rfl (lv_at hl 0 rfl) ?_
  refine lv_if_lt (tgt := 9) hx hb ddJ3_checkIndex_8e157_1 (by decide) (fun h_1_5 => (zx_lt (zr_lt h_1_5) p_n (zi_k (a := 0) (b := 0) (x := 0) rfl) (by decide)).elim) (fun h_1_5 => ?_)
  have q_1_6 := zr_nlt h_1_5
  refine lv_iload_n hx hb ddJ3_checkIndex_8e157_4 rfl (lv_at hl 0 rfl) ?_
  refine lv_iload_n hx hb ddJ3_checkIndex_8e157_5 rfl (lv_at hl 1 rfl) ?_
  refine lv_icmp_lt (tgt := 16) hx hb ddJ3_checkIndex_8e157_6 (by decide) (fun h_6_7 => ?_) (fun h_6_7 => (zx_le (zr_nlt h_6_7) (zi_k (a := 3) (b := 3) (x := 3) rfl) p_n (by decide)).elim)
  have q_6_8 := zr_lt h_6_7
  refine lv_iload_n hx hb ddJ3_checkIndex_8e157_16 rfl (lv_at hl 0 rfl) ?_
  exact cg_iret (nw := fun _ => 0) hC hr hlk hO.same rfl (Nat.le_of_ble_eq_true rfl) (Nat.le_of_ble_eq_true rfl) (⟨p_n, rfl⟩) ddJ3_checkIndex_8e157_17

def wq_k_checkIndex0_3 : List Cond := Cond.code yJ0_checkIndex_df160 cJ0_checkIndex_df160 2 none :: (([Cond.fieldLink RJ0 1053 "jdk/internal/util/Preconditions" "SIOOBE_FORMATTER" "Ljava/util/function/BiFunction;", Cond.methodLink RJ0 1059 yJ3_checkIndex_8e157, Cond.static yJ3_checkIndex_8e157, Cond.initialized RJ3, Cond.code yJ3_checkIndex_8e157 cJ3_checkIndex_8e157 3 (some .int)] : List Cond))
set_option maxRecDepth 20000 in
theorem gr_k_checkIndex0_3_k_checkIndex3n_3 : GoodIn wq_k_checkIndex0_3 wq_k_checkIndex3n_3 := List.forall_mem_cons.mpr ⟨⟨(List.mem_of_getElem? (i := 5) rfl), good_of_word rfl⟩, (fun _ h => absurd h List.not_mem_nil)⟩
set_option maxRecDepth 20000 in
theorem gq_k_checkIndex0_3_k_checkIndex3n_3_1059 : GoodIn wq_k_checkIndex0_3 (va_wsS RJ0 1059 yJ3_checkIndex_8e157 wq_k_checkIndex3n_3) := goodIn_app (List.forall_mem_cons.mpr ⟨⟨(List.mem_of_getElem? (i := 2) rfl), good_of_word rfl⟩, List.forall_mem_cons.mpr ⟨⟨(List.mem_of_getElem? (i := 3) rfl), good_of_word rfl⟩, List.forall_mem_cons.mpr ⟨⟨(List.mem_of_getElem? (i := 4) rfl), good_of_word rfl⟩, (fun _ h => absurd h List.not_mem_nil)⟩⟩⟩) gr_k_checkIndex0_3_k_checkIndex3n_3
set_option maxRecDepth 20000 in
theorem gr_k_checkIndex0_3_k_checkIndex3_3 : GoodIn wq_k_checkIndex0_3 wq_k_checkIndex3_3 := List.forall_mem_cons.mpr ⟨⟨(List.mem_of_getElem? (i := 5) rfl), good_of_word rfl⟩, (fun _ h => absurd h List.not_mem_nil)⟩
set_option maxRecDepth 20000 in
theorem gq_k_checkIndex0_3_k_checkIndex3_3_1059 : GoodIn wq_k_checkIndex0_3 (va_wsS RJ0 1059 yJ3_checkIndex_8e157 wq_k_checkIndex3_3) := goodIn_app (List.forall_mem_cons.mpr ⟨⟨(List.mem_of_getElem? (i := 2) rfl), good_of_word rfl⟩, List.forall_mem_cons.mpr ⟨⟨(List.mem_of_getElem? (i := 3) rfl), good_of_word rfl⟩, List.forall_mem_cons.mpr ⟨⟨(List.mem_of_getElem? (i := 4) rfl), good_of_word rfl⟩, (fun _ h => absurd h List.not_mem_nil)⟩⟩⟩) gr_k_checkIndex0_3_k_checkIndex3_3
set_option maxHeartbeats 8000000 in
set_option maxRecDepth 100000 in
theorem k_checkIndex0_3 (l : Launch) (D : va_G) (cy : Nat → ClassId) (ad : Nat → Nat) (g : Nat → va_E) {n : Int32} (p_n : zi 0 2 n) : cMv l yJ0_checkIndex_df160 wq_k_checkIndex0_3 { frames := 1, cells := 0, slots := 0, locals := 22 } 0 0 0 0 D cy ad g [.int n, .int 3] (fun nw lu => lu = []) := by
  refine cM_of (Qc := fun A => cQv (fun nw lu => lu = []) D 0 0 ad g A) (cc := cJ0_checkIndex_df160) (maxL := 2) (ret := none) (by decide) rfl (Nat.le_of_ble_eq_true rfl) ?_
  intro p e s m below meth c A hC hr hlk hnm hO ls hl
  have hC : CallFix p m c cJ0_checkIndex_df160 2 s [.int n, .int 3].toArray wq_k_checkIndex0_3 RJ0 := hC
  obtain ⟨hx, hb, hml, hown, hts⟩ := id hC
  have hl : lv_has ls 2 [(0, .int n), (1, .int 3)] := hl
  refine lv_iload_n hx hb ddJ0_checkIndex_df160_0 rfl (lv_at hl 0 rfl) ?_
  refine lv_iload_n hx hb ddJ0_checkIndex_df160_1 rfl (lv_at hl 1 rfl) ?_
  refine sg_fmt hC hO (List.mem_of_getElem? (i := 1) rfl) ddJ0_checkIndex_df160_2 ?_ (fun t_2_10 => ?_)
  · refine cg_Si (As := [.int n, .int 3, .null]) (rest := []) (mc := 0) (ms := 0) (rm := { frames := 0, cells := 0, slots := 0, locals := 0 }) hC hl.1 hO [] (by decide +kernel) (k_checkIndex3n_3 l D cy _ _ (n := n) p_n) gq_k_checkIndex0_3_k_checkIndex3n_3_1059 rfl rfl rfl 3 (by decide +kernel) ⟨Nat.le_of_ble_eq_true rfl, Nat.le_of_ble_eq_true rfl⟩ rfl rfl (Nat.le_of_ble_eq_true rfl) ddJ0_checkIndex_df160_5 ⟨Nat.le_of_ble_eq_true rfl, Nat.le_of_ble_eq_true rfl⟩ (fun r_5_13 nw_5_11 l_5_12 H locs hw hO => ?_)
    obtain ⟨z_5_14, rfl⟩ := hw
    have hO : cO D cy A s.heap s 0 ad (cup [] g) _ _ := hO
    refine lv_pop hx hb ddJ0_checkIndex_df160_8 rfl ?_
    exact cg_vret (nw := fun _ => 0) hC hr hlk hO.same (Nat.le_of_ble_eq_true rfl) (Nat.le_of_ble_eq_true rfl) rfl ddJ0_checkIndex_df160_9
  · refine cg_Si (As := [.int n, .int 3, .ref t_2_10]) (rest := []) (mc := 0) (ms := 0) (rm := { frames := 0, cells := 0, slots := 0, locals := 0 }) hC hl.1 hO [] (by decide +kernel) (k_checkIndex3_3 l D cy _ _ (n := n) (tx := t_2_10) p_n) gq_k_checkIndex0_3_k_checkIndex3_3_1059 rfl rfl rfl 3 (by decide +kernel) ⟨Nat.le_of_ble_eq_true rfl, Nat.le_of_ble_eq_true rfl⟩ rfl rfl (Nat.le_of_ble_eq_true rfl) ddJ0_checkIndex_df160_5 ⟨Nat.le_of_ble_eq_true rfl, Nat.le_of_ble_eq_true rfl⟩ (fun r_5_17 nw_5_15 l_5_16 H locs hw hO => ?_)
    obtain ⟨z_5_18, rfl⟩ := hw
    have hO : cO D cy A s.heap s 0 ad (cup [] g) _ _ := hO
    refine lv_pop hx hb ddJ0_checkIndex_df160_8 rfl ?_
    exact cg_vret (nw := fun _ => 0) hC hr hlk hO.same (Nat.le_of_ble_eq_true rfl) (Nat.le_of_ble_eq_true rfl) rfl ddJ0_checkIndex_df160_9

def wq_k_checkIndex3n_4 : List Cond := Cond.code yJ3_checkIndex_8e157 cJ3_checkIndex_8e157 3 (some .int) :: (([] : List Cond))
set_option maxHeartbeats 8000000 in
set_option maxRecDepth 100000 in
theorem k_checkIndex3n_4 (l : Launch) (D : va_G) (cy : Nat → ClassId) (ad : Nat → Nat) (g : Nat → va_E) {n : Int32} (p_n : zi 0 3 n) : cMi l yJ3_checkIndex_8e157 wq_k_checkIndex3n_4 { frames := 0, cells := 0, slots := 0, locals := 0 } 0 0 0 0 D cy ad g [.int n, .int 4, .null] (fun r nw lu => (zi 0 3 r) ∧ (lu = [])) := by
  refine cM_of (Qc := fun A => cQi (fun r nw lu => (zi 0 3 r) ∧ (lu = [])) D 0 0 ad g A) (cc := cJ3_checkIndex_8e157) (maxL := 3) (ret := (some .int)) (by decide) rfl (Nat.le_of_ble_eq_true rfl) ?_
  intro p e s m below meth c A hC hr hlk hnm hO ls hl
  have hC : CallFix p m c cJ3_checkIndex_8e157 3 s [.int n, .int 4, .null].toArray wq_k_checkIndex3n_4 RJ3 := hC
  obtain ⟨hx, hb, hml, hown, hts⟩ := id hC
  have hl : lv_has ls 3 [(0, .int n), (1, .int 4), (2, .null)] := hl
  refine lv_iload_n hx hb ddJ3_checkIndex_8e157_0 rfl (lv_at hl 0 rfl) ?_
  refine lv_if_lt (tgt := 9) hx hb ddJ3_checkIndex_8e157_1 (by decide) (fun h_1_5 => (zx_lt (zr_lt h_1_5) p_n (zi_k (a := 0) (b := 0) (x := 0) rfl) (by decide)).elim) (fun h_1_5 => ?_)
  have q_1_6 := zr_nlt h_1_5
  refine lv_iload_n hx hb ddJ3_checkIndex_8e157_4 rfl (lv_at hl 0 rfl) ?_
  refine lv_iload_n hx hb ddJ3_checkIndex_8e157_5 rfl (lv_at hl 1 rfl) ?_
  refine lv_icmp_lt (tgt := 16) hx hb ddJ3_checkIndex_8e157_6 (by decide) (fun h_6_7 => ?_) (fun h_6_7 => (zx_le (zr_nlt h_6_7) (zi_k (a := 4) (b := 4) (x := 4) rfl) p_n (by decide)).elim)
  have q_6_8 := zr_lt h_6_7
  refine lv_iload_n hx hb ddJ3_checkIndex_8e157_16 rfl (lv_at hl 0 rfl) ?_
  exact cg_iret (nw := fun _ => 0) hC hr hlk hO.same rfl (Nat.le_of_ble_eq_true rfl) (Nat.le_of_ble_eq_true rfl) (⟨p_n, rfl⟩) ddJ3_checkIndex_8e157_17

def wq_k_checkIndex3_4 : List Cond := Cond.code yJ3_checkIndex_8e157 cJ3_checkIndex_8e157 3 (some .int) :: (([] : List Cond))
set_option maxHeartbeats 8000000 in
set_option maxRecDepth 100000 in
theorem k_checkIndex3_4 (l : Launch) (D : va_G) (cy : Nat → ClassId) (ad : Nat → Nat) (g : Nat → va_E) {n : Int32} {tx : Nat} (p_n : zi 0 3 n) : cMi l yJ3_checkIndex_8e157 wq_k_checkIndex3_4 { frames := 0, cells := 0, slots := 0, locals := 0 } 0 0 0 0 D cy ad g [.int n, .int 4, .ref tx] (fun r nw lu => (zi 0 3 r) ∧ (lu = [])) := by
  refine cM_of (Qc := fun A => cQi (fun r nw lu => (zi 0 3 r) ∧ (lu = [])) D 0 0 ad g A) (cc := cJ3_checkIndex_8e157) (maxL := 3) (ret := (some .int)) (by decide) rfl (Nat.le_of_ble_eq_true rfl) ?_
  intro p e s m below meth c A hC hr hlk hnm hO ls hl
  have hC : CallFix p m c cJ3_checkIndex_8e157 3 s [.int n, .int 4, .ref tx].toArray wq_k_checkIndex3_4 RJ3 := hC
  obtain ⟨hx, hb, hml, hown, hts⟩ := id hC
  have hl : lv_has ls 3 [(0, .int n), (1, .int 4), (2, .ref tx)] := hl
  refine lv_iload_n hx hb ddJ3_checkIndex_8e157_0 rfl (lv_at hl 0 rfl) ?_
  refine lv_if_lt (tgt := 9) hx hb ddJ3_checkIndex_8e157_1 (by decide) (fun h_1_5 => (zx_lt (zr_lt h_1_5) p_n (zi_k (a := 0) (b := 0) (x := 0) rfl) (by decide)).elim) (fun h_1_5 => ?_)
  have q_1_6 := zr_nlt h_1_5
  refine lv_iload_n hx hb ddJ3_checkIndex_8e157_4 rfl (lv_at hl 0 rfl) ?_
  refine lv_iload_n hx hb ddJ3_checkIndex_8e157_5 rfl (lv_at hl 1 rfl) ?_
  refine lv_icmp_lt (tgt := 16) hx hb ddJ3_checkIndex_8e157_6 (by decide) (fun h_6_7 => ?_) (fun h_6_7 => (zx_le (zr_nlt h_6_7) (zi_k (a := 4) (b := 4) (x := 4) rfl) p_n (by decide)).elim)
  have q_6_8 := zr_lt h_6_7
  refine lv_iload_n hx hb ddJ3_checkIndex_8e157_16 rfl (lv_at hl 0 rfl) ?_
  exact cg_iret (nw := fun _ => 0) hC hr hlk hO.same rfl (Nat.le_of_ble_eq_true rfl) (Nat.le_of_ble_eq_true rfl) (⟨p_n, rfl⟩) ddJ3_checkIndex_8e157_17

def wq_k_checkIndex0_4 : List Cond := Cond.code yJ0_checkIndex_df160 cJ0_checkIndex_df160 2 none :: (([Cond.fieldLink RJ0 1053 "jdk/internal/util/Preconditions" "SIOOBE_FORMATTER" "Ljava/util/function/BiFunction;", Cond.methodLink RJ0 1059 yJ3_checkIndex_8e157, Cond.static yJ3_checkIndex_8e157, Cond.initialized RJ3, Cond.code yJ3_checkIndex_8e157 cJ3_checkIndex_8e157 3 (some .int)] : List Cond))
set_option maxRecDepth 20000 in
theorem gr_k_checkIndex0_4_k_checkIndex3n_4 : GoodIn wq_k_checkIndex0_4 wq_k_checkIndex3n_4 := List.forall_mem_cons.mpr ⟨⟨(List.mem_of_getElem? (i := 5) rfl), good_of_word rfl⟩, (fun _ h => absurd h List.not_mem_nil)⟩
set_option maxRecDepth 20000 in
theorem gq_k_checkIndex0_4_k_checkIndex3n_4_1059 : GoodIn wq_k_checkIndex0_4 (va_wsS RJ0 1059 yJ3_checkIndex_8e157 wq_k_checkIndex3n_4) := goodIn_app (List.forall_mem_cons.mpr ⟨⟨(List.mem_of_getElem? (i := 2) rfl), good_of_word rfl⟩, List.forall_mem_cons.mpr ⟨⟨(List.mem_of_getElem? (i := 3) rfl), good_of_word rfl⟩, List.forall_mem_cons.mpr ⟨⟨(List.mem_of_getElem? (i := 4) rfl), good_of_word rfl⟩, (fun _ h => absurd h List.not_mem_nil)⟩⟩⟩) gr_k_checkIndex0_4_k_checkIndex3n_4
set_option maxRecDepth 20000 in
theorem gr_k_checkIndex0_4_k_checkIndex3_4 : GoodIn wq_k_checkIndex0_4 wq_k_checkIndex3_4 := List.forall_mem_cons.mpr ⟨⟨(List.mem_of_getElem? (i := 5) rfl), good_of_word rfl⟩, (fun _ h => absurd h List.not_mem_nil)⟩
set_option maxRecDepth 20000 in
theorem gq_k_checkIndex0_4_k_checkIndex3_4_1059 : GoodIn wq_k_checkIndex0_4 (va_wsS RJ0 1059 yJ3_checkIndex_8e157 wq_k_checkIndex3_4) := goodIn_app (List.forall_mem_cons.mpr ⟨⟨(List.mem_of_getElem? (i := 2) rfl), good_of_word rfl⟩, List.forall_mem_cons.mpr ⟨⟨(List.mem_of_getElem? (i := 3) rfl), good_of_word rfl⟩, List.forall_mem_cons.mpr ⟨⟨(List.mem_of_getElem? (i := 4) rfl), good_of_word rfl⟩, (fun _ h => absurd h List.not_mem_nil)⟩⟩⟩) gr_k_checkIndex0_4_k_checkIndex3_4
set_option maxHeartbeats 8000000 in
set_option maxRecDepth 100000 in
theorem k_checkIndex0_4 (l : Launch) (D : va_G) (cy : Nat → ClassId) (ad : Nat → Nat) (g : Nat → va_E) {n : Int32} (p_n : zi 0 3 n) : cMv l yJ0_checkIndex_df160 wq_k_checkIndex0_4 { frames := 1, cells := 0, slots := 0, locals := 22 } 0 0 0 0 D cy ad g [.int n, .int 4] (fun nw lu => lu = []) := by
  refine cM_of (Qc := fun A => cQv (fun nw lu => lu = []) D 0 0 ad g A) (cc := cJ0_checkIndex_df160) (maxL := 2) (ret := none) (by decide) rfl (Nat.le_of_ble_eq_true rfl) ?_
  intro p e s m below meth c A hC hr hlk hnm hO ls hl
  have hC : CallFix p m c cJ0_checkIndex_df160 2 s [.int n, .int 4].toArray wq_k_checkIndex0_4 RJ0 := hC
  obtain ⟨hx, hb, hml, hown, hts⟩ := id hC
  have hl : lv_has ls 2 [(0, .int n), (1, .int 4)] := hl
  refine lv_iload_n hx hb ddJ0_checkIndex_df160_0 rfl (lv_at hl 0 rfl) ?_
  refine lv_iload_n hx hb ddJ0_checkIndex_df160_1 rfl (lv_at hl 1 rfl) ?_
  refine sg_fmt hC hO (List.mem_of_getElem? (i := 1) rfl) ddJ0_checkIndex_df160_2 ?_ (fun t_2_10 => ?_)
  · refine cg_Si (As := [.int n, .int 4, .null]) (rest := []) (mc := 0) (ms := 0) (rm := { frames := 0, cells := 0, slots := 0, locals := 0 }) hC hl.1 hO [] (by decide +kernel) (k_checkIndex3n_4 l D cy _ _ (n := n) p_n) gq_k_checkIndex0_4_k_checkIndex3n_4_1059 rfl rfl rfl 3 (by decide +kernel) ⟨Nat.le_of_ble_eq_true rfl, Nat.le_of_ble_eq_true rfl⟩ rfl rfl (Nat.le_of_ble_eq_true rfl) ddJ0_checkIndex_df160_5 ⟨Nat.le_of_ble_eq_true rfl, Nat.le_of_ble_eq_true rfl⟩ (fun r_5_13 nw_5_11 l_5_12 H locs hw hO => ?_)
    obtain ⟨z_5_14, rfl⟩ := hw
    have hO : cO D cy A s.heap s 0 ad (cup [] g) _ _ := hO
    refine lv_pop hx hb ddJ0_checkIndex_df160_8 rfl ?_
    exact cg_vret (nw := fun _ => 0) hC hr hlk hO.same (Nat.le_of_ble_eq_true rfl) (Nat.le_of_ble_eq_true rfl) rfl ddJ0_checkIndex_df160_9
  · refine cg_Si (As := [.int n, .int 4, .ref t_2_10]) (rest := []) (mc := 0) (ms := 0) (rm := { frames := 0, cells := 0, slots := 0, locals := 0 }) hC hl.1 hO [] (by decide +kernel) (k_checkIndex3_4 l D cy _ _ (n := n) (tx := t_2_10) p_n) gq_k_checkIndex0_4_k_checkIndex3_4_1059 rfl rfl rfl 3 (by decide +kernel) ⟨Nat.le_of_ble_eq_true rfl, Nat.le_of_ble_eq_true rfl⟩ rfl rfl (Nat.le_of_ble_eq_true rfl) ddJ0_checkIndex_df160_5 ⟨Nat.le_of_ble_eq_true rfl, Nat.le_of_ble_eq_true rfl⟩ (fun r_5_17 nw_5_15 l_5_16 H locs hw hO => ?_)
    obtain ⟨z_5_18, rfl⟩ := hw
    have hO : cO D cy A s.heap s 0 ad (cup [] g) _ _ := hO
    refine lv_pop hx hb ddJ0_checkIndex_df160_8 rfl ?_
    exact cg_vret (nw := fun _ => 0) hC hr hlk hO.same (Nat.le_of_ble_eq_true rfl) (Nat.le_of_ble_eq_true rfl) rfl ddJ0_checkIndex_df160_9

def wq_k_checkIndex3n_5 : List Cond := Cond.code yJ3_checkIndex_8e157 cJ3_checkIndex_8e157 3 (some .int) :: (([] : List Cond))
set_option maxHeartbeats 8000000 in
set_option maxRecDepth 100000 in
theorem k_checkIndex3n_5 (l : Launch) (D : va_G) (cy : Nat → ClassId) (ad : Nat → Nat) (g : Nat → va_E) {n : Int32} (p_n : zi 0 4 n) : cMi l yJ3_checkIndex_8e157 wq_k_checkIndex3n_5 { frames := 0, cells := 0, slots := 0, locals := 0 } 0 0 0 0 D cy ad g [.int n, .int 5, .null] (fun r nw lu => (zi 0 4 r) ∧ (lu = [])) := by
  refine cM_of (Qc := fun A => cQi (fun r nw lu => (zi 0 4 r) ∧ (lu = [])) D 0 0 ad g A) (cc := cJ3_checkIndex_8e157) (maxL := 3) (ret := (some .int)) (by decide) rfl (Nat.le_of_ble_eq_true rfl) ?_
  intro p e s m below meth c A hC hr hlk hnm hO ls hl
  have hC : CallFix p m c cJ3_checkIndex_8e157 3 s [.int n, .int 5, .null].toArray wq_k_checkIndex3n_5 RJ3 := hC
  obtain ⟨hx, hb, hml, hown, hts⟩ := id hC
  have hl : lv_has ls 3 [(0, .int n), (1, .int 5), (2, .null)] := hl
  refine lv_iload_n hx hb ddJ3_checkIndex_8e157_0 rfl (lv_at hl 0 rfl) ?_
  refine lv_if_lt (tgt := 9) hx hb ddJ3_checkIndex_8e157_1 (by decide) (fun h_1_5 => (zx_lt (zr_lt h_1_5) p_n (zi_k (a := 0) (b := 0) (x := 0) rfl) (by decide)).elim) (fun h_1_5 => ?_)
  have q_1_6 := zr_nlt h_1_5
  refine lv_iload_n hx hb ddJ3_checkIndex_8e157_4 rfl (lv_at hl 0 rfl) ?_
  refine lv_iload_n hx hb ddJ3_checkIndex_8e157_5 rfl (lv_at hl 1 rfl) ?_
  refine lv_icmp_lt (tgt := 16) hx hb ddJ3_checkIndex_8e157_6 (by decide) (fun h_6_7 => ?_) (fun h_6_7 => (zx_le (zr_nlt h_6_7) (zi_k (a := 5) (b := 5) (x := 5) rfl) p_n (by decide)).elim)
  have q_6_8 := zr_lt h_6_7
  refine lv_iload_n hx hb ddJ3_checkIndex_8e157_16 rfl (lv_at hl 0 rfl) ?_
  exact cg_iret (nw := fun _ => 0) hC hr hlk hO.same rfl (Nat.le_of_ble_eq_true rfl) (Nat.le_of_ble_eq_true rfl) (⟨p_n, rfl⟩) ddJ3_checkIndex_8e157_17

def wq_k_checkIndex3_5 : List Cond := Cond.code yJ3_checkIndex_8e157 cJ3_checkIndex_8e157 3 (some .int) :: (([] : List Cond))
set_option maxHeartbeats 8000000 in
set_option maxRecDepth 100000 in
theorem k_checkIndex3_5 (l : Launch) (D : va_G) (cy : Nat → ClassId) (ad : Nat → Nat) (g : Nat → va_E) {n : Int32} {tx : Nat} (p_n : zi 0 4 n) : cMi l yJ3_checkIndex_8e157 wq_k_checkIndex3_5 { frames := 0, cells := 0, slots := 0, locals := 0 } 0 0 0 0 D cy ad g [.int n, .int 5, .ref tx] (fun r nw lu => (zi 0 4 r) ∧ (lu = [])) := by
  refine cM_of (Qc := fun A => cQi (fun r nw lu => (zi 0 4 r) ∧ (lu = [])) D 0 0 ad g A) (cc := cJ3_checkIndex_8e157) (maxL := 3) (ret := (some .int)) (by decide) rfl (Nat.le_of_ble_eq_true rfl) ?_
  intro p e s m below meth c A hC hr hlk hnm hO ls hl
  have hC : CallFix p m c cJ3_checkIndex_8e157 3 s [.int n, .int 5, .ref tx].toArray wq_k_checkIndex3_5 RJ3 := hC
  obtain ⟨hx, hb, hml, hown, hts⟩ := id hC
  have hl : lv_has ls 3 [(0, .int n), (1, .int 5), (2, .ref tx)] := hl
  refine lv_iload_n hx hb ddJ3_checkIndex_8e157_0 rfl (lv_at hl 0 rfl) ?_
  refine lv_if_lt (tgt := 9) hx hb ddJ3_checkIndex_8e157_1 (by decide) (fun h_1_5 => (zx_lt (zr_lt h_1_5) p_n (zi_k (a := 0) (b := 0) (x := 0) rfl) (by decide)).elim) (fun h_1_5 => ?_)
  have q_1_6 := zr_nlt h_1_5
  refine lv_iload_n hx hb ddJ3_checkIndex_8e157_4 rfl (lv_at hl 0 rfl) ?_
  refine lv_iload_n hx hb ddJ3_checkIndex_8e157_5 rfl (lv_at hl 1 rfl) ?_
  refine lv_icmp_lt (tgt := 16) hx hb ddJ3_checkIndex_8e157_6 (by decide) (fun h_6_7 => ?_) (fun h_6_7 => (zx_le (zr_nlt h_6_7) (zi_k (a := 5) (b := 5) (x := 5) rfl) p_n (by decide)).elim)
  have q_6_8 := zr_lt h_6_7
  refine lv_iload_n hx hb ddJ3_checkIndex_8e157_16 rfl (lv_at hl 0 rfl) ?_
  exact cg_iret (nw := fun _ => 0) hC hr hlk hO.same rfl (Nat.le_of_ble_eq_true rfl) (Nat.le_of_ble_eq_true rfl) (⟨p_n, rfl⟩) ddJ3_checkIndex_8e157_17

def wq_k_checkIndex0_5 : List Cond := Cond.code yJ0_checkIndex_df160 cJ0_checkIndex_df160 2 none :: (([Cond.fieldLink RJ0 1053 "jdk/internal/util/Preconditions" "SIOOBE_FORMATTER" "Ljava/util/function/BiFunction;", Cond.methodLink RJ0 1059 yJ3_checkIndex_8e157, Cond.static yJ3_checkIndex_8e157, Cond.initialized RJ3, Cond.code yJ3_checkIndex_8e157 cJ3_checkIndex_8e157 3 (some .int)] : List Cond))
set_option maxRecDepth 20000 in
theorem gr_k_checkIndex0_5_k_checkIndex3n_5 : GoodIn wq_k_checkIndex0_5 wq_k_checkIndex3n_5 := List.forall_mem_cons.mpr ⟨⟨(List.mem_of_getElem? (i := 5) rfl), good_of_word rfl⟩, (fun _ h => absurd h List.not_mem_nil)⟩
set_option maxRecDepth 20000 in
theorem gq_k_checkIndex0_5_k_checkIndex3n_5_1059 : GoodIn wq_k_checkIndex0_5 (va_wsS RJ0 1059 yJ3_checkIndex_8e157 wq_k_checkIndex3n_5) := goodIn_app (List.forall_mem_cons.mpr ⟨⟨(List.mem_of_getElem? (i := 2) rfl), good_of_word rfl⟩, List.forall_mem_cons.mpr ⟨⟨(List.mem_of_getElem? (i := 3) rfl), good_of_word rfl⟩, List.forall_mem_cons.mpr ⟨⟨(List.mem_of_getElem? (i := 4) rfl), good_of_word rfl⟩, (fun _ h => absurd h List.not_mem_nil)⟩⟩⟩) gr_k_checkIndex0_5_k_checkIndex3n_5
set_option maxRecDepth 20000 in
theorem gr_k_checkIndex0_5_k_checkIndex3_5 : GoodIn wq_k_checkIndex0_5 wq_k_checkIndex3_5 := List.forall_mem_cons.mpr ⟨⟨(List.mem_of_getElem? (i := 5) rfl), good_of_word rfl⟩, (fun _ h => absurd h List.not_mem_nil)⟩
set_option maxRecDepth 20000 in
theorem gq_k_checkIndex0_5_k_checkIndex3_5_1059 : GoodIn wq_k_checkIndex0_5 (va_wsS RJ0 1059 yJ3_checkIndex_8e157 wq_k_checkIndex3_5) := goodIn_app (List.forall_mem_cons.mpr ⟨⟨(List.mem_of_getElem? (i := 2) rfl), good_of_word rfl⟩, List.forall_mem_cons.mpr ⟨⟨(List.mem_of_getElem? (i := 3) rfl), good_of_word rfl⟩, List.forall_mem_cons.mpr ⟨⟨(List.mem_of_getElem? (i := 4) rfl), good_of_word rfl⟩, (fun _ h => absurd h List.not_mem_nil)⟩⟩⟩) gr_k_checkIndex0_5_k_checkIndex3_5
set_option maxHeartbeats 8000000 in
set_option maxRecDepth 100000 in
theorem k_checkIndex0_5 (l : Launch) (D : va_G) (cy : Nat → ClassId) (ad : Nat → Nat) (g : Nat → va_E) {n : Int32} (p_n : zi 0 4 n) : cMv l yJ0_checkIndex_df160 wq_k_checkIndex0_5 { frames := 1, cells := 0, slots := 0, locals := 22 } 0 0 0 0 D cy ad g [.int n, .int 5] (fun nw lu => lu = []) := by
  refine cM_of (Qc := fun A => cQv (fun nw lu => lu = []) D 0 0 ad g A) (cc := cJ0_checkIndex_df160) (maxL := 2) (ret := none) (by decide) rfl (Nat.le_of_ble_eq_true rfl) ?_
  intro p e s m below meth c A hC hr hlk hnm hO ls hl
  have hC : CallFix p m c cJ0_checkIndex_df160 2 s [.int n, .int 5].toArray wq_k_checkIndex0_5 RJ0 := hC
  obtain ⟨hx, hb, hml, hown, hts⟩ := id hC
  have hl : lv_has ls 2 [(0, .int n), (1, .int 5)] := hl
  refine lv_iload_n hx hb ddJ0_checkIndex_df160_0 rfl (lv_at hl 0 rfl) ?_
  refine lv_iload_n hx hb ddJ0_checkIndex_df160_1 rfl (lv_at hl 1 rfl) ?_
  refine sg_fmt hC hO (List.mem_of_getElem? (i := 1) rfl) ddJ0_checkIndex_df160_2 ?_ (fun t_2_10 => ?_)
  · refine cg_Si (As := [.int n, .int 5, .null]) (rest := []) (mc := 0) (ms := 0) (rm := { frames := 0, cells := 0, slots := 0, locals := 0 }) hC hl.1 hO [] (by decide +kernel) (k_checkIndex3n_5 l D cy _ _ (n := n) p_n) gq_k_checkIndex0_5_k_checkIndex3n_5_1059 rfl rfl rfl 3 (by decide +kernel) ⟨Nat.le_of_ble_eq_true rfl, Nat.le_of_ble_eq_true rfl⟩ rfl rfl (Nat.le_of_ble_eq_true rfl) ddJ0_checkIndex_df160_5 ⟨Nat.le_of_ble_eq_true rfl, Nat.le_of_ble_eq_true rfl⟩ (fun r_5_13 nw_5_11 l_5_12 H locs hw hO => ?_)
    obtain ⟨z_5_14, rfl⟩ := hw
    have hO : cO D cy A s.heap s 0 ad (cup [] g) _ _ := hO
    refine lv_pop hx hb ddJ0_checkIndex_df160_8 rfl ?_
    exact cg_vret (nw := fun _ => 0) hC hr hlk hO.same (Nat.le_of_ble_eq_true rfl) (Nat.le_of_ble_eq_true rfl) rfl ddJ0_checkIndex_df160_9
  · refine cg_Si (As := [.int n, .int 5, .ref t_2_10]) (rest := []) (mc := 0) (ms := 0) (rm := { frames := 0, cells := 0, slots := 0, locals := 0 }) hC hl.1 hO [] (by decide +kernel) (k_checkIndex3_5 l D cy _ _ (n := n) (tx := t_2_10) p_n) gq_k_checkIndex0_5_k_checkIndex3_5_1059 rfl rfl rfl 3 (by decide +kernel) ⟨Nat.le_of_ble_eq_true rfl, Nat.le_of_ble_eq_true rfl⟩ rfl rfl (Nat.le_of_ble_eq_true rfl) ddJ0_checkIndex_df160_5 ⟨Nat.le_of_ble_eq_true rfl, Nat.le_of_ble_eq_true rfl⟩ (fun r_5_17 nw_5_15 l_5_16 H locs hw hO => ?_)
    obtain ⟨z_5_18, rfl⟩ := hw
    have hO : cO D cy A s.heap s 0 ad (cup [] g) _ _ := hO
    refine lv_pop hx hb ddJ0_checkIndex_df160_8 rfl ?_
    exact cg_vret (nw := fun _ => 0) hC hr hlk hO.same (Nat.le_of_ble_eq_true rfl) (Nat.le_of_ble_eq_true rfl) rfl ddJ0_checkIndex_df160_9

def wq_k_checkIndex3n_6 : List Cond := Cond.code yJ3_checkIndex_8e157 cJ3_checkIndex_8e157 3 (some .int) :: (([] : List Cond))
set_option maxHeartbeats 8000000 in
set_option maxRecDepth 100000 in
theorem k_checkIndex3n_6 (l : Launch) (D : va_G) (cy : Nat → ClassId) (ad : Nat → Nat) (g : Nat → va_E) {n : Int32} (p_n : zi 0 5 n) : cMi l yJ3_checkIndex_8e157 wq_k_checkIndex3n_6 { frames := 0, cells := 0, slots := 0, locals := 0 } 0 0 0 0 D cy ad g [.int n, .int 6, .null] (fun r nw lu => (zi 0 5 r) ∧ (lu = [])) := by
  refine cM_of (Qc := fun A => cQi (fun r nw lu => (zi 0 5 r) ∧ (lu = [])) D 0 0 ad g A) (cc := cJ3_checkIndex_8e157) (maxL := 3) (ret := (some .int)) (by decide) rfl (Nat.le_of_ble_eq_true rfl) ?_
  intro p e s m below meth c A hC hr hlk hnm hO ls hl
  have hC : CallFix p m c cJ3_checkIndex_8e157 3 s [.int n, .int 6, .null].toArray wq_k_checkIndex3n_6 RJ3 := hC
  obtain ⟨hx, hb, hml, hown, hts⟩ := id hC
  have hl : lv_has ls 3 [(0, .int n), (1, .int 6), (2, .null)] := hl
  refine lv_iload_n hx hb ddJ3_checkIndex_8e157_0 rfl (lv_at hl 0 rfl) ?_
  refine lv_if_lt (tgt := 9) hx hb ddJ3_checkIndex_8e157_1 (by decide) (fun h_1_5 => (zx_lt (zr_lt h_1_5) p_n (zi_k (a := 0) (b := 0) (x := 0) rfl) (by decide)).elim) (fun h_1_5 => ?_)
  have q_1_6 := zr_nlt h_1_5
  refine lv_iload_n hx hb ddJ3_checkIndex_8e157_4 rfl (lv_at hl 0 rfl) ?_
  refine lv_iload_n hx hb ddJ3_checkIndex_8e157_5 rfl (lv_at hl 1 rfl) ?_
  refine lv_icmp_lt (tgt := 16) hx hb ddJ3_checkIndex_8e157_6 (by decide) (fun h_6_7 => ?_) (fun h_6_7 => (zx_le (zr_nlt h_6_7) (zi_k (a := 6) (b := 6) (x := 6) rfl) p_n (by decide)).elim)
  have q_6_8 := zr_lt h_6_7
  refine lv_iload_n hx hb ddJ3_checkIndex_8e157_16 rfl (lv_at hl 0 rfl) ?_
  exact cg_iret (nw := fun _ => 0) hC hr hlk hO.same rfl (Nat.le_of_ble_eq_true rfl) (Nat.le_of_ble_eq_true rfl) (⟨p_n, rfl⟩) ddJ3_checkIndex_8e157_17

def wq_k_checkIndex3_6 : List Cond := Cond.code yJ3_checkIndex_8e157 cJ3_checkIndex_8e157 3 (some .int) :: (([] : List Cond))
set_option maxHeartbeats 8000000 in
set_option maxRecDepth 100000 in
theorem k_checkIndex3_6 (l : Launch) (D : va_G) (cy : Nat → ClassId) (ad : Nat → Nat) (g : Nat → va_E) {n : Int32} {tx : Nat} (p_n : zi 0 5 n) : cMi l yJ3_checkIndex_8e157 wq_k_checkIndex3_6 { frames := 0, cells := 0, slots := 0, locals := 0 } 0 0 0 0 D cy ad g [.int n, .int 6, .ref tx] (fun r nw lu => (zi 0 5 r) ∧ (lu = [])) := by
  refine cM_of (Qc := fun A => cQi (fun r nw lu => (zi 0 5 r) ∧ (lu = [])) D 0 0 ad g A) (cc := cJ3_checkIndex_8e157) (maxL := 3) (ret := (some .int)) (by decide) rfl (Nat.le_of_ble_eq_true rfl) ?_
  intro p e s m below meth c A hC hr hlk hnm hO ls hl
  have hC : CallFix p m c cJ3_checkIndex_8e157 3 s [.int n, .int 6, .ref tx].toArray wq_k_checkIndex3_6 RJ3 := hC
  obtain ⟨hx, hb, hml, hown, hts⟩ := id hC
  have hl : lv_has ls 3 [(0, .int n), (1, .int 6), (2, .ref tx)] := hl
  refine lv_iload_n hx hb ddJ3_checkIndex_8e157_0 rfl (lv_at hl 0 rfl) ?_
  refine lv_if_lt (tgt := 9) hx hb ddJ3_checkIndex_8e157_1 (by decide) (fun h_1_5 => (zx_lt (zr_lt h_1_5) p_n (zi_k (a := 0) (b := 0) (x := 0) rfl) (by decide)).elim) (fun h_1_5 => ?_)
  have q_1_6 := zr_nlt h_1_5
  refine lv_iload_n hx hb ddJ3_checkIndex_8e157_4 rfl (lv_at hl 0 rfl) ?_
  refine lv_iload_n hx hb ddJ3_checkIndex_8e157_5 rfl (lv_at hl 1 rfl) ?_
  refine lv_icmp_lt (tgt := 16) hx hb ddJ3_checkIndex_8e157_6 (by decide) (fun h_6_7 => ?_) (fun h_6_7 => (zx_le (zr_nlt h_6_7) (zi_k (a := 6) (b := 6) (x := 6) rfl) p_n (by decide)).elim)
  have q_6_8 := zr_lt h_6_7
  refine lv_iload_n hx hb ddJ3_checkIndex_8e157_16 rfl (lv_at hl 0 rfl) ?_
  exact cg_iret (nw := fun _ => 0) hC hr hlk hO.same rfl (Nat.le_of_ble_eq_true rfl) (Nat.le_of_ble_eq_true rfl) (⟨p_n, rfl⟩) ddJ3_checkIndex_8e157_17

def wq_k_checkIndex0_6 : List Cond := Cond.code yJ0_checkIndex_df160 cJ0_checkIndex_df160 2 none :: (([Cond.fieldLink RJ0 1053 "jdk/internal/util/Preconditions" "SIOOBE_FORMATTER" "Ljava/util/function/BiFunction;", Cond.methodLink RJ0 1059 yJ3_checkIndex_8e157, Cond.static yJ3_checkIndex_8e157, Cond.initialized RJ3, Cond.code yJ3_checkIndex_8e157 cJ3_checkIndex_8e157 3 (some .int)] : List Cond))
set_option maxRecDepth 20000 in
theorem gr_k_checkIndex0_6_k_checkIndex3n_6 : GoodIn wq_k_checkIndex0_6 wq_k_checkIndex3n_6 := List.forall_mem_cons.mpr ⟨⟨(List.mem_of_getElem? (i := 5) rfl), good_of_word rfl⟩, (fun _ h => absurd h List.not_mem_nil)⟩
set_option maxRecDepth 20000 in
theorem gq_k_checkIndex0_6_k_checkIndex3n_6_1059 : GoodIn wq_k_checkIndex0_6 (va_wsS RJ0 1059 yJ3_checkIndex_8e157 wq_k_checkIndex3n_6) := goodIn_app (List.forall_mem_cons.mpr ⟨⟨(List.mem_of_getElem? (i := 2) rfl), good_of_word rfl⟩, List.forall_mem_cons.mpr ⟨⟨(List.mem_of_getElem? (i := 3) rfl), good_of_word rfl⟩, List.forall_mem_cons.mpr ⟨⟨(List.mem_of_getElem? (i := 4) rfl), good_of_word rfl⟩, (fun _ h => absurd h List.not_mem_nil)⟩⟩⟩) gr_k_checkIndex0_6_k_checkIndex3n_6
set_option maxRecDepth 20000 in
theorem gr_k_checkIndex0_6_k_checkIndex3_6 : GoodIn wq_k_checkIndex0_6 wq_k_checkIndex3_6 := List.forall_mem_cons.mpr ⟨⟨(List.mem_of_getElem? (i := 5) rfl), good_of_word rfl⟩, (fun _ h => absurd h List.not_mem_nil)⟩
set_option maxRecDepth 20000 in
theorem gq_k_checkIndex0_6_k_checkIndex3_6_1059 : GoodIn wq_k_checkIndex0_6 (va_wsS RJ0 1059 yJ3_checkIndex_8e157 wq_k_checkIndex3_6) := goodIn_app (List.forall_mem_cons.mpr ⟨⟨(List.mem_of_getElem? (i := 2) rfl), good_of_word rfl⟩, List.forall_mem_cons.mpr ⟨⟨(List.mem_of_getElem? (i := 3) rfl), good_of_word rfl⟩, List.forall_mem_cons.mpr ⟨⟨(List.mem_of_getElem? (i := 4) rfl), good_of_word rfl⟩, (fun _ h => absurd h List.not_mem_nil)⟩⟩⟩) gr_k_checkIndex0_6_k_checkIndex3_6
set_option maxHeartbeats 8000000 in
set_option maxRecDepth 100000 in
theorem k_checkIndex0_6 (l : Launch) (D : va_G) (cy : Nat → ClassId) (ad : Nat → Nat) (g : Nat → va_E) {n : Int32} (p_n : zi 0 5 n) : cMv l yJ0_checkIndex_df160 wq_k_checkIndex0_6 { frames := 1, cells := 0, slots := 0, locals := 22 } 0 0 0 0 D cy ad g [.int n, .int 6] (fun nw lu => lu = []) := by
  refine cM_of (Qc := fun A => cQv (fun nw lu => lu = []) D 0 0 ad g A) (cc := cJ0_checkIndex_df160) (maxL := 2) (ret := none) (by decide) rfl (Nat.le_of_ble_eq_true rfl) ?_
  intro p e s m below meth c A hC hr hlk hnm hO ls hl
  have hC : CallFix p m c cJ0_checkIndex_df160 2 s [.int n, .int 6].toArray wq_k_checkIndex0_6 RJ0 := hC
  obtain ⟨hx, hb, hml, hown, hts⟩ := id hC
  have hl : lv_has ls 2 [(0, .int n), (1, .int 6)] := hl
  refine lv_iload_n hx hb ddJ0_checkIndex_df160_0 rfl (lv_at hl 0 rfl) ?_
  refine lv_iload_n hx hb ddJ0_checkIndex_df160_1 rfl (lv_at hl 1 rfl) ?_
  refine sg_fmt hC hO (List.mem_of_getElem? (i := 1) rfl) ddJ0_checkIndex_df160_2 ?_ (fun t_2_10 => ?_)
  · refine cg_Si (As := [.int n, .int 6, .null]) (rest := []) (mc := 0) (ms := 0) (rm := { frames := 0, cells := 0, slots := 0, locals := 0 }) hC hl.1 hO [] (by decide +kernel) (k_checkIndex3n_6 l D cy _ _ (n := n) p_n) gq_k_checkIndex0_6_k_checkIndex3n_6_1059 rfl rfl rfl 3 (by decide +kernel) ⟨Nat.le_of_ble_eq_true rfl, Nat.le_of_ble_eq_true rfl⟩ rfl rfl (Nat.le_of_ble_eq_true rfl) ddJ0_checkIndex_df160_5 ⟨Nat.le_of_ble_eq_true rfl, Nat.le_of_ble_eq_true rfl⟩ (fun r_5_13 nw_5_11 l_5_12 H locs hw hO => ?_)
    obtain ⟨z_5_14, rfl⟩ := hw
    have hO : cO D cy A s.heap s 0 ad (cup [] g) _ _ := hO
    refine lv_pop hx hb ddJ0_checkIndex_df160_8 rfl ?_
    exact cg_vret (nw := fun _ => 0) hC hr hlk hO.same (Nat.le_of_ble_eq_true rfl) (Nat.le_of_ble_eq_true rfl) rfl ddJ0_checkIndex_df160_9
  · refine cg_Si (As := [.int n, .int 6, .ref t_2_10]) (rest := []) (mc := 0) (ms := 0) (rm := { frames := 0, cells := 0, slots := 0, locals := 0 }) hC hl.1 hO [] (by decide +kernel) (k_checkIndex3_6 l D cy _ _ (n := n) (tx := t_2_10) p_n) gq_k_checkIndex0_6_k_checkIndex3_6_1059 rfl rfl rfl 3 (by decide +kernel) ⟨Nat.le_of_ble_eq_true rfl, Nat.le_of_ble_eq_true rfl⟩ rfl rfl (Nat.le_of_ble_eq_true rfl) ddJ0_checkIndex_df160_5 ⟨Nat.le_of_ble_eq_true rfl, Nat.le_of_ble_eq_true rfl⟩ (fun r_5_17 nw_5_15 l_5_16 H locs hw hO => ?_)
    obtain ⟨z_5_18, rfl⟩ := hw
    have hO : cO D cy A s.heap s 0 ad (cup [] g) _ _ := hO
    refine lv_pop hx hb ddJ0_checkIndex_df160_8 rfl ?_
    exact cg_vret (nw := fun _ => 0) hC hr hlk hO.same (Nat.le_of_ble_eq_true rfl) (Nat.le_of_ble_eq_true rfl) rfl ddJ0_checkIndex_df160_9

def wq_k_isLatin1_0 : List Cond := Cond.code yJ0_isLatin1_aae02 cJ0_isLatin1_aae02 1 (some .boolean) :: (([Cond.fieldLink RJ0 38 "java/lang/String" "COMPACT_STRINGS" "Z", Cond.fieldLink RJ0 15 "java/lang/String" "coder" "B"] : List Cond))
set_option maxHeartbeats 8000000 in
set_option maxRecDepth 100000 in
theorem k_isLatin1_0 (l : Launch) (D : va_G) (cy : Nat → ClassId) (ad : Nat → Nat) (g : Nat → va_E)   : cMi l yJ0_isLatin1_aae02 wq_k_isLatin1_0 { frames := 0, cells := 0, slots := 0, locals := 0 } 0 0 0 0 D cy ad g [.ref (cy (100 + 0))] (fun r nw lu => (r = 1) ∧ (lu = [])) := by
  refine cM_of (Qc := fun A => cQi (fun r nw lu => (r = 1) ∧ (lu = [])) D 0 0 ad g A) (cc := cJ0_isLatin1_aae02) (maxL := 1) (ret := (some .boolean)) (by decide) rfl (Nat.le_of_ble_eq_true rfl) ?_
  intro p e s m below meth c A hC hr hlk hnm hO ls hl
  have hC : CallFix p m c cJ0_isLatin1_aae02 1 s [.ref (cy (100 + 0))].toArray wq_k_isLatin1_0 RJ0 := hC
  obtain ⟨hx, hb, hml, hown, hts⟩ := id hC
  have hl : lv_has ls 1 [(0, .ref (cy (100 + 0)))] := hl
  refine sg_com hC hO (List.mem_of_getElem? (i := 1) rfl) ddJ0_isLatin1_aae02_0 ?_
  refine lv_if_eq (tgt := 17) hx hb ddJ0_isLatin1_aae02_3 (by decide) (fun h => absurd h (by decide)) (fun _ => ?_)
  refine lv_aload_n hx hb ddJ0_isLatin1_aae02_6 rfl (lv_at hl 0 rfl) ?_
  refine sg_cod hC hO 0 (by decide) (List.mem_of_getElem? (i := 2) rfl) ddJ0_isLatin1_aae02_7 ?_
  refine lv_if_ne (tgt := 17) hx hb ddJ0_isLatin1_aae02_10 (by decide) (fun h => absurd h (by decide)) (fun _ => ?_)
  refine lv_iconst (v := 1) hx hb ddJ0_isLatin1_aae02_13 (by decide) ?_
  refine lv_goto (tgt := 18) hx hb ddJ0_isLatin1_aae02_14 (by decide) ?_
  exact cg_iret (nw := fun _ => 0) hC hr hlk hO.same rfl (Nat.le_of_ble_eq_true rfl) (Nat.le_of_ble_eq_true rfl) (⟨rfl, rfl⟩) ddJ0_isLatin1_aae02_18

