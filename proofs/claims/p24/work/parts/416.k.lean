theorem ddX11_sight_0 : decode cX11_sight 0 = .ok (.iload_n 1, 1) := by decide +kernel
theorem ddX11_sight_1 : decode cX11_sight 1 = .ok (.iconst 0, 1) := by decide +kernel
theorem ddX11_sight_2 : decode cX11_sight 2 = .ok (.sipush 720, 3) := by decide +kernel
theorem ddX11_sight_5 : decode cX11_sight 5 = .ok (.invokestatic 107, 3) := by decide +kernel
theorem ddX11_sight_8 : decode cX11_sight 8 = .ok (.ifCond .eq 33, 3) := by decide +kernel
theorem ddX11_sight_11 : decode cX11_sight 11 = .ok (.aload_n 0, 1) := by decide +kernel
theorem ddX11_sight_12 : decode cX11_sight 12 = .ok (.iload_n 2, 1) := by decide +kernel
theorem ddX11_sight_13 : decode cX11_sight 13 = .ok (.invokevirtual 168, 3) := by decide +kernel
theorem ddX11_sight_16 : decode cX11_sight 16 = .ok (.ifCond .eq 25, 3) := by decide +kernel
theorem ddX11_sight_19 : decode cX11_sight 19 = .ok (.iload_n 3, 1) := by decide +kernel
theorem ddX11_sight_20 : decode cX11_sight 20 = .ok (.iconst 0, 1) := by decide +kernel
theorem ddX11_sight_21 : decode cX11_sight 21 = .ok (.bipush 20, 2) := by decide +kernel
theorem ddX11_sight_23 : decode cX11_sight 23 = .ok (.invokestatic 107, 3) := by decide +kernel
theorem ddX11_sight_26 : decode cX11_sight 26 = .ok (.ifCond .eq 15, 3) := by decide +kernel
theorem ddX11_sight_29 : decode cX11_sight 29 = .ok (.aload_n 0, 1) := by decide +kernel
theorem ddX11_sight_30 : decode cX11_sight 30 = .ok (.getfield 93, 3) := by decide +kernel
theorem ddX11_sight_33 : decode cX11_sight 33 = .ok (.getfield 256, 3) := by decide +kernel
theorem ddX11_sight_36 : decode cX11_sight 36 = .ok (.bipush 30, 2) := by decide +kernel
theorem ddX11_sight_38 : decode cX11_sight 38 = .ok (.if_icmp .lt 5, 3) := by decide +kernel
theorem ddX11_sight_41 : decode cX11_sight 41 = .ok (.iconst (-1), 1) := by decide +kernel
theorem ddX11_sight_42 : decode cX11_sight 42 = .ok (.ireturn, 1) := by decide +kernel
theorem ddX11_sight_43 : decode cX11_sight 43 = .ok (.aload_n 0, 1) := by decide +kernel
theorem ddX11_sight_44 : decode cX11_sight 44 = .ok (.getfield 93, 3) := by decide +kernel
theorem ddX11_sight_47 : decode cX11_sight 47 = .ok (.iload_n 1, 1) := by decide +kernel
theorem ddX11_sight_48 : decode cX11_sight 48 = .ok (.iload_n 2, 1) := by decide +kernel
theorem ddX11_sight_49 : decode cX11_sight 49 = .ok (.iload_n 3, 1) := by decide +kernel
theorem ddX11_sight_50 : decode cX11_sight 50 = .ok (.invokevirtual 259, 3) := by decide +kernel
theorem ddX11_sight_53 : decode cX11_sight 53 = .ok (.ireturn, 1) := by decide +kernel
def wq_k_X11_sight : List Cond := Cond.code yX11_sight cX11_sight 4 (some .int) :: (([Cond.methodLink RX11 107 yX11_within, Cond.static yX11_within, Cond.initialized RX11, Cond.code yX11_within cX11_within 3 (some .boolean), Cond.methodLink RX11 168 yX11_isBird, Cond.instanceMethod yX11_isBird, Cond.selects RX11 yX11_isBird yX11_isBird, Cond.code yX11_isBird cX11_isBird 2 (some .boolean), Cond.fieldLink RX11 27 "CrowToll" "told" "LCrowToll$Road;", Cond.fieldLink RX11 247 "CrowToll$Road" "birds" "I", Cond.fieldLink RX11 93 "CrowToll" "sights" "LCrowToll$Sights;", Cond.fieldLink RX11 256 "CrowToll$Sights" "size" "I", Cond.methodLink RX11 259 yX8_tell, Cond.instanceMethod yX8_tell, Cond.selects RX8 yX8_tell yX8_tell, Cond.initialized RX8, Cond.code yX8_tell cX8_tell 4 (some .int), Cond.fieldLink RX8 9 "CrowToll$Sights" "minute" "[I", Cond.fieldLink RX8 49 "CrowToll$Sights" "size" "I", Cond.fieldLink RX8 15 "CrowToll$Sights" "bird" "[I", Cond.fieldLink RX8 18 "CrowToll$Sights" "count" "[I", Cond.fieldLink RX8 21 "CrowToll$Sights" "toldAt" "[I", Cond.fieldLink RX8 53 "CrowToll$Sights" "time" "I", Cond.fieldLink RX8 24 "CrowToll$Sights" "untoldAt" "[I"] : List Cond) ++ wsX70 ++ wsX80 ++ wsX110)
set_option maxRecDepth 20000 in
theorem gr_k_X11_sight_k_X11_within : GoodIn wq_k_X11_sight wq_k_X11_within := List.forall_mem_cons.mpr ⟨⟨(List.mem_of_getElem? (i := 4) rfl), good_of_word rfl⟩, (fun _ h => absurd h List.not_mem_nil)⟩
set_option maxRecDepth 20000 in
theorem gq_k_X11_sight_k_X11_within_107 : GoodIn wq_k_X11_sight (va_wsS RX11 107 yX11_within wq_k_X11_within) := goodIn_app (List.forall_mem_cons.mpr ⟨⟨(List.mem_of_getElem? (i := 1) rfl), good_of_word rfl⟩, List.forall_mem_cons.mpr ⟨⟨(List.mem_of_getElem? (i := 2) rfl), good_of_word rfl⟩, List.forall_mem_cons.mpr ⟨⟨(List.mem_of_getElem? (i := 3) rfl), good_of_word rfl⟩, (fun _ h => absurd h List.not_mem_nil)⟩⟩⟩) gr_k_X11_sight_k_X11_within
set_option maxRecDepth 20000 in
theorem gr_k_X11_sight_k_X11_isBird : GoodIn wq_k_X11_sight wq_k_X11_isBird := List.forall_mem_cons.mpr ⟨⟨(List.mem_of_getElem? (i := 8) rfl), good_of_word rfl⟩, List.forall_mem_append.mpr ⟨List.forall_mem_append.mpr ⟨List.forall_mem_cons.mpr ⟨⟨(List.mem_of_getElem? (i := 9) rfl), good_of_word rfl⟩, List.forall_mem_cons.mpr ⟨⟨(List.mem_of_getElem? (i := 10) rfl), good_of_word rfl⟩, List.forall_mem_cons.mpr ⟨⟨(List.mem_of_getElem? (i := 1) rfl), good_of_word rfl⟩, List.forall_mem_cons.mpr ⟨⟨(List.mem_of_getElem? (i := 2) rfl), good_of_word rfl⟩, List.forall_mem_cons.mpr ⟨⟨(List.mem_of_getElem? (i := 3) rfl), good_of_word rfl⟩, List.forall_mem_cons.mpr ⟨⟨(List.mem_of_getElem? (i := 4) rfl), good_of_word rfl⟩, (fun _ h => absurd h List.not_mem_nil)⟩⟩⟩⟩⟩⟩, fun w h => ⟨(fun w h => List.mem_cons_of_mem _ (List.mem_append_left _ (List.mem_append_left _ (List.mem_append_right _ h)))) w h, good_of_word (List.all_eq_true.mp gw_X7 w h)⟩⟩, fun w h => ⟨(fun w h => List.mem_cons_of_mem _ (List.mem_append_right _ h)) w h, good_of_word (List.all_eq_true.mp gw_X11 w h)⟩⟩⟩
set_option maxRecDepth 20000 in
theorem gq_k_X11_sight_k_X11_isBird_168 : GoodIn wq_k_X11_sight (wsV RX11 168 RX11 yX11_isBird wq_k_X11_isBird) := goodIn_app (List.forall_mem_cons.mpr ⟨⟨(List.mem_of_getElem? (i := 5) rfl), good_of_word rfl⟩, List.forall_mem_cons.mpr ⟨⟨(List.mem_of_getElem? (i := 6) rfl), good_of_word rfl⟩, List.forall_mem_cons.mpr ⟨⟨(List.mem_of_getElem? (i := 7) rfl), good_of_word rfl⟩, List.forall_mem_cons.mpr ⟨⟨(List.mem_of_getElem? (i := 3) rfl), good_of_word rfl⟩, (fun _ h => absurd h List.not_mem_nil)⟩⟩⟩⟩) gr_k_X11_sight_k_X11_isBird
set_option maxRecDepth 20000 in
theorem gr_k_X11_sight_k_X8_tell : GoodIn wq_k_X11_sight wq_k_X8_tell := List.forall_mem_cons.mpr ⟨⟨(List.mem_of_getElem? (i := 17) rfl), good_of_word rfl⟩, List.forall_mem_append.mpr ⟨List.forall_mem_cons.mpr ⟨⟨(List.mem_of_getElem? (i := 18) rfl), good_of_word rfl⟩, List.forall_mem_cons.mpr ⟨⟨(List.mem_of_getElem? (i := 19) rfl), good_of_word rfl⟩, List.forall_mem_cons.mpr ⟨⟨(List.mem_of_getElem? (i := 20) rfl), good_of_word rfl⟩, List.forall_mem_cons.mpr ⟨⟨(List.mem_of_getElem? (i := 21) rfl), good_of_word rfl⟩, List.forall_mem_cons.mpr ⟨⟨(List.mem_of_getElem? (i := 22) rfl), good_of_word rfl⟩, List.forall_mem_cons.mpr ⟨⟨(List.mem_of_getElem? (i := 23) rfl), good_of_word rfl⟩, List.forall_mem_cons.mpr ⟨⟨(List.mem_of_getElem? (i := 24) rfl), good_of_word rfl⟩, (fun _ h => absurd h List.not_mem_nil)⟩⟩⟩⟩⟩⟩⟩, fun w h => ⟨(fun w h => List.mem_cons_of_mem _ (List.mem_append_left _ (List.mem_append_right _ h))) w h, good_of_word (List.all_eq_true.mp gw_X8 w h)⟩⟩⟩
set_option maxRecDepth 20000 in
theorem gq_k_X11_sight_k_X8_tell_259 : GoodIn wq_k_X11_sight (wsV RX11 259 RX8 yX8_tell wq_k_X8_tell) := goodIn_app (List.forall_mem_cons.mpr ⟨⟨(List.mem_of_getElem? (i := 13) rfl), good_of_word rfl⟩, List.forall_mem_cons.mpr ⟨⟨(List.mem_of_getElem? (i := 14) rfl), good_of_word rfl⟩, List.forall_mem_cons.mpr ⟨⟨(List.mem_of_getElem? (i := 15) rfl), good_of_word rfl⟩, List.forall_mem_cons.mpr ⟨⟨(List.mem_of_getElem? (i := 16) rfl), good_of_word rfl⟩, (fun _ h => absurd h List.not_mem_nil)⟩⟩⟩⟩) gr_k_X11_sight_k_X8_tell
set_option maxHeartbeats 8000000 in
set_option maxRecDepth 100000 in
theorem k_X11_sight (l : Launch) (D : va_G) (cy : Nat → ClassId) (ad : Nat → Nat) (g : Nat → va_E) {u0_0 : Value} {u0_1 : Value} {u0_2 : Value} {u0_4 : Value} {u0_5 : Value} {u0_6 : Value} {u0_7 : Value} {u0_8 : Value} {u0_9 : Value} {u0_10 : Value} {u0_12 : Value} {u0_13 : Value} {u1_0 : Value} {u1_1 : Value} {u1_2 : Value} {u1_3 : Value} {u1_4 : Value} {x1_5 : Int32} {u1_6 : Value} {u1_7 : Value} {u1_8 : Value} {u1_9 : Value} {u1_10 : Value} {u1_11 : Value} {u1_12 : Value} {u1_13 : Value} {u1_14 : Value} {u1_15 : Value} {u1_16 : Value} {u1_17 : Value} {u2_0 : Value} {u2_1 : Value} {x2_7 : Int32} {x2_8 : Int32} {u2_9 : Value} {u2_10 : Value} {u2_11 : Value} {u2_12 : Value} {u2_13 : Value} {u2_14 : Value} {u2_15 : Value} {c3 : Nat → Int32} {c4 : Nat → Int32} {c5 : Nat → Int32} {c6 : Nat → Int32} {c7 : Nat → Int32} {minute : Int32} {bird : Int32} {count : Int32} (o0 : g 0 = .inr (11, [u0_0, u0_1, u0_2, .ref (ad 1), u0_4, u0_5, u0_6, u0_7, u0_8, u0_9, u0_10, .ref (ad 2), u0_12, u0_13])) (o1 : g 1 = .inr (7, [u1_0, u1_1, u1_2, u1_3, u1_4, .int x1_5, u1_6, u1_7, u1_8, u1_9, u1_10, u1_11, u1_12, u1_13, u1_14, u1_15, u1_16, u1_17])) (o2 : g 2 = .inr (8, [u2_0, u2_1, .ref (ad 3), .ref (ad 4), .ref (ad 5), .ref (ad 6), .ref (ad 7), .int x2_7, .int x2_8, u2_9, u2_10, u2_11, u2_12, u2_13, u2_14, u2_15])) (a3 : g 3 = .inl (cy 0, 30, .inl c3)) (a4 : g 4 = .inl (cy 0, 30, .inl c4)) (a5 : g 5 = .inl (cy 0, 30, .inl c5)) (a6 : g 6 = .inl (cy 0, 30, .inl c6)) (a7 : g 7 = .inl (cy 0, 30, .inl c7)) (b1_5 : zi 0 5 x1_5) (b2_7 : zi 0 30 x2_7) (b2_8 : zi 0 100000 x2_8) (ha4 : za 0 4 c4) : cMi l yX11_sight wq_k_X11_sight { frames := 2, cells := 0, slots := 0, locals := 43 } 8 0 0 0 D cy ad g [.ref (ad 0), .int minute, .int bird, .int count] (fun r nw lu => ∃ (y2_7 : Int32) (d3 : Nat → Int32) (d4 : Nat → Int32) (d5 : Nat → Int32) (d6 : Nat → Int32) (d7 : Nat → Int32), (zi 0 30 y2_7) ∧ (za 0 4 d4) ∧ (zi (-1) 29 r) ∧ (lu = [(2, .inr (8, [u2_0, u2_1, .ref (ad 3), .ref (ad 4), .ref (ad 5), .ref (ad 6), .ref (ad 7), .int y2_7, .int x2_8, u2_9, u2_10, u2_11, u2_12, u2_13, u2_14, u2_15])), (3, .inl (cy 0, 30, .inl d3)), (4, .inl (cy 0, 30, .inl d4)), (5, .inl (cy 0, 30, .inl d5)), (6, .inl (cy 0, 30, .inl d6)), (7, .inl (cy 0, 30, .inl d7))])) := by
  refine cM_of (Qc := fun A => cQi (fun r nw lu => ∃ (y2_7 : Int32) (d3 : Nat → Int32) (d4 : Nat → Int32) (d5 : Nat → Int32) (d6 : Nat → Int32) (d7 : Nat → Int32), (zi 0 30 y2_7) ∧ (za 0 4 d4) ∧ (zi (-1) 29 r) ∧ (lu = [(2, .inr (8, [u2_0, u2_1, .ref (ad 3), .ref (ad 4), .ref (ad 5), .ref (ad 6), .ref (ad 7), .int y2_7, .int x2_8, u2_9, u2_10, u2_11, u2_12, u2_13, u2_14, u2_15])), (3, .inl (cy 0, 30, .inl d3)), (4, .inl (cy 0, 30, .inl d4)), (5, .inl (cy 0, 30, .inl d5)), (6, .inl (cy 0, 30, .inl d6)), (7, .inl (cy 0, 30, .inl d7))])) D 8 0 ad g A) (cc := cX11_sight) (maxL := 4) (ret := (some .int)) (by decide) rfl (Nat.le_of_ble_eq_true rfl) ?_
  intro p e s m below meth c A hC hr hlk hnm hO ls hl
  have hC : CallFix p m c cX11_sight 4 s [.ref (ad 0), .int minute, .int bird, .int count].toArray wq_k_X11_sight RX11 := hC
  obtain ⟨hx, hb, hml, hown, hts⟩ := id hC
  have hl : lv_has ls 4 [(0, .ref (ad 0)), (1, .int minute), (2, .int bird), (3, .int count)] := hl
  have i_X11 : ∀ w ∈ wsX110, w ∈ wq_k_X11_sight := fun w h => List.mem_cons_of_mem _ (List.mem_append_right _ h)
  have i_X7 : ∀ w ∈ wsX70, w ∈ wq_k_X11_sight := fun w h => List.mem_cons_of_mem _ (List.mem_append_left _ (List.mem_append_left _ (List.mem_append_right _ h)))
  have i_X8 : ∀ w ∈ wsX80, w ∈ wq_k_X11_sight := fun w h => List.mem_cons_of_mem _ (List.mem_append_left _ (List.mem_append_right _ h))
  have hO := hO.notes [(2, .inr (8, [u2_0, u2_1, .ref (ad 3), .ref (ad 4), .ref (ad 5), .ref (ad 6), .ref (ad 7), .int x2_7, .int x2_8, u2_9, u2_10, u2_11, u2_12, u2_13, u2_14, u2_15])), (3, .inl (cy 0, 30, .inl c3)), (4, .inl (cy 0, 30, .inl c4)), (5, .inl (cy 0, 30, .inl c5)), (6, .inl (cy 0, 30, .inl c6)), (7, .inl (cy 0, 30, .inl c7))] (List.forall_mem_cons.mpr ⟨o2, List.forall_mem_cons.mpr ⟨a3, List.forall_mem_cons.mpr ⟨a4, List.forall_mem_cons.mpr ⟨a5, List.forall_mem_cons.mpr ⟨a6, List.forall_mem_cons.mpr ⟨a7, (fun _ h => absurd h List.not_mem_nil)⟩⟩⟩⟩⟩⟩)
  refine lv_iload_n hx hb ddX11_sight_0 rfl (lv_at hl 1 rfl) ?_
  refine lv_iconst (v := 0) hx hb ddX11_sight_1 (by decide) ?_
  refine lv_sipush (v := 720) hx hb ddX11_sight_2 (by decide) ?_
  refine cg_Si (As := [.int minute, .int 0, .int 720]) (rest := []) (mc := 0) (ms := 0) (rm := { frames := 0, cells := 0, slots := 0, locals := 0 }) hC hl.1 hO [] (by decide +kernel) (k_X11_within l D cy _ _ (number := minute) (least := 0) (most := 720) ) gq_k_X11_sight_k_X11_within_107 rfl rfl rfl 3 (by decide +kernel) ⟨Nat.le_of_ble_eq_true rfl, Nat.le_of_ble_eq_true rfl⟩ rfl rfl (Nat.le_of_ble_eq_true rfl) ddX11_sight_5 ⟨Nat.le_of_ble_eq_true rfl, Nat.le_of_ble_eq_true rfl⟩ (fun r_5_85 nw_5_83 l_5_84 H locs hw hO => ?_)
  rcases hw with hw | hw
  · obtain ⟨q_5_86, q_5_87, rfl, rfl⟩ := hw
    have hO : cO D cy A s.heap s 8 ad (cup [(2, .inr (8, [u2_0, u2_1, .ref (ad 3), .ref (ad 4), .ref (ad 5), .ref (ad 6), .ref (ad 7), .int x2_7, .int x2_8, u2_9, u2_10, u2_11, u2_12, u2_13, u2_14, u2_15])), (3, .inl (cy 0, 30, .inl c3)), (4, .inl (cy 0, 30, .inl c4)), (5, .inl (cy 0, 30, .inl c5)), (6, .inl (cy 0, 30, .inl c6)), (7, .inl (cy 0, 30, .inl c7))] g) _ _ := hO
    have q_5_88 := q_5_86
    have z_5_89 : zi 0 2147483647 minute := zd_le q_5_88 (zi_k (a := 0) (b := 0) (x := 0) rfl) (zi_all minute) (by decide)
    have q_5_90 := q_5_87
    have z_5_91 : zi 0 720 minute := zu_le q_5_90 z_5_89 (zi_k (a := 720) (b := 720) (x := 720) rfl) (by decide)
    refine lv_if_eq (tgt := 41) hx hb ddX11_sight_8 (by decide) (fun h => absurd h (by decide)) (fun _ => ?_)
    refine lv_aload_n hx hb ddX11_sight_11 rfl (lv_at hl 0 rfl) ?_
    refine lv_iload_n hx hb ddX11_sight_12 rfl (lv_at hl 2 rfl) ?_
    refine cg_Vi (As := [.int bird]) (rest := []) (mc := 0) (ms := 0) (rm := { frames := 1, cells := 0, slots := 0, locals := 22 }) hC hl.1 hO [0, 1] (by decide +kernel) (k_X11_isBird l D cy _ _ (u0_0 := u0_0) (u0_1 := u0_1) (u0_2 := u0_2) (u1_0 := u1_0) (u1_1 := u1_1) (u1_2 := u1_2) (u1_3 := u1_3) (u1_4 := u1_4) (x1_5 := x1_5) (u1_6 := u1_6) (u1_7 := u1_7) (u1_8 := u1_8) (u1_9 := u1_9) (u1_10 := u1_10) (u1_11 := u1_11) (u1_12 := u1_12) (u1_13 := u1_13) (u1_14 := u1_14) (u1_15 := u1_15) (u1_16 := u1_16) (u1_17 := u1_17) (u0_4 := u0_4) (u0_5 := u0_5) (u0_6 := u0_6) (u0_7 := u0_7) (u0_8 := u0_8) (u0_9 := u0_9) (u0_10 := u0_10) (u0_11 := .ref (ad 2)) (u0_12 := u0_12) (u0_13 := u0_13) (n := bird) o0 o1 b1_5) gq_k_X11_sight_k_X11_isBird_168 rfl rfl rfl 1 (by decide +kernel) ⟨Nat.le_of_ble_eq_true rfl, Nat.le_of_ble_eq_true rfl⟩ rfl (by decide) o0 rfl rfl (Nat.le_of_ble_eq_true rfl) ddX11_sight_13 ⟨Nat.le_of_ble_eq_true rfl, Nat.le_of_ble_eq_true rfl⟩ (fun r_13_94 nw_13_92 l_13_93 H locs hw hO => ?_)
    rcases hw with hw | hw
    · obtain ⟨z_13_95, q_13_96, rfl, rfl⟩ := hw
      have hO : cO D cy A s.heap s 8 ad (cup [(2, .inr (8, [u2_0, u2_1, .ref (ad 3), .ref (ad 4), .ref (ad 5), .ref (ad 6), .ref (ad 7), .int x2_7, .int x2_8, u2_9, u2_10, u2_11, u2_12, u2_13, u2_14, u2_15])), (3, .inl (cy 0, 30, .inl c3)), (4, .inl (cy 0, 30, .inl c4)), (5, .inl (cy 0, 30, .inl c5)), (6, .inl (cy 0, 30, .inl c6)), (7, .inl (cy 0, 30, .inl c7))] g) _ _ := hO
      have q_13_97 := q_13_96
      refine lv_if_eq (tgt := 41) hx hb ddX11_sight_16 (by decide) (fun h => absurd h (by decide)) (fun _ => ?_)
      refine lv_iload_n hx hb ddX11_sight_19 rfl (lv_at hl 3 rfl) ?_
      refine lv_iconst (v := 0) hx hb ddX11_sight_20 (by decide) ?_
      refine lv_bipush (v := 20) hx hb ddX11_sight_21 (by decide) ?_
      refine cg_Si (As := [.int count, .int 0, .int 20]) (rest := []) (mc := 0) (ms := 0) (rm := { frames := 0, cells := 0, slots := 0, locals := 0 }) hC hl.1 hO [] (by decide +kernel) (k_X11_within l D cy _ _ (number := count) (least := 0) (most := 20) ) gq_k_X11_sight_k_X11_within_107 rfl rfl rfl 3 (by decide +kernel) ⟨Nat.le_of_ble_eq_true rfl, Nat.le_of_ble_eq_true rfl⟩ rfl rfl (Nat.le_of_ble_eq_true rfl) ddX11_sight_23 ⟨Nat.le_of_ble_eq_true rfl, Nat.le_of_ble_eq_true rfl⟩ (fun r_23_100 nw_23_98 l_23_99 H locs hw hO => ?_)
      rcases hw with hw | hw
      · obtain ⟨q_23_101, q_23_102, rfl, rfl⟩ := hw
        have hO : cO D cy A s.heap s 8 ad (cup [(2, .inr (8, [u2_0, u2_1, .ref (ad 3), .ref (ad 4), .ref (ad 5), .ref (ad 6), .ref (ad 7), .int x2_7, .int x2_8, u2_9, u2_10, u2_11, u2_12, u2_13, u2_14, u2_15])), (3, .inl (cy 0, 30, .inl c3)), (4, .inl (cy 0, 30, .inl c4)), (5, .inl (cy 0, 30, .inl c5)), (6, .inl (cy 0, 30, .inl c6)), (7, .inl (cy 0, 30, .inl c7))] g) _ _ := hO
        have q_23_103 := q_23_101
        have z_23_104 : zi 0 2147483647 count := zd_le q_23_103 (zi_k (a := 0) (b := 0) (x := 0) rfl) (zi_all count) (by decide)
        have q_23_105 := q_23_102
        have z_23_106 : zi 0 20 count := zu_le q_23_105 z_23_104 (zi_k (a := 20) (b := 20) (x := 20) rfl) (by decide)
        refine lv_if_eq (tgt := 41) hx hb ddX11_sight_26 (by decide) (fun h => absurd h (by decide)) (fun _ => ?_)
        refine lv_aload_n hx hb ddX11_sight_29 rfl (lv_at hl 0 rfl) ?_
        refine cg_get hC hO 0 (by decide) o0 rfl i_X11 11 (by decide) (List.mem_of_getElem? (i := 11) rfl) rfl ddX11_sight_30 ?_
        refine cg_get hC hO 2 (by decide) rfl rfl i_X8 7 (by decide) (List.mem_of_getElem? (i := 12) rfl) rfl ddX11_sight_33 ?_
        refine lv_bipush (v := 30) hx hb ddX11_sight_36 (by decide) ?_
        refine lv_icmp_lt (tgt := 43) hx hb ddX11_sight_38 (by decide) (fun h_38_107 => ?_) (fun h_38_107 => ?_)
        · have q_38_108 := zr_lt h_38_107
          have z_38_109 : zi 0 29 x2_7 := zu_lt q_38_108 b2_7 (zi_k (a := 30) (b := 30) (x := 30) rfl) (by decide)
          refine lv_aload_n hx hb ddX11_sight_43 rfl (lv_at hl 0 rfl) ?_
          refine cg_get hC hO 0 (by decide) o0 rfl i_X11 11 (by decide) (List.mem_of_getElem? (i := 11) rfl) rfl ddX11_sight_44 ?_
          refine lv_iload_n hx hb ddX11_sight_47 rfl (lv_at hl 1 rfl) ?_
          refine lv_iload_n hx hb ddX11_sight_48 rfl (lv_at hl 2 rfl) ?_
          refine lv_iload_n hx hb ddX11_sight_49 rfl (lv_at hl 3 rfl) ?_
          refine cg_Vi (As := [.int minute, .int bird, .int count]) (rest := []) (mc := 0) (ms := 0) (rm := { frames := 0, cells := 0, slots := 0, locals := 0 }) hC hl.1 hO [2, 3, 4, 5, 6, 7] (by decide +kernel) (k_X8_tell l D cy _ _ (u0_0 := u2_0) (u0_1 := u2_1) (c1 := c3) (c2 := c4) (c3 := c5) (c4 := c6) (c5 := c7) (x0_7 := x2_7) (x0_8 := x2_8) (u0_9 := u2_9) (u0_10 := u2_10) (u0_11 := u2_11) (u0_12 := u2_12) (u0_13 := u2_13) (u0_14 := u2_14) (u0_15 := u2_15) (itsMinute := minute) (itsBird := bird) (itsCount := count) rfl rfl rfl rfl rfl rfl z_38_109 b2_8 ha4 z_13_95) gq_k_X11_sight_k_X8_tell_259 rfl rfl rfl 3 (by decide +kernel) ⟨Nat.le_of_ble_eq_true rfl, Nat.le_of_ble_eq_true rfl⟩ rfl (by decide) rfl rfl rfl (Nat.le_of_ble_eq_true rfl) ddX11_sight_50 ⟨Nat.le_of_ble_eq_true rfl, Nat.le_of_ble_eq_true rfl⟩ (fun r_50_112 nw_50_110 l_50_111 H locs hw hO => ?_)
          obtain ⟨y0_50_113, d1_50_114, d2_50_115, d3_50_116, d4_50_117, d5_50_118, z_50_119, z_50_120, z_50_121, rfl⟩ := hw
          have hO := hO.mrg (lk := [(2, .inr (8, [u2_0, u2_1, .ref (ad 3), .ref (ad 4), .ref (ad 5), .ref (ad 6), .ref (ad 7), .int y0_50_113, .int x2_8, u2_9, u2_10, u2_11, u2_12, u2_13, u2_14, u2_15])), (3, .inl (cy 0, 30, .inl d1_50_114)), (4, .inl (cy 0, 30, .inl d2_50_115)), (5, .inl (cy 0, 30, .inl d3_50_116)), (6, .inl (cy 0, 30, .inl d4_50_117)), (7, .inl (cy 0, 30, .inl d5_50_118))]) (lm := [(2, .inr (8, [u2_0, u2_1, .ref (ad 3), .ref (ad 4), .ref (ad 5), .ref (ad 6), .ref (ad 7), .int y0_50_113, .int x2_8, u2_9, u2_10, u2_11, u2_12, u2_13, u2_14, u2_15])), (3, .inl (cy 0, 30, .inl d1_50_114)), (4, .inl (cy 0, 30, .inl d2_50_115)), (5, .inl (cy 0, 30, .inl d3_50_116)), (6, .inl (cy 0, 30, .inl d4_50_117)), (7, .inl (cy 0, 30, .inl d5_50_118))]) rfl rfl rfl
          exact cg_iret (nw := fun _ => 0) hC hr hlk hO.same rfl (Nat.le_of_ble_eq_true rfl) (Nat.le_of_ble_eq_true rfl) (⟨y0_50_113, d1_50_114, d2_50_115, d3_50_116, d4_50_117, d5_50_118, (zi_w (c := 0) (d := 30) z_50_119 (by decide)), z_50_120, (zi_w (c := (-1)) (d := 29) z_50_121 (by decide)), rfl⟩) ddX11_sight_53
        · have q_38_122 := zr_nlt h_38_107
          have z_38_123 : zi 30 30 x2_7 := zd_le q_38_122 (zi_k (a := 30) (b := 30) (x := 30) rfl) b2_7 (by decide)
          refine lv_iconst (v := (-1)) hx hb ddX11_sight_41 (by decide) ?_
          exact cg_iret (nw := fun _ => 0) hC hr hlk hO.same rfl (Nat.le_of_ble_eq_true rfl) (Nat.le_of_ble_eq_true rfl) (⟨x2_7, c3, c4, c5, c6, c7, (zi_w (c := 0) (d := 30) z_38_123 (by decide)), ha4, (zi_k (a := (-1)) (b := 29) (x := (-1)) rfl), rfl⟩) ddX11_sight_42
      · obtain ⟨rfl, rfl⟩ := hw
        have hO : cO D cy A s.heap s 8 ad (cup [(2, .inr (8, [u2_0, u2_1, .ref (ad 3), .ref (ad 4), .ref (ad 5), .ref (ad 6), .ref (ad 7), .int x2_7, .int x2_8, u2_9, u2_10, u2_11, u2_12, u2_13, u2_14, u2_15])), (3, .inl (cy 0, 30, .inl c3)), (4, .inl (cy 0, 30, .inl c4)), (5, .inl (cy 0, 30, .inl c5)), (6, .inl (cy 0, 30, .inl c6)), (7, .inl (cy 0, 30, .inl c7))] g) _ _ := hO
        refine lv_if_eq (tgt := 41) hx hb ddX11_sight_26 (by decide) (fun _ => ?_) (fun h => absurd h (by decide))
        refine lv_iconst (v := (-1)) hx hb ddX11_sight_41 (by decide) ?_
        exact cg_iret (nw := fun _ => 0) hC hr hlk hO.same rfl (Nat.le_of_ble_eq_true rfl) (Nat.le_of_ble_eq_true rfl) (⟨x2_7, c3, c4, c5, c6, c7, b2_7, ha4, (zi_k (a := (-1)) (b := 29) (x := (-1)) rfl), rfl⟩) ddX11_sight_42
    · obtain ⟨rfl, rfl⟩ := hw
      have hO : cO D cy A s.heap s 8 ad (cup [(2, .inr (8, [u2_0, u2_1, .ref (ad 3), .ref (ad 4), .ref (ad 5), .ref (ad 6), .ref (ad 7), .int x2_7, .int x2_8, u2_9, u2_10, u2_11, u2_12, u2_13, u2_14, u2_15])), (3, .inl (cy 0, 30, .inl c3)), (4, .inl (cy 0, 30, .inl c4)), (5, .inl (cy 0, 30, .inl c5)), (6, .inl (cy 0, 30, .inl c6)), (7, .inl (cy 0, 30, .inl c7))] g) _ _ := hO
      refine lv_if_eq (tgt := 41) hx hb ddX11_sight_16 (by decide) (fun _ => ?_) (fun h => absurd h (by decide))
      refine lv_iconst (v := (-1)) hx hb ddX11_sight_41 (by decide) ?_
      exact cg_iret (nw := fun _ => 0) hC hr hlk hO.same rfl (Nat.le_of_ble_eq_true rfl) (Nat.le_of_ble_eq_true rfl) (⟨x2_7, c3, c4, c5, c6, c7, b2_7, ha4, (zi_k (a := (-1)) (b := 29) (x := (-1)) rfl), rfl⟩) ddX11_sight_42
  · obtain ⟨rfl, rfl⟩ := hw
    have hO : cO D cy A s.heap s 8 ad (cup [(2, .inr (8, [u2_0, u2_1, .ref (ad 3), .ref (ad 4), .ref (ad 5), .ref (ad 6), .ref (ad 7), .int x2_7, .int x2_8, u2_9, u2_10, u2_11, u2_12, u2_13, u2_14, u2_15])), (3, .inl (cy 0, 30, .inl c3)), (4, .inl (cy 0, 30, .inl c4)), (5, .inl (cy 0, 30, .inl c5)), (6, .inl (cy 0, 30, .inl c6)), (7, .inl (cy 0, 30, .inl c7))] g) _ _ := hO
    refine lv_if_eq (tgt := 41) hx hb ddX11_sight_8 (by decide) (fun _ => ?_) (fun h => absurd h (by decide))
    refine lv_iconst (v := (-1)) hx hb ddX11_sight_41 (by decide) ?_
    exact cg_iret (nw := fun _ => 0) hC hr hlk hO.same rfl (Nat.le_of_ble_eq_true rfl) (Nat.le_of_ble_eq_true rfl) (⟨x2_7, c3, c4, c5, c6, c7, b2_7, ha4, (zi_k (a := (-1)) (b := 29) (x := (-1)) rfl), rfl⟩) ddX11_sight_42

theorem ddX11_untell_0 : decode cX11_untell 0 = .ok (.aload_n 0, 1) := by decide +kernel
theorem ddX11_untell_1 : decode cX11_untell 1 = .ok (.getfield 93, 3) := by decide +kernel
theorem ddX11_untell_4 : decode cX11_untell 4 = .ok (.iload_n 1, 1) := by decide +kernel
theorem ddX11_untell_5 : decode cX11_untell 5 = .ok (.invokevirtual 263, 3) := by decide +kernel
theorem ddX11_untell_8 : decode cX11_untell 8 = .ok (.ireturn, 1) := by decide +kernel
def wq_k_X11_untell : List Cond := Cond.code yX11_untell cX11_untell 2 (some .boolean) :: (([Cond.fieldLink RX11 93 "CrowToll" "sights" "LCrowToll$Sights;", Cond.methodLink RX11 263 yX8_takeBack, Cond.instanceMethod yX8_takeBack, Cond.selects RX8 yX8_takeBack yX8_takeBack, Cond.initialized RX8, Cond.code yX8_takeBack cX8_takeBack 2 (some .boolean), Cond.fieldLink RX8 49 "CrowToll$Sights" "size" "I", Cond.code yX11_within cX11_within 3 (some .boolean), Cond.static yX11_within, Cond.initialized RX11, Cond.fieldLink RX8 24 "CrowToll$Sights" "untoldAt" "[I", Cond.fieldLink RX8 53 "CrowToll$Sights" "time" "I"] : List Cond) ++ wsX80 ++ wsX110)
set_option maxRecDepth 20000 in
theorem gr_k_X11_untell_k_X8_takeBack : GoodIn wq_k_X11_untell wq_k_X8_takeBack := List.forall_mem_cons.mpr ⟨⟨(List.mem_of_getElem? (i := 6) rfl), good_of_word rfl⟩, List.forall_mem_append.mpr ⟨List.forall_mem_cons.mpr ⟨⟨(List.mem_of_getElem? (i := 7) rfl), good_of_word rfl⟩, List.forall_mem_cons.mpr ⟨⟨(List.mem_of_getElem? (i := 8) rfl), good_of_word rfl⟩, List.forall_mem_cons.mpr ⟨⟨(List.mem_of_getElem? (i := 9) rfl), good_of_word rfl⟩, List.forall_mem_cons.mpr ⟨⟨(List.mem_of_getElem? (i := 10) rfl), good_of_word rfl⟩, List.forall_mem_cons.mpr ⟨⟨(List.mem_of_getElem? (i := 11) rfl), good_of_word rfl⟩, List.forall_mem_cons.mpr ⟨⟨(List.mem_of_getElem? (i := 12) rfl), good_of_word rfl⟩, (fun _ h => absurd h List.not_mem_nil)⟩⟩⟩⟩⟩⟩, fun w h => ⟨(fun w h => List.mem_cons_of_mem _ (List.mem_append_left _ (List.mem_append_right _ h))) w h, good_of_word (List.all_eq_true.mp gw_X8 w h)⟩⟩⟩
set_option maxRecDepth 20000 in
theorem gq_k_X11_untell_k_X8_takeBack_263 : GoodIn wq_k_X11_untell (wsV RX11 263 RX8 yX8_takeBack wq_k_X8_takeBack) := goodIn_app (List.forall_mem_cons.mpr ⟨⟨(List.mem_of_getElem? (i := 2) rfl), good_of_word rfl⟩, List.forall_mem_cons.mpr ⟨⟨(List.mem_of_getElem? (i := 3) rfl), good_of_word rfl⟩, List.forall_mem_cons.mpr ⟨⟨(List.mem_of_getElem? (i := 4) rfl), good_of_word rfl⟩, List.forall_mem_cons.mpr ⟨⟨(List.mem_of_getElem? (i := 5) rfl), good_of_word rfl⟩, (fun _ h => absurd h List.not_mem_nil)⟩⟩⟩⟩) gr_k_X11_untell_k_X8_takeBack
set_option maxHeartbeats 8000000 in
set_option maxRecDepth 100000 in
theorem k_X11_untell (l : Launch) (D : va_G) (cy : Nat → ClassId) (ad : Nat → Nat) (g : Nat → va_E) {u0_0 : Value} {u0_1 : Value} {u0_2 : Value} {u0_3 : Value} {u0_4 : Value} {u0_5 : Value} {u0_6 : Value} {u0_7 : Value} {u0_8 : Value} {u0_9 : Value} {u0_10 : Value} {u0_12 : Value} {u0_13 : Value} {u1_0 : Value} {u1_1 : Value} {u1_2 : Value} {u1_3 : Value} {u1_4 : Value} {u1_5 : Value} {x1_7 : Int32} {x1_8 : Int32} {u1_9 : Value} {u1_10 : Value} {u1_11 : Value} {u1_12 : Value} {u1_13 : Value} {u1_14 : Value} {u1_15 : Value} {c2 : Nat → Int32} {sight : Int32} (o0 : g 0 = .inr (11, [u0_0, u0_1, u0_2, u0_3, u0_4, u0_5, u0_6, u0_7, u0_8, u0_9, u0_10, .ref (ad 1), u0_12, u0_13])) (o1 : g 1 = .inr (8, [u1_0, u1_1, u1_2, u1_3, u1_4, u1_5, .ref (ad 2), .int x1_7, .int x1_8, u1_9, u1_10, u1_11, u1_12, u1_13, u1_14, u1_15])) (a2 : g 2 = .inl (cy 0, 30, .inl c2)) (b1_7 : zi 0 30 x1_7) (b1_8 : zi 0 100000 x1_8) : cMi l yX11_untell wq_k_X11_untell { frames := 2, cells := 0, slots := 0, locals := 43 } 3 0 0 0 D cy ad g [.ref (ad 0), .int sight] (fun r nw lu => ∃ (d2 : Nat → Int32), (zi 0 1 r) ∧ (lu = [(2, .inl (cy 0, 30, .inl d2))])) := by
  refine cM_of (Qc := fun A => cQi (fun r nw lu => ∃ (d2 : Nat → Int32), (zi 0 1 r) ∧ (lu = [(2, .inl (cy 0, 30, .inl d2))])) D 3 0 ad g A) (cc := cX11_untell) (maxL := 2) (ret := (some .boolean)) (by decide) rfl (Nat.le_of_ble_eq_true rfl) ?_
  intro p e s m below meth c A hC hr hlk hnm hO ls hl
  have hC : CallFix p m c cX11_untell 2 s [.ref (ad 0), .int sight].toArray wq_k_X11_untell RX11 := hC
  obtain ⟨hx, hb, hml, hown, hts⟩ := id hC
  have hl : lv_has ls 2 [(0, .ref (ad 0)), (1, .int sight)] := hl
  have i_X11 : ∀ w ∈ wsX110, w ∈ wq_k_X11_untell := fun w h => List.mem_cons_of_mem _ (List.mem_append_right _ h)
  have i_X8 : ∀ w ∈ wsX80, w ∈ wq_k_X11_untell := fun w h => List.mem_cons_of_mem _ (List.mem_append_left _ (List.mem_append_right _ h))
  have hO := hO.notes [(2, .inl (cy 0, 30, .inl c2))] (List.forall_mem_cons.mpr ⟨a2, (fun _ h => absurd h List.not_mem_nil)⟩)
  refine lv_aload_n hx hb ddX11_untell_0 rfl (lv_at hl 0 rfl) ?_
  refine cg_get hC hO 0 (by decide) o0 rfl i_X11 11 (by decide) (List.mem_of_getElem? (i := 1) rfl) rfl ddX11_untell_1 ?_
  refine lv_iload_n hx hb ddX11_untell_4 rfl (lv_at hl 1 rfl) ?_
  refine cg_Vi (As := [.int sight]) (rest := []) (mc := 0) (ms := 0) (rm := { frames := 1, cells := 0, slots := 0, locals := 22 }) hC hl.1 hO [1, 2] (by decide +kernel) (k_X8_takeBack l D cy _ _ (u0_0 := u1_0) (u0_1 := u1_1) (u0_2 := u1_2) (u0_3 := u1_3) (u0_4 := u1_4) (u0_5 := u1_5) (c1 := c2) (x0_7 := x1_7) (x0_8 := x1_8) (u0_9 := u1_9) (u0_10 := u1_10) (u0_11 := u1_11) (u0_12 := u1_12) (u0_13 := u1_13) (u0_14 := u1_14) (u0_15 := u1_15) (sight := sight) o1 rfl b1_7 b1_8) gq_k_X11_untell_k_X8_takeBack_263 rfl rfl rfl 1 (by decide +kernel) ⟨Nat.le_of_ble_eq_true rfl, Nat.le_of_ble_eq_true rfl⟩ rfl (by decide) o1 rfl rfl (Nat.le_of_ble_eq_true rfl) ddX11_untell_5 ⟨Nat.le_of_ble_eq_true rfl, Nat.le_of_ble_eq_true rfl⟩ (fun r_5_13 nw_5_11 l_5_12 H locs hw hO => ?_)
  obtain ⟨d1_5_14, z_5_15, rfl⟩ := hw
  have hO := hO.mrg (lk := [(2, .inl (cy 0, 30, .inl d1_5_14))]) (lm := [(2, .inl (cy 0, 30, .inl d1_5_14))]) rfl rfl rfl
  exact cg_iret (nw := fun _ => 0) hC hr hlk hO.same (zi_narZ z_5_15) (Nat.le_of_ble_eq_true rfl) (Nat.le_of_ble_eq_true rfl) (⟨d1_5_14, z_5_15, rfl⟩) ddX11_untell_8

theorem ddX11_later_0 : decode cX11_later 0 = .ok (.iload_n 1, 1) := by decide +kernel
theorem ddX11_later_1 : decode cX11_later 1 = .ok (.iconst 0, 1) := by decide +kernel
theorem ddX11_later_2 : decode cX11_later 2 = .ok (.sipush 1000, 3) := by decide +kernel
theorem ddX11_later_5 : decode cX11_later 5 = .ok (.invokestatic 107, 3) := by decide +kernel
theorem ddX11_later_8 : decode cX11_later 8 = .ok (.ifCond .eq 18, 3) := by decide +kernel
theorem ddX11_later_11 : decode cX11_later 11 = .ok (.aload_n 0, 1) := by decide +kernel
theorem ddX11_later_12 : decode cX11_later 12 = .ok (.getfield 93, 3) := by decide +kernel
theorem ddX11_later_15 : decode cX11_later 15 = .ok (.getfield 266, 3) := by decide +kernel
theorem ddX11_later_18 : decode cX11_later 18 = .ok (.iload_n 1, 1) := by decide +kernel
theorem ddX11_later_19 : decode cX11_later 19 = .ok (.iadd, 1) := by decide +kernel
theorem ddX11_later_20 : decode cX11_later 20 = .ok (.ldc_w 269, 3) := by decide +kernel
theorem ddX11_later_23 : decode cX11_later 23 = .ok (.if_icmp .le 5, 3) := by decide +kernel
theorem ddX11_later_26 : decode cX11_later 26 = .ok (.iconst (-1), 1) := by decide +kernel
theorem ddX11_later_27 : decode cX11_later 27 = .ok (.ireturn, 1) := by decide +kernel
theorem ddX11_later_28 : decode cX11_later 28 = .ok (.aload_n 0, 1) := by decide +kernel
theorem ddX11_later_29 : decode cX11_later 29 = .ok (.getfield 93, 3) := by decide +kernel
theorem ddX11_later_32 : decode cX11_later 32 = .ok (.dup, 1) := by decide +kernel
theorem ddX11_later_33 : decode cX11_later 33 = .ok (.getfield 266, 3) := by decide +kernel
theorem ddX11_later_36 : decode cX11_later 36 = .ok (.iload_n 1, 1) := by decide +kernel
theorem ddX11_later_37 : decode cX11_later 37 = .ok (.iadd, 1) := by decide +kernel
theorem ddX11_later_38 : decode cX11_later 38 = .ok (.putfield 266, 3) := by decide +kernel
theorem ddX11_later_41 : decode cX11_later 41 = .ok (.aload_n 0, 1) := by decide +kernel
theorem ddX11_later_42 : decode cX11_later 42 = .ok (.getfield 93, 3) := by decide +kernel
theorem ddX11_later_45 : decode cX11_later 45 = .ok (.getfield 266, 3) := by decide +kernel
theorem ddX11_later_48 : decode cX11_later 48 = .ok (.ireturn, 1) := by decide +kernel
def wq_k_X11_later : List Cond := Cond.code yX11_later cX11_later 2 (some .int) :: (([Cond.methodLink RX11 107 yX11_within, Cond.static yX11_within, Cond.initialized RX11, Cond.code yX11_within cX11_within 3 (some .boolean), Cond.fieldLink RX11 93 "CrowToll" "sights" "LCrowToll$Sights;", Cond.fieldLink RX11 266 "CrowToll$Sights" "time" "I", Cond.constant RX11 269 (100000)] : List Cond) ++ wsX80 ++ wsX110)
set_option maxRecDepth 20000 in
theorem gr_k_X11_later_k_X11_within : GoodIn wq_k_X11_later wq_k_X11_within := List.forall_mem_cons.mpr ⟨⟨(List.mem_of_getElem? (i := 4) rfl), good_of_word rfl⟩, (fun _ h => absurd h List.not_mem_nil)⟩
set_option maxRecDepth 20000 in
theorem gq_k_X11_later_k_X11_within_107 : GoodIn wq_k_X11_later (va_wsS RX11 107 yX11_within wq_k_X11_within) := goodIn_app (List.forall_mem_cons.mpr ⟨⟨(List.mem_of_getElem? (i := 1) rfl), good_of_word rfl⟩, List.forall_mem_cons.mpr ⟨⟨(List.mem_of_getElem? (i := 2) rfl), good_of_word rfl⟩, List.forall_mem_cons.mpr ⟨⟨(List.mem_of_getElem? (i := 3) rfl), good_of_word rfl⟩, (fun _ h => absurd h List.not_mem_nil)⟩⟩⟩) gr_k_X11_later_k_X11_within
set_option maxHeartbeats 8000000 in
set_option maxRecDepth 100000 in
theorem k_X11_later (l : Launch) (D : va_G) (cy : Nat → ClassId) (ad : Nat → Nat) (g : Nat → va_E) {u0_0 : Value} {u0_1 : Value} {u0_2 : Value} {u0_3 : Value} {u0_4 : Value} {u0_5 : Value} {u0_6 : Value} {u0_7 : Value} {u0_8 : Value} {u0_9 : Value} {u0_10 : Value} {u0_12 : Value} {u0_13 : Value} {u1_0 : Value} {u1_1 : Value} {u1_2 : Value} {u1_3 : Value} {u1_4 : Value} {u1_5 : Value} {u1_6 : Value} {u1_7 : Value} {x1_8 : Int32} {u1_9 : Value} {u1_10 : Value} {u1_11 : Value} {u1_12 : Value} {u1_13 : Value} {u1_14 : Value} {u1_15 : Value} {byx : Int32} (o0 : g 0 = .inr (11, [u0_0, u0_1, u0_2, u0_3, u0_4, u0_5, u0_6, u0_7, u0_8, u0_9, u0_10, .ref (ad 1), u0_12, u0_13])) (o1 : g 1 = .inr (8, [u1_0, u1_1, u1_2, u1_3, u1_4, u1_5, u1_6, u1_7, .int x1_8, u1_9, u1_10, u1_11, u1_12, u1_13, u1_14, u1_15])) (b1_8 : zi 0 100000 x1_8) : cMi l yX11_later wq_k_X11_later { frames := 1, cells := 0, slots := 0, locals := 22 } 2 0 0 0 D cy ad g [.ref (ad 0), .int byx] (fun r nw lu => ∃ (y1_8 : Int32), (zi 0 100000 y1_8) ∧ (zi (-1) 100000 r) ∧ (lu = [(1, .inr (8, [u1_0, u1_1, u1_2, u1_3, u1_4, u1_5, u1_6, u1_7, .int y1_8, u1_9, u1_10, u1_11, u1_12, u1_13, u1_14, u1_15]))])) := by
  refine cM_of (Qc := fun A => cQi (fun r nw lu => ∃ (y1_8 : Int32), (zi 0 100000 y1_8) ∧ (zi (-1) 100000 r) ∧ (lu = [(1, .inr (8, [u1_0, u1_1, u1_2, u1_3, u1_4, u1_5, u1_6, u1_7, .int y1_8, u1_9, u1_10, u1_11, u1_12, u1_13, u1_14, u1_15]))])) D 2 0 ad g A) (cc := cX11_later) (maxL := 2) (ret := (some .int)) (by decide) rfl (Nat.le_of_ble_eq_true rfl) ?_
  intro p e s m below meth c A hC hr hlk hnm hO ls hl
  have hC : CallFix p m c cX11_later 2 s [.ref (ad 0), .int byx].toArray wq_k_X11_later RX11 := hC
  obtain ⟨hx, hb, hml, hown, hts⟩ := id hC
  have hl : lv_has ls 2 [(0, .ref (ad 0)), (1, .int byx)] := hl
  have i_X11 : ∀ w ∈ wsX110, w ∈ wq_k_X11_later := fun w h => List.mem_cons_of_mem _ (List.mem_append_right _ h)
  have i_X8 : ∀ w ∈ wsX80, w ∈ wq_k_X11_later := fun w h => List.mem_cons_of_mem _ (List.mem_append_left _ (List.mem_append_right _ h))
  have hO := hO.notes [(1, .inr (8, [u1_0, u1_1, u1_2, u1_3, u1_4, u1_5, u1_6, u1_7, .int x1_8, u1_9, u1_10, u1_11, u1_12, u1_13, u1_14, u1_15]))] (List.forall_mem_cons.mpr ⟨o1, (fun _ h => absurd h List.not_mem_nil)⟩)
  refine lv_iload_n hx hb ddX11_later_0 rfl (lv_at hl 1 rfl) ?_
  refine lv_iconst (v := 0) hx hb ddX11_later_1 (by decide) ?_
  refine lv_sipush (v := 1000) hx hb ddX11_later_2 (by decide) ?_
  refine cg_Si (As := [.int byx, .int 0, .int 1000]) (rest := []) (mc := 0) (ms := 0) (rm := { frames := 0, cells := 0, slots := 0, locals := 0 }) hC hl.1 hO [] (by decide +kernel) (k_X11_within l D cy _ _ (number := byx) (least := 0) (most := 1000) ) gq_k_X11_later_k_X11_within_107 rfl rfl rfl 3 (by decide +kernel) ⟨Nat.le_of_ble_eq_true rfl, Nat.le_of_ble_eq_true rfl⟩ rfl rfl (Nat.le_of_ble_eq_true rfl) ddX11_later_5 ⟨Nat.le_of_ble_eq_true rfl, Nat.le_of_ble_eq_true rfl⟩ (fun r_5_45 nw_5_43 l_5_44 H locs hw hO => ?_)
  rcases hw with hw | hw
  · obtain ⟨q_5_46, q_5_47, rfl, rfl⟩ := hw
    have hO : cO D cy A s.heap s 2 ad (cup [(1, .inr (8, [u1_0, u1_1, u1_2, u1_3, u1_4, u1_5, u1_6, u1_7, .int x1_8, u1_9, u1_10, u1_11, u1_12, u1_13, u1_14, u1_15]))] g) _ _ := hO
    have q_5_48 := q_5_46
    have z_5_49 : zi 0 2147483647 byx := zd_le q_5_48 (zi_k (a := 0) (b := 0) (x := 0) rfl) (zi_all byx) (by decide)
    have q_5_50 := q_5_47
    have z_5_51 : zi 0 1000 byx := zu_le q_5_50 z_5_49 (zi_k (a := 1000) (b := 1000) (x := 1000) rfl) (by decide)
    refine lv_if_eq (tgt := 26) hx hb ddX11_later_8 (by decide) (fun h => absurd h (by decide)) (fun _ => ?_)
    refine lv_aload_n hx hb ddX11_later_11 rfl (lv_at hl 0 rfl) ?_
    refine cg_get hC hO 0 (by decide) o0 rfl i_X11 11 (by decide) (List.mem_of_getElem? (i := 5) rfl) rfl ddX11_later_12 ?_
    refine cg_get hC hO 1 (by decide) rfl rfl i_X8 8 (by decide) (List.mem_of_getElem? (i := 6) rfl) rfl ddX11_later_15 ?_
    refine lv_iload_n hx hb ddX11_later_18 rfl (lv_at hl 1 rfl) ?_
    refine lv_iadd hx hb ddX11_later_19 ?_
    refine zg_top2 (P := fun v => zi 0 101000 v) (E := fun v => v.toInt = (x1_8 : Int32).toInt + (byx : Int32).toInt) (zi_add b1_8 z_5_51 (by decide)) (fun v_19_52 z_19_53 q_19_54 => ?_)
    refine lv_ldcw (v := 100000) hx hb hown (hts _ (List.mem_of_getElem? (i := 7) rfl)) ddX11_later_20 ?_
    refine lv_icmp_le (tgt := 28) hx hb ddX11_later_23 (by decide) (fun h_23_55 => ?_) (fun h_23_55 => ?_)
    · have q_23_56 := zr_le h_23_55
      have z_23_57 : zi 0 100000 v_19_52 := zu_le q_23_56 z_19_53 (zi_k (a := 100000) (b := 100000) (x := 100000) rfl) (by decide)
      refine lv_aload_n hx hb ddX11_later_28 rfl (lv_at hl 0 rfl) ?_
      refine cg_get hC hO 0 (by decide) o0 rfl i_X11 11 (by decide) (List.mem_of_getElem? (i := 5) rfl) rfl ddX11_later_29 ?_
      refine lv_dup hx hb ddX11_later_32 rfl ?_
      refine cg_get hC hO 1 (by decide) rfl rfl i_X8 8 (by decide) (List.mem_of_getElem? (i := 6) rfl) rfl ddX11_later_33 ?_
      refine lv_iload_n hx hb ddX11_later_36 rfl (lv_at hl 1 rfl) ?_
      refine lv_iadd hx hb ddX11_later_37 ?_
      refine zg_top2 (P := fun v => zi 0 101000 v) (E := fun v => v.toInt = (x1_8 : Int32).toInt + (byx : Int32).toInt) (zi_add b1_8 z_5_51 (by decide)) (fun v_37_58 z_37_59 q_37_60 => ?_)
      have z_37_61 : zi 0 100000 v_37_58 := ze_eq (q_37_60.trans q_19_54.symm) z_37_59 z_23_57
      refine cg_put hC hO 1 (by decide) rfl rfl i_X8 tyX8_ok nmX8 8 (by decide) (List.mem_of_getElem? (i := 6) rfl) rfl rfl rfl (Nat.le_of_ble_eq_true rfl) ddX11_later_38 (fun H locs hO => ?_)
      have hO : cO D cy A s.heap s 2 ad (cup [(1, .inr (8, [u1_0, u1_1, u1_2, u1_3, u1_4, u1_5, u1_6, u1_7, .int v_37_58, u1_9, u1_10, u1_11, u1_12, u1_13, u1_14, u1_15]))] g) _ _ := hO
      refine lv_aload_n hx hb ddX11_later_41 rfl (lv_at hl 0 rfl) ?_
      refine cg_get hC hO 0 (by decide) o0 rfl i_X11 11 (by decide) (List.mem_of_getElem? (i := 5) rfl) rfl ddX11_later_42 ?_
      refine cg_get hC hO 1 (by decide) rfl rfl i_X8 8 (by decide) (List.mem_of_getElem? (i := 6) rfl) rfl ddX11_later_45 ?_
      exact cg_iret (nw := fun _ => 0) hC hr hlk hO.same rfl (Nat.le_of_ble_eq_true rfl) (Nat.le_of_ble_eq_true rfl) (⟨v_37_58, z_37_61, (zi_w (c := (-1)) (d := 100000) z_37_61 (by decide)), rfl⟩) ddX11_later_48
    · have q_23_62 := zr_nle h_23_55
      have z_23_63 : zi 100001 101000 v_19_52 := zd_lt q_23_62 (zi_k (a := 100000) (b := 100000) (x := 100000) rfl) z_19_53 (by decide)
      refine lv_iconst (v := (-1)) hx hb ddX11_later_26 (by decide) ?_
      exact cg_iret (nw := fun _ => 0) hC hr hlk hO.same rfl (Nat.le_of_ble_eq_true rfl) (Nat.le_of_ble_eq_true rfl) (⟨x1_8, b1_8, (zi_k (a := (-1)) (b := 100000) (x := (-1)) rfl), rfl⟩) ddX11_later_27
  · obtain ⟨rfl, rfl⟩ := hw
    have hO : cO D cy A s.heap s 2 ad (cup [(1, .inr (8, [u1_0, u1_1, u1_2, u1_3, u1_4, u1_5, u1_6, u1_7, .int x1_8, u1_9, u1_10, u1_11, u1_12, u1_13, u1_14, u1_15]))] g) _ _ := hO
    refine lv_if_eq (tgt := 26) hx hb ddX11_later_8 (by decide) (fun _ => ?_) (fun h => absurd h (by decide))
    refine lv_iconst (v := (-1)) hx hb ddX11_later_26 (by decide) ?_
    exact cg_iret (nw := fun _ => 0) hC hr hlk hO.same rfl (Nat.le_of_ble_eq_true rfl) (Nat.le_of_ble_eq_true rfl) (⟨x1_8, b1_8, (zi_k (a := (-1)) (b := 100000) (x := (-1)) rfl), rfl⟩) ddX11_later_27

theorem ddX8_goOn_0 : decode cX8_goOn 0 = .ok (.aload_n 0, 1) := by decide +kernel
theorem ddX8_goOn_1 : decode cX8_goOn 1 = .ok (.iload_n 1, 1) := by decide +kernel
theorem ddX8_goOn_2 : decode cX8_goOn 2 = .ok (.invokevirtual 103, 3) := by decide +kernel
theorem ddX8_goOn_5 : decode cX8_goOn 5 = .ok (.ifCond .ne 4, 3) := by decide +kernel
theorem ddX8_goOn_8 : decode cX8_goOn 8 = .ok (.return_, 1) := by decide +kernel
theorem ddX8_goOn_9 : decode cX8_goOn 9 = .ok (.iload_n 1, 1) := by decide +kernel
theorem ddX8_goOn_10 : decode cX8_goOn 10 = .ok (.aload_n 0, 1) := by decide +kernel
theorem ddX8_goOn_11 : decode cX8_goOn 11 = .ok (.getfield 38, 3) := by decide +kernel
theorem ddX8_goOn_14 : decode cX8_goOn 14 = .ok (.getfield 60, 3) := by decide +kernel
theorem ddX8_goOn_17 : decode cX8_goOn 17 = .ok (.if_icmp .lt 34, 3) := by decide +kernel
theorem ddX8_goOn_20 : decode cX8_goOn 20 = .ok (.aload_n 0, 1) := by decide +kernel
theorem ddX8_goOn_21 : decode cX8_goOn 21 = .ok (.dup, 1) := by decide +kernel
theorem ddX8_goOn_22 : decode cX8_goOn 22 = .ok (.getfield 84, 3) := by decide +kernel
theorem ddX8_goOn_25 : decode cX8_goOn 25 = .ok (.iconst 1, 1) := by decide +kernel
theorem ddX8_goOn_26 : decode cX8_goOn 26 = .ok (.iadd, 1) := by decide +kernel
theorem ddX8_goOn_27 : decode cX8_goOn 27 = .ok (.putfield 84, 3) := by decide +kernel
theorem ddX8_goOn_30 : decode cX8_goOn 30 = .ok (.aload_n 0, 1) := by decide +kernel
theorem ddX8_goOn_31 : decode cX8_goOn 31 = .ok (.dup, 1) := by decide +kernel
theorem ddX8_goOn_32 : decode cX8_goOn 32 = .ok (.getfield 87, 3) := by decide +kernel
theorem ddX8_goOn_35 : decode cX8_goOn 35 = .ok (.iload_n 2, 1) := by decide +kernel
theorem ddX8_goOn_36 : decode cX8_goOn 36 = .ok (.iand, 1) := by decide +kernel
theorem ddX8_goOn_37 : decode cX8_goOn 37 = .ok (.putfield 87, 3) := by decide +kernel
theorem ddX8_goOn_40 : decode cX8_goOn 40 = .ok (.aload_n 0, 1) := by decide +kernel
theorem ddX8_goOn_41 : decode cX8_goOn 41 = .ok (.dup, 1) := by decide +kernel
theorem ddX8_goOn_42 : decode cX8_goOn 42 = .ok (.getfield 90, 3) := by decide +kernel
theorem ddX8_goOn_45 : decode cX8_goOn 45 = .ok (.iload_n 2, 1) := by decide +kernel
theorem ddX8_goOn_46 : decode cX8_goOn 46 = .ok (.ior, 1) := by decide +kernel
theorem ddX8_goOn_47 : decode cX8_goOn 47 = .ok (.putfield 90, 3) := by decide +kernel
theorem ddX8_goOn_50 : decode cX8_goOn 50 = .ok (.return_, 1) := by decide +kernel
def wq_k_X8_goOn_12 : List Cond := Cond.code yX8_goOn cX8_goOn 4 none :: (([Cond.methodLink RX8 103 yX8_asSeen, Cond.instanceMethod yX8_asSeen, Cond.selects RX8 yX8_asSeen yX8_asSeen, Cond.initialized RX8, Cond.code yX8_asSeen cX8_asSeen 3 (some .boolean), Cond.fieldLink RX8 49 "CrowToll$Sights" "size" "I", Cond.fieldLink RX8 35 "CrowToll$Sights" "due" "[I", Cond.fieldLink RX8 45 "CrowToll$Sights" "watch" "LCrowToll$Watch;", Cond.fieldLink RX8 125 "CrowToll$Watch" "count" "[I", Cond.fieldLink RX8 15 "CrowToll$Sights" "bird" "[I", Cond.fieldLink RX8 18 "CrowToll$Sights" "count" "[I", Cond.fieldLink RX8 38 "CrowToll$Sights" "road" "LCrowToll$Road;", Cond.fieldLink RX8 60 "CrowToll$Road" "carts" "I", Cond.fieldLink RX8 84 "CrowToll$Sights" "sets" "I", Cond.fieldLink RX8 87 "CrowToll$Sights" "inAll" "I", Cond.fieldLink RX8 90 "CrowToll$Sights" "inSome" "I"] : List Cond) ++ wsX70 ++ wsX80 ++ wsX100)
set_option maxRecDepth 20000 in
theorem gr_k_X8_goOn_12_k_X8_asSeen : GoodIn wq_k_X8_goOn_12 wq_k_X8_asSeen := List.forall_mem_cons.mpr ⟨⟨(List.mem_of_getElem? (i := 5) rfl), good_of_word rfl⟩, List.forall_mem_append.mpr ⟨List.forall_mem_append.mpr ⟨List.forall_mem_cons.mpr ⟨⟨(List.mem_of_getElem? (i := 6) rfl), good_of_word rfl⟩, List.forall_mem_cons.mpr ⟨⟨(List.mem_of_getElem? (i := 7) rfl), good_of_word rfl⟩, List.forall_mem_cons.mpr ⟨⟨(List.mem_of_getElem? (i := 8) rfl), good_of_word rfl⟩, List.forall_mem_cons.mpr ⟨⟨(List.mem_of_getElem? (i := 9) rfl), good_of_word rfl⟩, List.forall_mem_cons.mpr ⟨⟨(List.mem_of_getElem? (i := 10) rfl), good_of_word rfl⟩, List.forall_mem_cons.mpr ⟨⟨(List.mem_of_getElem? (i := 11) rfl), good_of_word rfl⟩, (fun _ h => absurd h List.not_mem_nil)⟩⟩⟩⟩⟩⟩, fun w h => ⟨(fun w h => List.mem_cons_of_mem _ (List.mem_append_left _ (List.mem_append_right _ h))) w h, good_of_word (List.all_eq_true.mp gw_X8 w h)⟩⟩, fun w h => ⟨(fun w h => List.mem_cons_of_mem _ (List.mem_append_right _ h)) w h, good_of_word (List.all_eq_true.mp gw_X10 w h)⟩⟩⟩
set_option maxRecDepth 20000 in
theorem gq_k_X8_goOn_12_k_X8_asSeen_103 : GoodIn wq_k_X8_goOn_12 (wsV RX8 103 RX8 yX8_asSeen wq_k_X8_asSeen) := goodIn_app (List.forall_mem_cons.mpr ⟨⟨(List.mem_of_getElem? (i := 1) rfl), good_of_word rfl⟩, List.forall_mem_cons.mpr ⟨⟨(List.mem_of_getElem? (i := 2) rfl), good_of_word rfl⟩, List.forall_mem_cons.mpr ⟨⟨(List.mem_of_getElem? (i := 3) rfl), good_of_word rfl⟩, List.forall_mem_cons.mpr ⟨⟨(List.mem_of_getElem? (i := 4) rfl), good_of_word rfl⟩, (fun _ h => absurd h List.not_mem_nil)⟩⟩⟩⟩) gr_k_X8_goOn_12_k_X8_asSeen
set_option maxHeartbeats 8000000 in
set_option maxRecDepth 100000 in
theorem k_X8_goOn_12 (l : Launch) (D : va_G) (cy : Nat → ClassId) (ad : Nat → Nat) (g : Nat → va_E) {u0_2 : Value} {u0_5 : Value} {u0_6 : Value} {x0_7 : Int32} {u0_8 : Value} {u0_9 : Value} {u0_10 : Value} {u0_11 : Value} {x0_13 : Int32} {x0_14 : Int32} {x0_15 : Int32} {u1_0 : Value} {u1_1 : Value} {u1_2 : Value} {u1_3 : Value} {u1_5 : Value} {u1_6 : Value} {u1_7 : Value} {c2 : Nat → Int32} {c3 : Nat → Int32} {c4 : Nat → Int32} {c5 : Nat → Int32} {u6_0 : Value} {u6_1 : Value} {u6_2 : Value} {u6_3 : Value} {u6_4 : Value} {u6_5 : Value} {u6_6 : Value} {u6_7 : Value} {u6_8 : Value} {u6_9 : Value} {u6_10 : Value} {u6_11 : Value} {u6_12 : Value} {u6_13 : Value} {u6_14 : Value} {u6_15 : Value} {x6_16 : Int32} {u6_17 : Value} {set : Int32} (o0 : g 0 = .inr (8, [.ref (ad 6), .ref (ad 1), u0_2, .ref (ad 3), .ref (ad 4), u0_5, u0_6, .int x0_7, u0_8, u0_9, u0_10, u0_11, .ref (ad 5), .int x0_13, .int x0_14, .int x0_15])) (o1 : g 1 = .inr (10, [u1_0, u1_1, u1_2, u1_3, .ref (ad 2), u1_5, u1_6, u1_7])) (a2 : g 2 = .inl (cy 0, 5, .inl c2)) (a3 : g 3 = .inl (cy 0, 30, .inl c3)) (a4 : g 4 = .inl (cy 0, 30, .inl c4)) (a5 : g 5 = .inl (cy 0, 30, .inl c5)) (o6 : g 6 = .inr (7, [u6_0, u6_1, u6_2, u6_3, u6_4, u6_5, u6_6, u6_7, u6_8, u6_9, u6_10, u6_11, u6_12, u6_13, u6_14, u6_15, .int x6_16, u6_17])) (b0_7 : zi 0 30 x0_7) (ha3 : za 0 4 c3) (b6_16 : zi 0 12 x6_16) : cMv l yX8_goOn wq_k_X8_goOn_12 { frames := 1, cells := 0, slots := 0, locals := 22 } 7 0 0 0 D cy ad g [.ref (ad 0), .int 12, .int set] (fun nw lu => ∃ (y0_13 : Int32) (y0_14 : Int32) (y0_15 : Int32), lu = [(0, .inr (8, [.ref (ad 6), .ref (ad 1), u0_2, .ref (ad 3), .ref (ad 4), u0_5, u0_6, .int x0_7, u0_8, u0_9, u0_10, u0_11, .ref (ad 5), .int y0_13, .int y0_14, .int y0_15]))]) := by
  refine cM_of (Qc := fun A => cQv (fun nw lu => ∃ (y0_13 : Int32) (y0_14 : Int32) (y0_15 : Int32), lu = [(0, .inr (8, [.ref (ad 6), .ref (ad 1), u0_2, .ref (ad 3), .ref (ad 4), u0_5, u0_6, .int x0_7, u0_8, u0_9, u0_10, u0_11, .ref (ad 5), .int y0_13, .int y0_14, .int y0_15]))]) D 7 0 ad g A) (cc := cX8_goOn) (maxL := 4) (ret := none) (by decide) rfl (Nat.le_of_ble_eq_true rfl) ?_
  intro p e s m below meth c A hC hr hlk hnm hO ls hl
  have hC : CallFix p m c cX8_goOn 4 s [.ref (ad 0), .int 12, .int set].toArray wq_k_X8_goOn_12 RX8 := hC
  obtain ⟨hx, hb, hml, hown, hts⟩ := id hC
  have hl : lv_has ls 4 [(0, .ref (ad 0)), (1, .int 12), (2, .int set)] := hl
  have i_X10 : ∀ w ∈ wsX100, w ∈ wq_k_X8_goOn_12 := fun w h => List.mem_cons_of_mem _ (List.mem_append_right _ h)
  have i_X7 : ∀ w ∈ wsX70, w ∈ wq_k_X8_goOn_12 := fun w h => List.mem_cons_of_mem _ (List.mem_append_left _ (List.mem_append_left _ (List.mem_append_right _ h)))
  have i_X8 : ∀ w ∈ wsX80, w ∈ wq_k_X8_goOn_12 := fun w h => List.mem_cons_of_mem _ (List.mem_append_left _ (List.mem_append_right _ h))
  have hO := hO.notes [(0, .inr (8, [.ref (ad 6), .ref (ad 1), u0_2, .ref (ad 3), .ref (ad 4), u0_5, u0_6, .int x0_7, u0_8, u0_9, u0_10, u0_11, .ref (ad 5), .int x0_13, .int x0_14, .int x0_15]))] (List.forall_mem_cons.mpr ⟨o0, (fun _ h => absurd h List.not_mem_nil)⟩)
  refine lv_aload_n hx hb ddX8_goOn_0 rfl (lv_at hl 0 rfl) ?_
  refine lv_iload_n hx hb ddX8_goOn_1 rfl (lv_at hl 1 rfl) ?_
  refine cg_Vi (As := [.int 12]) (rest := []) (mc := 0) (ms := 0) (rm := { frames := 0, cells := 0, slots := 0, locals := 0 }) hC hl.1 hO [0, 5, 1, 3, 2, 4] (by decide +kernel) (k_X8_asSeen l D cy _ _ (u0_0 := .ref (ad 6)) (u2_0 := u1_0) (u2_1 := u1_1) (u2_2 := u1_2) (u2_3 := u1_3) (c4 := c2) (u2_5 := u1_5) (u2_6 := u1_6) (u2_7 := u1_7) (u0_2 := u0_2) (c3 := c3) (c5 := c4) (u0_5 := u0_5) (u0_6 := u0_6) (x0_7 := x0_7) (u0_8 := u0_8) (u0_9 := u0_9) (u0_10 := u0_10) (u0_11 := u0_11) (c1 := c5) (u0_13 := .int x0_13) (u0_14 := .int x0_14) (u0_15 := .int x0_15) (n := 12) rfl a5 o1 a3 a2 a4 b0_7 ha3) gq_k_X8_goOn_12_k_X8_asSeen_103 rfl rfl rfl 1 (by decide +kernel) ⟨Nat.le_of_ble_eq_true rfl, Nat.le_of_ble_eq_true rfl⟩ rfl (by decide) rfl rfl rfl (Nat.le_of_ble_eq_true rfl) ddX8_goOn_2 ⟨Nat.le_of_ble_eq_true rfl, Nat.le_of_ble_eq_true rfl⟩ (fun r_2_31 nw_2_29 l_2_30 H locs hw hO => ?_)
  obtain ⟨z_2_32, rfl⟩ := hw
  have hO : cO D cy A s.heap s 7 ad (cup [(0, .inr (8, [.ref (ad 6), .ref (ad 1), u0_2, .ref (ad 3), .ref (ad 4), u0_5, u0_6, .int x0_7, u0_8, u0_9, u0_10, u0_11, .ref (ad 5), .int x0_13, .int x0_14, .int x0_15]))] g) _ _ := hO
  refine lv_if_ne (tgt := 9) hx hb ddX8_goOn_5 (by decide) (fun h_5_33 => ?_) (fun h_5_33 => ?_)
  · have q_5_34 := zr_ne h_5_33
    have z_5_35 : zi 1 1 r_2_31 := zn_lo q_5_34 z_2_32 (zi_k (a := 0) (b := 0) (x := 0) rfl) (by decide)
    refine lv_iload_n hx hb ddX8_goOn_9 rfl (lv_at hl 1 rfl) ?_
    refine lv_aload_n hx hb ddX8_goOn_10 rfl (lv_at hl 0 rfl) ?_
    refine cg_get hC hO 0 (by decide) rfl rfl i_X8 0 (by decide) (List.mem_of_getElem? (i := 12) rfl) rfl ddX8_goOn_11 ?_
    refine cg_get hC hO 6 (by decide) o6 rfl i_X7 16 (by decide) (List.mem_of_getElem? (i := 13) rfl) rfl ddX8_goOn_14 ?_
    refine lv_icmp_lt (tgt := 51) hx hb ddX8_goOn_17 (by decide) (fun h_17_36 => (zx_lt (zr_lt h_17_36) (zi_k (a := 12) (b := 12) (x := 12) rfl) b6_16 (by decide)).elim) (fun h_17_36 => ?_)
    have q_17_37 := zr_nlt h_17_36
    refine lv_aload_n hx hb ddX8_goOn_20 rfl (lv_at hl 0 rfl) ?_
    refine lv_dup hx hb ddX8_goOn_21 rfl ?_
    refine cg_get hC hO 0 (by decide) rfl rfl i_X8 13 (by decide) (List.mem_of_getElem? (i := 14) rfl) rfl ddX8_goOn_22 ?_
    refine lv_iconst (v := 1) hx hb ddX8_goOn_25 (by decide) ?_
    refine lv_iadd hx hb ddX8_goOn_26 ?_
    refine lv_topi (fun v_26_38 _ => ?_)
    refine cg_put hC hO 0 (by decide) rfl rfl i_X8 tyX8_ok nmX8 13 (by decide) (List.mem_of_getElem? (i := 14) rfl) rfl rfl rfl (Nat.le_of_ble_eq_true rfl) ddX8_goOn_27 (fun H locs hO => ?_)
    have hO : cO D cy A s.heap s 7 ad (cup [(0, .inr (8, [.ref (ad 6), .ref (ad 1), u0_2, .ref (ad 3), .ref (ad 4), u0_5, u0_6, .int x0_7, u0_8, u0_9, u0_10, u0_11, .ref (ad 5), .int v_26_38, .int x0_14, .int x0_15]))] g) _ _ := hO
    refine lv_aload_n hx hb ddX8_goOn_30 rfl (lv_at hl 0 rfl) ?_
    refine lv_dup hx hb ddX8_goOn_31 rfl ?_
    refine cg_get hC hO 0 (by decide) rfl rfl i_X8 14 (by decide) (List.mem_of_getElem? (i := 15) rfl) rfl ddX8_goOn_32 ?_
    refine lv_iload_n hx hb ddX8_goOn_35 rfl (lv_at hl 2 rfl) ?_
    refine lv_iand hx hb ddX8_goOn_36 ?_
    refine lv_topi (fun v_36_39 _ => ?_)
    refine cg_put hC hO 0 (by decide) rfl rfl i_X8 tyX8_ok nmX8 14 (by decide) (List.mem_of_getElem? (i := 15) rfl) rfl rfl rfl (Nat.le_of_ble_eq_true rfl) ddX8_goOn_37 (fun H locs hO => ?_)
    have hO : cO D cy A s.heap s 7 ad (cup [(0, .inr (8, [.ref (ad 6), .ref (ad 1), u0_2, .ref (ad 3), .ref (ad 4), u0_5, u0_6, .int x0_7, u0_8, u0_9, u0_10, u0_11, .ref (ad 5), .int v_26_38, .int v_36_39, .int x0_15]))] g) _ _ := hO
    refine lv_aload_n hx hb ddX8_goOn_40 rfl (lv_at hl 0 rfl) ?_
    refine lv_dup hx hb ddX8_goOn_41 rfl ?_
    refine cg_get hC hO 0 (by decide) rfl rfl i_X8 15 (by decide) (List.mem_of_getElem? (i := 16) rfl) rfl ddX8_goOn_42 ?_
    refine lv_iload_n hx hb ddX8_goOn_45 rfl (lv_at hl 2 rfl) ?_
    refine lv_ior hx hb ddX8_goOn_46 ?_
    refine lv_topi (fun v_46_40 _ => ?_)
    refine cg_put hC hO 0 (by decide) rfl rfl i_X8 tyX8_ok nmX8 15 (by decide) (List.mem_of_getElem? (i := 16) rfl) rfl rfl rfl (Nat.le_of_ble_eq_true rfl) ddX8_goOn_47 (fun H locs hO => ?_)
    have hO : cO D cy A s.heap s 7 ad (cup [(0, .inr (8, [.ref (ad 6), .ref (ad 1), u0_2, .ref (ad 3), .ref (ad 4), u0_5, u0_6, .int x0_7, u0_8, u0_9, u0_10, u0_11, .ref (ad 5), .int v_26_38, .int v_36_39, .int v_46_40]))] g) _ _ := hO
    exact cg_vret (nw := fun _ => 0) hC hr hlk hO.same (Nat.le_of_ble_eq_true rfl) (Nat.le_of_ble_eq_true rfl) (⟨v_26_38, v_36_39, v_46_40, rfl⟩) ddX8_goOn_50
  · have q_5_41 := zr_eq h_5_33
    have z_5_42 : zi 0 0 r_2_31 := ze_eq q_5_41 z_2_32 (zi_k (a := 0) (b := 0) (x := 0) rfl)
    exact cg_vret (nw := fun _ => 0) hC hr hlk hO.same (Nat.le_of_ble_eq_true rfl) (Nat.le_of_ble_eq_true rfl) (⟨x0_13, x0_14, x0_15, rfl⟩) ddX8_goOn_8

theorem ddX8_goOn_51 : decode cX8_goOn 51 = .ok (.aload_n 0, 1) := by decide +kernel
theorem ddX8_goOn_52 : decode cX8_goOn 52 = .ok (.getfield 27, 3) := by decide +kernel
theorem ddX8_goOn_55 : decode cX8_goOn 55 = .ok (.iload_n 1, 1) := by decide +kernel
theorem ddX8_goOn_56 : decode cX8_goOn 56 = .ok (.iaload, 1) := by decide +kernel
theorem ddX8_goOn_57 : decode cX8_goOn 57 = .ok (.istore_n 3, 1) := by decide +kernel
theorem ddX8_goOn_58 : decode cX8_goOn 58 = .ok (.aload_n 0, 1) := by decide +kernel
theorem ddX8_goOn_59 : decode cX8_goOn 59 = .ok (.getfield 38, 3) := by decide +kernel
theorem ddX8_goOn_62 : decode cX8_goOn 62 = .ok (.getfield 107, 3) := by decide +kernel
theorem ddX8_goOn_65 : decode cX8_goOn 65 = .ok (.iload_n 3, 1) := by decide +kernel
theorem ddX8_goOn_66 : decode cX8_goOn 66 = .ok (.invokestatic 110, 3) := by decide +kernel
theorem ddX8_goOn_69 : decode cX8_goOn 69 = .ok (.ifCond .eq 35, 3) := by decide +kernel
theorem ddX8_goOn_72 : decode cX8_goOn 72 = .ok (.aload_n 0, 1) := by decide +kernel
theorem ddX8_goOn_73 : decode cX8_goOn 73 = .ok (.getfield 45, 3) := by decide +kernel
theorem ddX8_goOn_76 : decode cX8_goOn 76 = .ok (.aload_n 0, 1) := by decide +kernel
theorem ddX8_goOn_77 : decode cX8_goOn 77 = .ok (.getfield 32, 3) := by decide +kernel
theorem ddX8_goOn_80 : decode cX8_goOn 80 = .ok (.iload_n 1, 1) := by decide +kernel
theorem ddX8_goOn_81 : decode cX8_goOn 81 = .ok (.invokevirtual 114, 3) := by decide +kernel
theorem ddX8_goOn_84 : decode cX8_goOn 84 = .ok (.aload_n 0, 1) := by decide +kernel
theorem ddX8_goOn_85 : decode cX8_goOn 85 = .ok (.iload_n 1, 1) := by decide +kernel
theorem ddX8_goOn_86 : decode cX8_goOn 86 = .ok (.iconst 1, 1) := by decide +kernel
theorem ddX8_goOn_87 : decode cX8_goOn 87 = .ok (.iadd, 1) := by decide +kernel
theorem ddX8_goOn_88 : decode cX8_goOn 88 = .ok (.iload_n 2, 1) := by decide +kernel
theorem ddX8_goOn_89 : decode cX8_goOn 89 = .ok (.invokevirtual 93, 3) := by decide +kernel
theorem ddX8_goOn_92 : decode cX8_goOn 92 = .ok (.aload_n 0, 1) := by decide +kernel
theorem ddX8_goOn_93 : decode cX8_goOn 93 = .ok (.getfield 45, 3) := by decide +kernel
theorem ddX8_goOn_96 : decode cX8_goOn 96 = .ok (.aload_n 0, 1) := by decide +kernel
theorem ddX8_goOn_97 : decode cX8_goOn 97 = .ok (.getfield 32, 3) := by decide +kernel
theorem ddX8_goOn_100 : decode cX8_goOn 100 = .ok (.iload_n 1, 1) := by decide +kernel
theorem ddX8_goOn_101 : decode cX8_goOn 101 = .ok (.invokevirtual 118, 3) := by decide +kernel
theorem ddX8_goOn_104 : decode cX8_goOn 104 = .ok (.aload_n 0, 1) := by decide +kernel
theorem ddX8_goOn_105 : decode cX8_goOn 105 = .ok (.iload_n 3, 1) := by decide +kernel
theorem ddX8_goOn_106 : decode cX8_goOn 106 = .ok (.invokevirtual 121, 3) := by decide +kernel
theorem ddX8_goOn_109 : decode cX8_goOn 109 = .ok (.aload_n 0, 1) := by decide +kernel
theorem ddX8_goOn_110 : decode cX8_goOn 110 = .ok (.iload_n 1, 1) := by decide +kernel
theorem ddX8_goOn_111 : decode cX8_goOn 111 = .ok (.iconst 1, 1) := by decide +kernel
theorem ddX8_goOn_112 : decode cX8_goOn 112 = .ok (.iadd, 1) := by decide +kernel
theorem ddX8_goOn_113 : decode cX8_goOn 113 = .ok (.iload_n 2, 1) := by decide +kernel
theorem ddX8_goOn_114 : decode cX8_goOn 114 = .ok (.aload_n 0, 1) := by decide +kernel
theorem ddX8_goOn_115 : decode cX8_goOn 115 = .ok (.getfield 38, 3) := by decide +kernel
theorem ddX8_goOn_118 : decode cX8_goOn 118 = .ok (.getfield 107, 3) := by decide +kernel
theorem ddX8_goOn_121 : decode cX8_goOn 121 = .ok (.iconst 1, 1) := by decide +kernel
theorem ddX8_goOn_122 : decode cX8_goOn 122 = .ok (.iload_n 3, 1) := by decide +kernel
theorem ddX8_goOn_123 : decode cX8_goOn 123 = .ok (.ishl, 1) := by decide +kernel
theorem ddX8_goOn_124 : decode cX8_goOn 124 = .ok (.iand, 1) := by decide +kernel
theorem ddX8_goOn_125 : decode cX8_goOn 125 = .ok (.ior, 1) := by decide +kernel
theorem ddX8_goOn_126 : decode cX8_goOn 126 = .ok (.invokevirtual 93, 3) := by decide +kernel
theorem ddX8_goOn_129 : decode cX8_goOn 129 = .ok (.return_, 1) := by decide +kernel
def wq_k_X8_goOn_11 : List Cond := Cond.code yX8_goOn cX8_goOn 4 none :: (([Cond.methodLink RX8 103 yX8_asSeen, Cond.instanceMethod yX8_asSeen, Cond.selects RX8 yX8_asSeen yX8_asSeen, Cond.initialized RX8, Cond.code yX8_asSeen cX8_asSeen 3 (some .boolean), Cond.fieldLink RX8 49 "CrowToll$Sights" "size" "I", Cond.fieldLink RX8 35 "CrowToll$Sights" "due" "[I", Cond.fieldLink RX8 45 "CrowToll$Sights" "watch" "LCrowToll$Watch;", Cond.fieldLink RX8 125 "CrowToll$Watch" "count" "[I", Cond.fieldLink RX8 15 "CrowToll$Sights" "bird" "[I", Cond.fieldLink RX8 18 "CrowToll$Sights" "count" "[I", Cond.fieldLink RX8 38 "CrowToll$Sights" "road" "LCrowToll$Road;", Cond.fieldLink RX8 60 "CrowToll$Road" "carts" "I", Cond.fieldLink RX8 27 "CrowToll$Sights" "order" "[I", Cond.fieldLink RX8 107 "CrowToll$Road" "maybe" "I", Cond.code yX11_has cX11_has 2 (some .boolean), Cond.static yX11_has, Cond.initialized RX11, Cond.fieldLink RX8 32 "CrowToll$Sights" "saved" "[I", Cond.methodLink RX8 114 yX10_save, Cond.instanceMethod yX10_save, Cond.selects RX10 yX10_save yX10_save, Cond.initialized RX10, Cond.code yX10_save cX10_save 4 none, Cond.fieldLink RX10 21 "CrowToll$Watch" "count" "[I", Cond.methodLink RX10 37 arraycopyName, Cond.native arraycopyName, Cond.static arraycopyName, Cond.initialized "java/lang/System", Cond.fieldLink RX10 27 "CrowToll$Watch" "lookedAt" "[I", Cond.fieldLink RX10 30 "CrowToll$Watch" "countedAt" "[I", Cond.methodLink RX8 93 yX8_goOn, Cond.instanceMethod yX8_goOn, Cond.selects RX8 yX8_goOn yX8_goOn, Cond.fieldLink RX8 84 "CrowToll$Sights" "sets" "I", Cond.fieldLink RX8 87 "CrowToll$Sights" "inAll" "I", Cond.fieldLink RX8 90 "CrowToll$Sights" "inSome" "I", Cond.methodLink RX8 118 yX10_load, Cond.instanceMethod yX10_load, Cond.selects RX10 yX10_load yX10_load, Cond.code yX10_load cX10_load 4 none, Cond.methodLink RX8 121 yX8_comesBy, Cond.instanceMethod yX8_comesBy, Cond.selects RX8 yX8_comesBy yX8_comesBy, Cond.code yX8_comesBy cX8_comesBy 3 none, Cond.fieldLink RX8 126 "CrowToll$Road" "posts" "I", Cond.fieldLink RX8 70 "CrowToll$Sights" "watched" "I", Cond.fieldLink RX8 65 "CrowToll$Road" "minute" "[I", Cond.fieldLink RX8 100 "CrowToll$Road" "at" "[I", Cond.methodLink RX8 129 yX10_look, Cond.instanceMethod yX10_look, Cond.selects RX10 yX10_look yX10_look, Cond.code yX10_look cX10_look 5 (some .int), Cond.fieldLink RX10 18 "CrowToll$Watch" "seated" "[I", Cond.fieldLink RX10 15 "CrowToll$Watch" "seat" "[I", Cond.fieldLink RX10 33 "CrowToll$Watch" "road" "LCrowToll$Road;", Cond.fieldLink RX10 60 "CrowToll$Road" "gap" "[I", Cond.fieldLink RX10 9 "CrowToll$Watch" "limit" "[I", Cond.fieldLink RX10 24 "CrowToll$Watch" "total" "[I", Cond.fieldLink RX10 63 "CrowToll$Road" "takes" "[I"] : List Cond) ++ wsX70 ++ wsX80 ++ wsX100)
set_option maxRecDepth 20000 in
theorem gr_k_X8_goOn_11_k_X8_asSeen : GoodIn wq_k_X8_goOn_11 wq_k_X8_asSeen := List.forall_mem_cons.mpr ⟨⟨(List.mem_of_getElem? (i := 5) rfl), good_of_word rfl⟩, List.forall_mem_append.mpr ⟨List.forall_mem_append.mpr ⟨List.forall_mem_cons.mpr ⟨⟨(List.mem_of_getElem? (i := 6) rfl), good_of_word rfl⟩, List.forall_mem_cons.mpr ⟨⟨(List.mem_of_getElem? (i := 7) rfl), good_of_word rfl⟩, List.forall_mem_cons.mpr ⟨⟨(List.mem_of_getElem? (i := 8) rfl), good_of_word rfl⟩, List.forall_mem_cons.mpr ⟨⟨(List.mem_of_getElem? (i := 9) rfl), good_of_word rfl⟩, List.forall_mem_cons.mpr ⟨⟨(List.mem_of_getElem? (i := 10) rfl), good_of_word rfl⟩, List.forall_mem_cons.mpr ⟨⟨(List.mem_of_getElem? (i := 11) rfl), good_of_word rfl⟩, (fun _ h => absurd h List.not_mem_nil)⟩⟩⟩⟩⟩⟩, fun w h => ⟨(fun w h => List.mem_cons_of_mem _ (List.mem_append_left _ (List.mem_append_right _ h))) w h, good_of_word (List.all_eq_true.mp gw_X8 w h)⟩⟩, fun w h => ⟨(fun w h => List.mem_cons_of_mem _ (List.mem_append_right _ h)) w h, good_of_word (List.all_eq_true.mp gw_X10 w h)⟩⟩⟩
set_option maxRecDepth 20000 in
theorem gq_k_X8_goOn_11_k_X8_asSeen_103 : GoodIn wq_k_X8_goOn_11 (wsV RX8 103 RX8 yX8_asSeen wq_k_X8_asSeen) := goodIn_app (List.forall_mem_cons.mpr ⟨⟨(List.mem_of_getElem? (i := 1) rfl), good_of_word rfl⟩, List.forall_mem_cons.mpr ⟨⟨(List.mem_of_getElem? (i := 2) rfl), good_of_word rfl⟩, List.forall_mem_cons.mpr ⟨⟨(List.mem_of_getElem? (i := 3) rfl), good_of_word rfl⟩, List.forall_mem_cons.mpr ⟨⟨(List.mem_of_getElem? (i := 4) rfl), good_of_word rfl⟩, (fun _ h => absurd h List.not_mem_nil)⟩⟩⟩⟩) gr_k_X8_goOn_11_k_X8_asSeen
set_option maxRecDepth 20000 in
theorem gr_k_X8_goOn_11_k_X11_has : GoodIn wq_k_X8_goOn_11 wq_k_X11_has := List.forall_mem_cons.mpr ⟨⟨(List.mem_of_getElem? (i := 16) rfl), good_of_word rfl⟩, (fun _ h => absurd h List.not_mem_nil)⟩
theorem gq_k_X8_goOn_11_k_X11_has : GoodIn wq_k_X8_goOn_11 wq_k_X11_has := gr_k_X8_goOn_11_k_X11_has
set_option maxRecDepth 20000 in
theorem gr_k_X8_goOn_11_k_X10_save : GoodIn wq_k_X8_goOn_11 wq_k_X10_save := List.forall_mem_cons.mpr ⟨⟨(List.mem_of_getElem? (i := 24) rfl), good_of_word rfl⟩, List.forall_mem_append.mpr ⟨List.forall_mem_cons.mpr ⟨⟨(List.mem_of_getElem? (i := 25) rfl), good_of_word rfl⟩, List.forall_mem_cons.mpr ⟨⟨(List.mem_of_getElem? (i := 26) rfl), good_of_word rfl⟩, List.forall_mem_cons.mpr ⟨⟨(List.mem_of_getElem? (i := 27) rfl), good_of_word rfl⟩, List.forall_mem_cons.mpr ⟨⟨(List.mem_of_getElem? (i := 28) rfl), good_of_word rfl⟩, List.forall_mem_cons.mpr ⟨⟨(List.mem_of_getElem? (i := 29) rfl), good_of_word rfl⟩, List.forall_mem_cons.mpr ⟨⟨(List.mem_of_getElem? (i := 30) rfl), good_of_word rfl⟩, List.forall_mem_cons.mpr ⟨⟨(List.mem_of_getElem? (i := 31) rfl), good_of_word rfl⟩, (fun _ h => absurd h List.not_mem_nil)⟩⟩⟩⟩⟩⟩⟩, fun w h => ⟨(fun w h => List.mem_cons_of_mem _ (List.mem_append_right _ h)) w h, good_of_word (List.all_eq_true.mp gw_X10 w h)⟩⟩⟩
set_option maxRecDepth 20000 in
theorem gq_k_X8_goOn_11_k_X10_save_114 : GoodIn wq_k_X8_goOn_11 (wsV RX8 114 RX10 yX10_save wq_k_X10_save) := goodIn_app (List.forall_mem_cons.mpr ⟨⟨(List.mem_of_getElem? (i := 20) rfl), good_of_word rfl⟩, List.forall_mem_cons.mpr ⟨⟨(List.mem_of_getElem? (i := 21) rfl), good_of_word rfl⟩, List.forall_mem_cons.mpr ⟨⟨(List.mem_of_getElem? (i := 22) rfl), good_of_word rfl⟩, List.forall_mem_cons.mpr ⟨⟨(List.mem_of_getElem? (i := 23) rfl), good_of_word rfl⟩, (fun _ h => absurd h List.not_mem_nil)⟩⟩⟩⟩) gr_k_X8_goOn_11_k_X10_save
set_option maxRecDepth 20000 in
theorem gr_k_X8_goOn_11_k_X8_goOn_12 : GoodIn wq_k_X8_goOn_11 wq_k_X8_goOn_12 := List.forall_mem_cons.mpr ⟨⟨(List.mem_of_getElem? (i := 0) rfl), good_of_word rfl⟩, List.forall_mem_append.mpr ⟨List.forall_mem_append.mpr ⟨List.forall_mem_append.mpr ⟨List.forall_mem_cons.mpr ⟨⟨(List.mem_of_getElem? (i := 1) rfl), good_of_word rfl⟩, List.forall_mem_cons.mpr ⟨⟨(List.mem_of_getElem? (i := 2) rfl), good_of_word rfl⟩, List.forall_mem_cons.mpr ⟨⟨(List.mem_of_getElem? (i := 3) rfl), good_of_word rfl⟩, List.forall_mem_cons.mpr ⟨⟨(List.mem_of_getElem? (i := 4) rfl), good_of_word rfl⟩, List.forall_mem_cons.mpr ⟨⟨(List.mem_of_getElem? (i := 5) rfl), good_of_word rfl⟩, List.forall_mem_cons.mpr ⟨⟨(List.mem_of_getElem? (i := 6) rfl), good_of_word rfl⟩, List.forall_mem_cons.mpr ⟨⟨(List.mem_of_getElem? (i := 7) rfl), good_of_word rfl⟩, List.forall_mem_cons.mpr ⟨⟨(List.mem_of_getElem? (i := 8) rfl), good_of_word rfl⟩, List.forall_mem_cons.mpr ⟨⟨(List.mem_of_getElem? (i := 9) rfl), good_of_word rfl⟩, List.forall_mem_cons.mpr ⟨⟨(List.mem_of_getElem? (i := 10) rfl), good_of_word rfl⟩, List.forall_mem_cons.mpr ⟨⟨(List.mem_of_getElem? (i := 11) rfl), good_of_word rfl⟩, List.forall_mem_cons.mpr ⟨⟨(List.mem_of_getElem? (i := 12) rfl), good_of_word rfl⟩, List.forall_mem_cons.mpr ⟨⟨(List.mem_of_getElem? (i := 13) rfl), good_of_word rfl⟩, List.forall_mem_cons.mpr ⟨⟨(List.mem_of_getElem? (i := 35) rfl), good_of_word rfl⟩, List.forall_mem_cons.mpr ⟨⟨(List.mem_of_getElem? (i := 36) rfl), good_of_word rfl⟩, List.forall_mem_cons.mpr ⟨⟨(List.mem_of_getElem? (i := 37) rfl), good_of_word rfl⟩, (fun _ h => absurd h List.not_mem_nil)⟩⟩⟩⟩⟩⟩⟩⟩⟩⟩⟩⟩⟩⟩⟩⟩, fun w h => ⟨(fun w h => List.mem_cons_of_mem _ (List.mem_append_left _ (List.mem_append_left _ (List.mem_append_right _ h)))) w h, good_of_word (List.all_eq_true.mp gw_X7 w h)⟩⟩, fun w h => ⟨(fun w h => List.mem_cons_of_mem _ (List.mem_append_left _ (List.mem_append_right _ h))) w h, good_of_word (List.all_eq_true.mp gw_X8 w h)⟩⟩, fun w h => ⟨(fun w h => List.mem_cons_of_mem _ (List.mem_append_right _ h)) w h, good_of_word (List.all_eq_true.mp gw_X10 w h)⟩⟩⟩
set_option maxRecDepth 20000 in
theorem gq_k_X8_goOn_11_k_X8_goOn_12_93 : GoodIn wq_k_X8_goOn_11 (wsV RX8 93 RX8 yX8_goOn wq_k_X8_goOn_12) := goodIn_app (List.forall_mem_cons.mpr ⟨⟨(List.mem_of_getElem? (i := 32) rfl), good_of_word rfl⟩, List.forall_mem_cons.mpr ⟨⟨(List.mem_of_getElem? (i := 33) rfl), good_of_word rfl⟩, List.forall_mem_cons.mpr ⟨⟨(List.mem_of_getElem? (i := 34) rfl), good_of_word rfl⟩, List.forall_mem_cons.mpr ⟨⟨(List.mem_of_getElem? (i := 4) rfl), good_of_word rfl⟩, (fun _ h => absurd h List.not_mem_nil)⟩⟩⟩⟩) gr_k_X8_goOn_11_k_X8_goOn_12
set_option maxRecDepth 20000 in
theorem gr_k_X8_goOn_11_k_X10_load : GoodIn wq_k_X8_goOn_11 wq_k_X10_load := List.forall_mem_cons.mpr ⟨⟨(List.mem_of_getElem? (i := 41) rfl), good_of_word rfl⟩, List.forall_mem_append.mpr ⟨List.forall_mem_cons.mpr ⟨⟨(List.mem_of_getElem? (i := 25) rfl), good_of_word rfl⟩, List.forall_mem_cons.mpr ⟨⟨(List.mem_of_getElem? (i := 26) rfl), good_of_word rfl⟩, List.forall_mem_cons.mpr ⟨⟨(List.mem_of_getElem? (i := 27) rfl), good_of_word rfl⟩, List.forall_mem_cons.mpr ⟨⟨(List.mem_of_getElem? (i := 28) rfl), good_of_word rfl⟩, List.forall_mem_cons.mpr ⟨⟨(List.mem_of_getElem? (i := 29) rfl), good_of_word rfl⟩, List.forall_mem_cons.mpr ⟨⟨(List.mem_of_getElem? (i := 30) rfl), good_of_word rfl⟩, List.forall_mem_cons.mpr ⟨⟨(List.mem_of_getElem? (i := 31) rfl), good_of_word rfl⟩, (fun _ h => absurd h List.not_mem_nil)⟩⟩⟩⟩⟩⟩⟩, fun w h => ⟨(fun w h => List.mem_cons_of_mem _ (List.mem_append_right _ h)) w h, good_of_word (List.all_eq_true.mp gw_X10 w h)⟩⟩⟩
set_option maxRecDepth 20000 in
theorem gq_k_X8_goOn_11_k_X10_load_118 : GoodIn wq_k_X8_goOn_11 (wsV RX8 118 RX10 yX10_load wq_k_X10_load) := goodIn_app (List.forall_mem_cons.mpr ⟨⟨(List.mem_of_getElem? (i := 38) rfl), good_of_word rfl⟩, List.forall_mem_cons.mpr ⟨⟨(List.mem_of_getElem? (i := 39) rfl), good_of_word rfl⟩, List.forall_mem_cons.mpr ⟨⟨(List.mem_of_getElem? (i := 40) rfl), good_of_word rfl⟩, List.forall_mem_cons.mpr ⟨⟨(List.mem_of_getElem? (i := 23) rfl), good_of_word rfl⟩, (fun _ h => absurd h List.not_mem_nil)⟩⟩⟩⟩) gr_k_X8_goOn_11_k_X10_load
set_option maxRecDepth 20000 in
theorem gr_k_X8_goOn_11_k_X8_comesBy : GoodIn wq_k_X8_goOn_11 wq_k_X8_comesBy := List.forall_mem_cons.mpr ⟨⟨(List.mem_of_getElem? (i := 45) rfl), good_of_word rfl⟩, List.forall_mem_append.mpr ⟨List.forall_mem_append.mpr ⟨List.forall_mem_append.mpr ⟨List.forall_mem_cons.mpr ⟨⟨(List.mem_of_getElem? (i := 12) rfl), good_of_word rfl⟩, List.forall_mem_cons.mpr ⟨⟨(List.mem_of_getElem? (i := 46) rfl), good_of_word rfl⟩, List.forall_mem_cons.mpr ⟨⟨(List.mem_of_getElem? (i := 47) rfl), good_of_word rfl⟩, List.forall_mem_cons.mpr ⟨⟨(List.mem_of_getElem? (i := 16) rfl), good_of_word rfl⟩, List.forall_mem_cons.mpr ⟨⟨(List.mem_of_getElem? (i := 17) rfl), good_of_word rfl⟩, List.forall_mem_cons.mpr ⟨⟨(List.mem_of_getElem? (i := 18) rfl), good_of_word rfl⟩, List.forall_mem_cons.mpr ⟨⟨(List.mem_of_getElem? (i := 8) rfl), good_of_word rfl⟩, List.forall_mem_cons.mpr ⟨⟨(List.mem_of_getElem? (i := 48) rfl), good_of_word rfl⟩, List.forall_mem_cons.mpr ⟨⟨(List.mem_of_getElem? (i := 49) rfl), good_of_word rfl⟩, List.forall_mem_cons.mpr ⟨⟨(List.mem_of_getElem? (i := 50) rfl), good_of_word rfl⟩, List.forall_mem_cons.mpr ⟨⟨(List.mem_of_getElem? (i := 51) rfl), good_of_word rfl⟩, List.forall_mem_cons.mpr ⟨⟨(List.mem_of_getElem? (i := 52) rfl), good_of_word rfl⟩, List.forall_mem_cons.mpr ⟨⟨(List.mem_of_getElem? (i := 23) rfl), good_of_word rfl⟩, List.forall_mem_cons.mpr ⟨⟨(List.mem_of_getElem? (i := 53) rfl), good_of_word rfl⟩, List.forall_mem_cons.mpr ⟨⟨(List.mem_of_getElem? (i := 54) rfl), good_of_word rfl⟩, List.forall_mem_cons.mpr ⟨⟨(List.mem_of_getElem? (i := 55) rfl), good_of_word rfl⟩, List.forall_mem_cons.mpr ⟨⟨(List.mem_of_getElem? (i := 31) rfl), good_of_word rfl⟩, List.forall_mem_cons.mpr ⟨⟨(List.mem_of_getElem? (i := 30) rfl), good_of_word rfl⟩, List.forall_mem_cons.mpr ⟨⟨(List.mem_of_getElem? (i := 56) rfl), good_of_word rfl⟩, List.forall_mem_cons.mpr ⟨⟨(List.mem_of_getElem? (i := 57) rfl), good_of_word rfl⟩, List.forall_mem_cons.mpr ⟨⟨(List.mem_of_getElem? (i := 25) rfl), good_of_word rfl⟩, List.forall_mem_cons.mpr ⟨⟨(List.mem_of_getElem? (i := 58) rfl), good_of_word rfl⟩, List.forall_mem_cons.mpr ⟨⟨(List.mem_of_getElem? (i := 59) rfl), good_of_word rfl⟩, List.forall_mem_cons.mpr ⟨⟨(List.mem_of_getElem? (i := 60) rfl), good_of_word rfl⟩, (fun _ h => absurd h List.not_mem_nil)⟩⟩⟩⟩⟩⟩⟩⟩⟩⟩⟩⟩⟩⟩⟩⟩⟩⟩⟩⟩⟩⟩⟩⟩, fun w h => ⟨(fun w h => List.mem_cons_of_mem _ (List.mem_append_left _ (List.mem_append_left _ (List.mem_append_right _ h)))) w h, good_of_word (List.all_eq_true.mp gw_X7 w h)⟩⟩, fun w h => ⟨(fun w h => List.mem_cons_of_mem _ (List.mem_append_left _ (List.mem_append_right _ h))) w h, good_of_word (List.all_eq_true.mp gw_X8 w h)⟩⟩, fun w h => ⟨(fun w h => List.mem_cons_of_mem _ (List.mem_append_right _ h)) w h, good_of_word (List.all_eq_true.mp gw_X10 w h)⟩⟩⟩
set_option maxRecDepth 20000 in
theorem gq_k_X8_goOn_11_k_X8_comesBy_121 : GoodIn wq_k_X8_goOn_11 (wsV RX8 121 RX8 yX8_comesBy wq_k_X8_comesBy) := goodIn_app (List.forall_mem_cons.mpr ⟨⟨(List.mem_of_getElem? (i := 42) rfl), good_of_word rfl⟩, List.forall_mem_cons.mpr ⟨⟨(List.mem_of_getElem? (i := 43) rfl), good_of_word rfl⟩, List.forall_mem_cons.mpr ⟨⟨(List.mem_of_getElem? (i := 44) rfl), good_of_word rfl⟩, List.forall_mem_cons.mpr ⟨⟨(List.mem_of_getElem? (i := 4) rfl), good_of_word rfl⟩, (fun _ h => absurd h List.not_mem_nil)⟩⟩⟩⟩) gr_k_X8_goOn_11_k_X8_comesBy
set_option maxHeartbeats 8000000 in
set_option maxRecDepth 100000 in
theorem k_X8_goOn_11 (l : Launch) (D : va_G) (cy : Nat → ClassId) (ad : Nat → Nat) (g : Nat → va_E) {u0_2 : Value} {u0_5 : Value} {u0_6 : Value} {x0_7 : Int32} {u0_8 : Value} {x0_11 : Int32} {x0_13 : Int32} {x0_14 : Int32} {x0_15 : Int32} {c2 : Nat → Int32} {c3 : Nat → Int32} {c4 : Nat → Int32} {c5 : Nat → Int32} {u6_0 : Value} {u6_1 : Value} {u6_4 : Value} {u6_5 : Value} {u6_6 : Value} {u6_8 : Value} {u6_9 : Value} {u6_10 : Value} {x6_11 : Int32} {u6_12 : Value} {u6_14 : Value} {x6_15 : Int32} {x6_16 : Int32} {u6_17 : Value} {c7 : Nat → Int32} {c8 : Nat → Int32} {c9 : Nat → Int32} {c10 : Nat → Int32} {c11 : Nat → Int32} {c12 : Nat → Int32} {c13 : Nat → Int32} {c14 : Nat → Int32} {c15 : Nat → Int32} {c16 : Nat → Int32} {c17 : Nat → Int32} {c18 : Nat → Int32} {set : Int32} (o0 : g 0 = .inr (8, [.ref (ad 6), .ref (ad 1), u0_2, .ref (ad 3), .ref (ad 4), u0_5, u0_6, .int x0_7, u0_8, .ref (ad 7), .ref (ad 10), .int x0_11, .ref (ad 5), .int x0_13, .int x0_14, .int x0_15])) (o1 : g 1 = .inr (10, [.ref (ad 6), .ref (ad 15), .ref (ad 16), .ref (ad 17), .ref (ad 2), .ref (ad 18), .ref (ad 8), .ref (ad 9)])) (a2 : g 2 = .inl (cy 0, 5, .inl c2)) (a3 : g 3 = .inl (cy 0, 30, .inl c3)) (a4 : g 4 = .inl (cy 0, 30, .inl c4)) (a5 : g 5 = .inl (cy 0, 30, .inl c5)) (o6 : g 6 = .inr (7, [u6_0, u6_1, .ref (ad 11), .ref (ad 12), u6_4, u6_5, u6_6, .ref (ad 13), u6_8, u6_9, u6_10, .int x6_11, u6_12, .ref (ad 14), u6_14, .int x6_15, .int x6_16, u6_17])) (a7 : g 7 = .inl (cy 0, 12, .inl c7)) (a8 : g 8 = .inl (cy 0, 5, .inl c8)) (a9 : g 9 = .inl (cy 0, 5, .inl c9)) (a10 : g 10 = .inl (cy 0, 180, .inl c10)) (a11 : g 11 = .inl (cy 0, 5, .inl c11)) (a12 : g 12 = .inl (cy 0, 5, .inl c12)) (a13 : g 13 = .inl (cy 0, 4, .inl c13)) (a14 : g 14 = .inl (cy 0, 12, .inl c14)) (a15 : g 15 = .inl (cy 0, 5, .inl c15)) (a16 : g 16 = .inl (cy 0, 20, .inl c16)) (a17 : g 17 = .inl (cy 0, 4, .inl c17)) (a18 : g 18 = .inl (cy 0, 5, .inl c18)) (b0_7 : zi 0 30 x0_7) (ha3 : za 0 4 c3) (b6_11 : zi 0 4 x6_11) (b6_16 : zi 0 12 x6_16) (ha7 : za 0 11 c7) (ha16 : za 0 4 c16) (ha17 : za 0 5 c17) : cMv l yX8_goOn wq_k_X8_goOn_11 { frames := 2, cells := 0, slots := 0, locals := 83 } 19 0 0 0 D cy ad g [.ref (ad 0), .int 11, .int set] (fun nw lu => ∃ (y0_13 : Int32) (y0_14 : Int32) (y0_15 : Int32) (d2 : Nat → Int32) (d8 : Nat → Int32) (d9 : Nat → Int32) (d10 : Nat → Int32) (d18 : Nat → Int32), lu = [(0, .inr (8, [.ref (ad 6), .ref (ad 1), u0_2, .ref (ad 3), .ref (ad 4), u0_5, u0_6, .int x0_7, u0_8, .ref (ad 7), .ref (ad 10), .int x0_11, .ref (ad 5), .int y0_13, .int y0_14, .int y0_15])), (2, .inl (cy 0, 5, .inl d2)), (8, .inl (cy 0, 5, .inl d8)), (9, .inl (cy 0, 5, .inl d9)), (10, .inl (cy 0, 180, .inl d10)), (18, .inl (cy 0, 5, .inl d18))]) := by
  refine cM_of (Qc := fun A => cQv (fun nw lu => ∃ (y0_13 : Int32) (y0_14 : Int32) (y0_15 : Int32) (d2 : Nat → Int32) (d8 : Nat → Int32) (d9 : Nat → Int32) (d10 : Nat → Int32) (d18 : Nat → Int32), lu = [(0, .inr (8, [.ref (ad 6), .ref (ad 1), u0_2, .ref (ad 3), .ref (ad 4), u0_5, u0_6, .int x0_7, u0_8, .ref (ad 7), .ref (ad 10), .int x0_11, .ref (ad 5), .int y0_13, .int y0_14, .int y0_15])), (2, .inl (cy 0, 5, .inl d2)), (8, .inl (cy 0, 5, .inl d8)), (9, .inl (cy 0, 5, .inl d9)), (10, .inl (cy 0, 180, .inl d10)), (18, .inl (cy 0, 5, .inl d18))]) D 19 0 ad g A) (cc := cX8_goOn) (maxL := 4) (ret := none) (by decide) rfl (Nat.le_of_ble_eq_true rfl) ?_
  intro p e s m below meth c A hC hr hlk hnm hO ls hl
  have hC : CallFix p m c cX8_goOn 4 s [.ref (ad 0), .int 11, .int set].toArray wq_k_X8_goOn_11 RX8 := hC
  obtain ⟨hx, hb, hml, hown, hts⟩ := id hC
  have hl : lv_has ls 4 [(0, .ref (ad 0)), (1, .int 11), (2, .int set)] := hl
  have i_X10 : ∀ w ∈ wsX100, w ∈ wq_k_X8_goOn_11 := fun w h => List.mem_cons_of_mem _ (List.mem_append_right _ h)
  have i_X7 : ∀ w ∈ wsX70, w ∈ wq_k_X8_goOn_11 := fun w h => List.mem_cons_of_mem _ (List.mem_append_left _ (List.mem_append_left _ (List.mem_append_right _ h)))
  have i_X8 : ∀ w ∈ wsX80, w ∈ wq_k_X8_goOn_11 := fun w h => List.mem_cons_of_mem _ (List.mem_append_left _ (List.mem_append_right _ h))
  have hO := hO.notes [(0, .inr (8, [.ref (ad 6), .ref (ad 1), u0_2, .ref (ad 3), .ref (ad 4), u0_5, u0_6, .int x0_7, u0_8, .ref (ad 7), .ref (ad 10), .int x0_11, .ref (ad 5), .int x0_13, .int x0_14, .int x0_15])), (2, .inl (cy 0, 5, .inl c2)), (8, .inl (cy 0, 5, .inl c8)), (9, .inl (cy 0, 5, .inl c9)), (10, .inl (cy 0, 180, .inl c10)), (18, .inl (cy 0, 5, .inl c18))] (List.forall_mem_cons.mpr ⟨o0, List.forall_mem_cons.mpr ⟨a2, List.forall_mem_cons.mpr ⟨a8, List.forall_mem_cons.mpr ⟨a9, List.forall_mem_cons.mpr ⟨a10, List.forall_mem_cons.mpr ⟨a18, (fun _ h => absurd h List.not_mem_nil)⟩⟩⟩⟩⟩⟩)
  refine lv_aload_n hx hb ddX8_goOn_0 rfl (lv_at hl 0 rfl) ?_
  refine lv_iload_n hx hb ddX8_goOn_1 rfl (lv_at hl 1 rfl) ?_
  refine cg_Vi (As := [.int 11]) (rest := []) (mc := 0) (ms := 0) (rm := { frames := 0, cells := 0, slots := 0, locals := 0 }) hC hl.1 hO [0, 5, 1, 3, 2, 4] (by decide +kernel) (k_X8_asSeen l D cy _ _ (u0_0 := .ref (ad 6)) (u2_0 := .ref (ad 6)) (u2_1 := .ref (ad 15)) (u2_2 := .ref (ad 16)) (u2_3 := .ref (ad 17)) (c4 := c2) (u2_5 := .ref (ad 18)) (u2_6 := .ref (ad 8)) (u2_7 := .ref (ad 9)) (u0_2 := u0_2) (c3 := c3) (c5 := c4) (u0_5 := u0_5) (u0_6 := u0_6) (x0_7 := x0_7) (u0_8 := u0_8) (u0_9 := .ref (ad 7)) (u0_10 := .ref (ad 10)) (u0_11 := .int x0_11) (c1 := c5) (u0_13 := .int x0_13) (u0_14 := .int x0_14) (u0_15 := .int x0_15) (n := 11) rfl a5 o1 a3 rfl a4 b0_7 ha3) gq_k_X8_goOn_11_k_X8_asSeen_103 rfl rfl rfl 1 (by decide +kernel) ⟨Nat.le_of_ble_eq_true rfl, Nat.le_of_ble_eq_true rfl⟩ rfl (by decide) rfl rfl rfl (Nat.le_of_ble_eq_true rfl) ddX8_goOn_2 ⟨Nat.le_of_ble_eq_true rfl, Nat.le_of_ble_eq_true rfl⟩ (fun r_2_174 nw_2_172 l_2_173 H locs hw hO => ?_)
  obtain ⟨z_2_175, rfl⟩ := hw
  have hO : cO D cy A s.heap s 19 ad (cup [(0, .inr (8, [.ref (ad 6), .ref (ad 1), u0_2, .ref (ad 3), .ref (ad 4), u0_5, u0_6, .int x0_7, u0_8, .ref (ad 7), .ref (ad 10), .int x0_11, .ref (ad 5), .int x0_13, .int x0_14, .int x0_15])), (2, .inl (cy 0, 5, .inl c2)), (8, .inl (cy 0, 5, .inl c8)), (9, .inl (cy 0, 5, .inl c9)), (10, .inl (cy 0, 180, .inl c10)), (18, .inl (cy 0, 5, .inl c18))] g) _ _ := hO
  refine lv_if_ne (tgt := 9) hx hb ddX8_goOn_5 (by decide) (fun h_5_176 => ?_) (fun h_5_176 => ?_)
  · have q_5_177 := zr_ne h_5_176
    have z_5_178 : zi 1 1 r_2_174 := zn_lo q_5_177 z_2_175 (zi_k (a := 0) (b := 0) (x := 0) rfl) (by decide)
    refine lv_iload_n hx hb ddX8_goOn_9 rfl (lv_at hl 1 rfl) ?_
    refine lv_aload_n hx hb ddX8_goOn_10 rfl (lv_at hl 0 rfl) ?_
    refine cg_get hC hO 0 (by decide) rfl rfl i_X8 0 (by decide) (List.mem_of_getElem? (i := 12) rfl) rfl ddX8_goOn_11 ?_
    refine cg_get hC hO 6 (by decide) o6 rfl i_X7 16 (by decide) (List.mem_of_getElem? (i := 13) rfl) rfl ddX8_goOn_14 ?_
    refine lv_icmp_lt (tgt := 51) hx hb ddX8_goOn_17 (by decide) (fun h_17_179 => ?_) (fun h_17_179 => ?_)
    · have q_17_180 := zr_lt h_17_179
      have z_17_181 : zi 12 12 x6_16 := zd_lt q_17_180 (zi_k (a := 11) (b := 11) (x := 11) rfl) b6_16 (by decide)
      refine lv_aload_n hx hb ddX8_goOn_51 rfl (lv_at hl 0 rfl) ?_
      refine cg_get hC hO 0 (by decide) rfl rfl i_X8 9 (by decide) (List.mem_of_getElem? (i := 14) rfl) rfl ddX8_goOn_52 ?_
      refine lv_iload_n hx hb ddX8_goOn_55 rfl (lv_at hl 1 rfl) ?_
      refine zg_iald hC hO 7 (by decide) a7 ha7 (cin (by decide)) ddX8_goOn_56 (fun v_56_182 z_56_183 => ?_)
      refine lv_istore_n (lv' := [(3, .int v_56_182), (0, .ref (ad 0)), (1, .int 11), (2, .int set)]) hx hb ddX8_goOn_57 rfl hl (by decide) rfl (fun ls hl => ?_)
      refine lv_aload_n hx hb ddX8_goOn_58 rfl (lv_at hl 1 rfl) ?_
      refine cg_get hC hO 0 (by decide) rfl rfl i_X8 0 (by decide) (List.mem_of_getElem? (i := 12) rfl) rfl ddX8_goOn_59 ?_
      refine cg_get hC hO 6 (by decide) o6 rfl i_X7 15 (by decide) (List.mem_of_getElem? (i := 15) rfl) rfl ddX8_goOn_62 ?_
      refine lv_iload_n hx hb ddX8_goOn_65 rfl (lv_at hl 0 rfl) ?_
      refine cg_Ni (As := [.int x6_15, .int v_56_182]) (rest := []) (mc := 0) (ms := 0) (rm := { frames := 0, cells := 0, slots := 0, locals := 0 }) hC hl.1 hO [] (by decide +kernel) (k_X11_has l D cy _ _ (bits := x6_15) (q := v_56_182) ) gq_k_X8_goOn_11_k_X11_has rfl rfl rfl (host := "CrowToll") (nestL_mem_16) (List.mem_of_getElem? (i := 17) rfl) (List.mem_of_getElem? (i := 18) rfl) 2 (by decide +kernel) ⟨Nat.le_of_ble_eq_true rfl, Nat.le_of_ble_eq_true rfl⟩ rfl rfl (Nat.le_of_ble_eq_true rfl) ddX8_goOn_66 ⟨Nat.le_of_ble_eq_true rfl, Nat.le_of_ble_eq_true rfl⟩ (fun r_66_186 nw_66_184 l_66_185 H locs hw hO => ?_)
      obtain ⟨z_66_187, rfl⟩ := hw
      have hO : cO D cy A s.heap s 19 ad (cup [(0, .inr (8, [.ref (ad 6), .ref (ad 1), u0_2, .ref (ad 3), .ref (ad 4), u0_5, u0_6, .int x0_7, u0_8, .ref (ad 7), .ref (ad 10), .int x0_11, .ref (ad 5), .int x0_13, .int x0_14, .int x0_15])), (2, .inl (cy 0, 5, .inl c2)), (8, .inl (cy 0, 5, .inl c8)), (9, .inl (cy 0, 5, .inl c9)), (10, .inl (cy 0, 180, .inl c10)), (18, .inl (cy 0, 5, .inl c18))] g) _ _ := hO
      have J_104_220 : ∀ (v_104_209 : Int32) (v_104_210 : Int32) (v_104_211 : Int32) (c_104_212 : Nat → Int32) (c_104_214 : Nat → Int32) (c_104_216 : Nat → Int32) (c_104_218 : Nat → Int32), za (-2147483648) 2147483647 c_104_212 → za (-2147483648) 2147483647 c_104_214 → za (-2147483648) 2147483647 c_104_216 → za (-2147483648) 2147483647 c_104_218 → ∀ (H : Heap) (locs : List Loc), cO D cy A s.heap s 19 ad (cup [(0, .inr (8, [.ref (ad 6), .ref (ad 1), u0_2, .ref (ad 3), .ref (ad 4), u0_5, u0_6, .int x0_7, u0_8, .ref (ad 7), .ref (ad 10), .int x0_11, .ref (ad 5), .int v_104_209, .int v_104_210, .int v_104_211])), (2, .inl (cy 0, 5, .inl c_104_212)), (8, .inl (cy 0, 5, .inl c_104_214)), (9, .inl (cy 0, 5, .inl c_104_216)), (10, .inl (cy 0, 180, .inl c_104_218)), (18, .inl (cy 0, 5, .inl c18))] g) H locs → ∀ ls : Array Slot, lv_has ls 4 [(3, .int v_56_182), (0, .ref (ad 0)), (1, .int 11), (2, .int set)] → W p l e { frames := 2, cells := 0, slots := 0, locals := 83 } s m [.ref (ad 0), .int 11, .int set].toArray below meth c H locs 0 0 (MQ below (cQv (fun nw lu => ∃ (y0_13 : Int32) (y0_14 : Int32) (y0_15 : Int32) (d2 : Nat → Int32) (d8 : Nat → Int32) (d9 : Nat → Int32) (d10 : Nat → Int32) (d18 : Nat → Int32), lu = [(0, .inr (8, [.ref (ad 6), .ref (ad 1), u0_2, .ref (ad 3), .ref (ad 4), u0_5, u0_6, .int x0_7, u0_8, .ref (ad 7), .ref (ad 10), .int x0_11, .ref (ad 5), .int y0_13, .int y0_14, .int y0_15])), (2, .inl (cy 0, 5, .inl d2)), (8, .inl (cy 0, 5, .inl d8)), (9, .inl (cy 0, 5, .inl d9)), (10, .inl (cy 0, 180, .inl d10)), (18, .inl (cy 0, 5, .inl d18))]) D 19 0 ad g A) [.ref (ad 0), .int 11, .int set].toArray s 0 0 A) (F0 m 104 ls []) := by
        intro v_104_209 v_104_210 v_104_211 c_104_212 c_104_214 c_104_216 c_104_218 zc_104_213 zc_104_215 zc_104_217 zc_104_219 H locs hO ls hl
        refine lv_aload_n hx hb ddX8_goOn_104 rfl (lv_at hl 1 rfl) ?_
        refine lv_iload_n hx hb ddX8_goOn_105 rfl (lv_at hl 0 rfl) ?_
        refine cg_Vv (As := [.int v_56_182]) (rest := []) (mc := 0) (ms := 0) (rm := { frames := 1, cells := 0, slots := 0, locals := 24 }) hC hl.1 hO [0, 6, 14, 13, 1, 11, 12, 15, 16, 17, 2, 18, 8, 9] (by decide +kernel) (k_X8_comesBy l D cy _ _ (u1_0 := u6_0) (u1_1 := u6_1) (c5 := c11) (c6 := c12) (u1_4 := u6_4) (u1_5 := u6_5) (u1_6 := u6_6) (c3 := c13) (u1_8 := u6_8) (u1_9 := u6_9) (u1_10 := u6_10) (x1_11 := x6_11) (u1_12 := u6_12) (c2 := c14) (u1_14 := u6_14) (u1_15 := .int x6_15) (u1_16 := .int x6_16) (u1_17 := u6_17) (c7 := c15) (c8 := c16) (c9 := c17) (c10 := c_104_212) (c11 := c18) (c12 := c_104_214) (c13 := c_104_216) (u0_2 := u0_2) (u0_3 := .ref (ad 3)) (u0_4 := .ref (ad 4)) (u0_5 := u0_5) (u0_6 := u0_6) (u0_7 := .int x0_7) (u0_8 := u0_8) (u0_9 := .ref (ad 7)) (u0_10 := .ref (ad 10)) (x0_11 := x0_11) (u0_12 := .ref (ad 5)) (u0_13 := .int v_104_209) (u0_14 := .int v_104_210) (u0_15 := .int v_104_211) (cart := v_56_182) rfl o6 a14 a13 o1 a11 a12 a15 a16 a17 rfl rfl rfl rfl b6_11 ha16 ha17 z_56_183) gq_k_X8_goOn_11_k_X8_comesBy_121 rfl rfl rfl 1 (by decide +kernel) ⟨Nat.le_of_ble_eq_true rfl, Nat.le_of_ble_eq_true rfl⟩ rfl (by decide) rfl rfl rfl (Nat.le_of_ble_eq_true rfl) ddX8_goOn_106 ⟨Nat.le_of_ble_eq_true rfl, Nat.le_of_ble_eq_true rfl⟩ (fun nw_106_221 l_106_222 H locs hw hO => ?_)
        obtain ⟨d10_106_224, d11_106_225, d12_106_226, d13_106_227, rfl⟩ := hw
        have hO := hO.mrg (lk := [(2, .inl (cy 0, 5, .inl d10_106_224)), (18, .inl (cy 0, 5, .inl d11_106_225)), (8, .inl (cy 0, 5, .inl d12_106_226)), (9, .inl (cy 0, 5, .inl d13_106_227))]) (lm := [(0, .inr (8, [.ref (ad 6), .ref (ad 1), u0_2, .ref (ad 3), .ref (ad 4), u0_5, u0_6, .int x0_7, u0_8, .ref (ad 7), .ref (ad 10), .int x0_11, .ref (ad 5), .int v_104_209, .int v_104_210, .int v_104_211])), (2, .inl (cy 0, 5, .inl d10_106_224)), (8, .inl (cy 0, 5, .inl d12_106_226)), (9, .inl (cy 0, 5, .inl d13_106_227)), (10, .inl (cy 0, 180, .inl c_104_218)), (18, .inl (cy 0, 5, .inl d11_106_225))]) rfl rfl rfl
        refine lv_aload_n hx hb ddX8_goOn_109 rfl (lv_at hl 1 rfl) ?_
        refine lv_iload_n hx hb ddX8_goOn_110 rfl (lv_at hl 2 rfl) ?_
        refine lv_iconst (v := 1) hx hb ddX8_goOn_111 (by decide) ?_
        refine lv_iadd hx hb ddX8_goOn_112 ?_
        refine cg_ev (v := 12) (by decide) ?_
        refine lv_iload_n hx hb ddX8_goOn_113 rfl (lv_at hl 3 rfl) ?_
        refine lv_aload_n hx hb ddX8_goOn_114 rfl (lv_at hl 1 rfl) ?_
        refine cg_get hC hO 0 (by decide) rfl rfl i_X8 0 (by decide) (List.mem_of_getElem? (i := 12) rfl) rfl ddX8_goOn_115 ?_
        refine cg_get hC hO 6 (by decide) o6 rfl i_X7 15 (by decide) (List.mem_of_getElem? (i := 15) rfl) rfl ddX8_goOn_118 ?_
        refine lv_iconst (v := 1) hx hb ddX8_goOn_121 (by decide) ?_
        refine lv_iload_n hx hb ddX8_goOn_122 rfl (lv_at hl 0 rfl) ?_
        refine lv_ishl hx hb ddX8_goOn_123 ?_
        refine lv_topi (fun v_123_228 _ => ?_)
        refine lv_iand hx hb ddX8_goOn_124 ?_
        refine lv_topi (fun v_124_229 _ => ?_)
        refine lv_ior hx hb ddX8_goOn_125 ?_
        refine lv_topi (fun v_125_230 _ => ?_)
        refine cg_Vv (As := [.int 12, .int v_125_230]) (rest := []) (mc := 0) (ms := 0) (rm := { frames := 1, cells := 0, slots := 0, locals := 22 }) hC hl.1 hO [0, 1, 2, 3, 4, 5, 6] (by decide +kernel) (k_X8_goOn_12 l D cy _ _ (u6_0 := u6_0) (u6_1 := u6_1) (u6_2 := .ref (ad 11)) (u6_3 := .ref (ad 12)) (u6_4 := u6_4) (u6_5 := u6_5) (u6_6 := u6_6) (u6_7 := .ref (ad 13)) (u6_8 := u6_8) (u6_9 := u6_9) (u6_10 := u6_10) (u6_11 := .int x6_11) (u6_12 := u6_12) (u6_13 := .ref (ad 14)) (u6_14 := u6_14) (u6_15 := .int x6_15) (x6_16 := x6_16) (u6_17 := u6_17) (u1_0 := .ref (ad 6)) (u1_1 := .ref (ad 15)) (u1_2 := .ref (ad 16)) (u1_3 := .ref (ad 17)) (c2 := d10_106_224) (u1_5 := .ref (ad 18)) (u1_6 := .ref (ad 8)) (u1_7 := .ref (ad 9)) (u0_2 := u0_2) (c3 := c3) (c4 := c4) (u0_5 := u0_5) (u0_6 := u0_6) (x0_7 := x0_7) (u0_8 := u0_8) (u0_9 := .ref (ad 7)) (u0_10 := .ref (ad 10)) (u0_11 := .int x0_11) (c5 := c5) (x0_13 := v_104_209) (x0_14 := v_104_210) (x0_15 := v_104_211) (set := v_125_230) rfl o1 rfl a3 a4 a5 o6 b0_7 ha3 (zi_w (c := 0) (d := 12) z_17_181 (by decide))) gq_k_X8_goOn_11_k_X8_goOn_12_93 rfl rfl rfl 2 (by decide +kernel) ⟨Nat.le_of_ble_eq_true rfl, Nat.le_of_ble_eq_true rfl⟩ rfl (by decide) rfl rfl rfl (Nat.le_of_ble_eq_true rfl) ddX8_goOn_126 ⟨Nat.le_of_ble_eq_true rfl, Nat.le_of_ble_eq_true rfl⟩ (fun nw_126_231 l_126_232 H locs hw hO => ?_)
        obtain ⟨y0_126_234, y0_126_235, y0_126_236, rfl⟩ := hw
        have hO := hO.mrg (lk := [(0, .inr (8, [.ref (ad 6), .ref (ad 1), u0_2, .ref (ad 3), .ref (ad 4), u0_5, u0_6, .int x0_7, u0_8, .ref (ad 7), .ref (ad 10), .int x0_11, .ref (ad 5), .int y0_126_234, .int y0_126_235, .int y0_126_236]))]) (lm := [(0, .inr (8, [.ref (ad 6), .ref (ad 1), u0_2, .ref (ad 3), .ref (ad 4), u0_5, u0_6, .int x0_7, u0_8, .ref (ad 7), .ref (ad 10), .int x0_11, .ref (ad 5), .int y0_126_234, .int y0_126_235, .int y0_126_236])), (2, .inl (cy 0, 5, .inl d10_106_224)), (8, .inl (cy 0, 5, .inl d12_106_226)), (9, .inl (cy 0, 5, .inl d13_106_227)), (10, .inl (cy 0, 180, .inl c_104_218)), (18, .inl (cy 0, 5, .inl d11_106_225))]) rfl rfl rfl
        exact cg_vret (nw := fun _ => 0) hC hr hlk hO.same (Nat.le_of_ble_eq_true rfl) (Nat.le_of_ble_eq_true rfl) (⟨y0_126_234, y0_126_235, y0_126_236, d10_106_224, d12_106_226, d13_106_227, c_104_218, d11_106_225, rfl⟩) ddX8_goOn_129
      refine lv_if_eq (tgt := 104) hx hb ddX8_goOn_69 (by decide) (fun h_69_188 => ?_) (fun h_69_188 => ?_)
      · have q_69_237 := zr_eq h_69_188
        have z_69_238 : zi 0 0 r_66_186 := ze_eq q_69_237 z_66_187 (zi_k (a := 0) (b := 0) (x := 0) rfl)
        exact J_104_220 x0_13 x0_14 x0_15 c2 c8 c9 c10 (za_all _) (za_all _) (za_all _) (za_all _) _ _ hO ls (lv_sub hl [0, 1, 2, 3] rfl)
      · have q_69_239 := zr_ne h_69_188
        have z_69_240 : zi 1 1 r_66_186 := zn_lo q_69_239 z_66_187 (zi_k (a := 0) (b := 0) (x := 0) rfl) (by decide)
        refine lv_aload_n hx hb ddX8_goOn_72 rfl (lv_at hl 1 rfl) ?_
        refine cg_get hC hO 0 (by decide) rfl rfl i_X8 1 (by decide) (List.mem_of_getElem? (i := 8) rfl) rfl ddX8_goOn_73 ?_
        refine lv_aload_n hx hb ddX8_goOn_76 rfl (lv_at hl 1 rfl) ?_
        refine cg_get hC hO 0 (by decide) rfl rfl i_X8 10 (by decide) (List.mem_of_getElem? (i := 19) rfl) rfl ddX8_goOn_77 ?_
        refine lv_iload_n hx hb ddX8_goOn_80 rfl (lv_at hl 2 rfl) ?_
        refine cg_Vv (As := [.ref (ad 10), .int 11]) (rest := []) (mc := 0) (ms := 0) (rm := { frames := 1, cells := 0, slots := 0, locals := 60 }) hC hl.1 hO [1, 10, 2, 8, 9] (by decide +kernel) (k_X10_save l D cy _ _ (u0_0 := .ref (ad 6)) (u0_1 := .ref (ad 15)) (u0_2 := .ref (ad 16)) (u0_3 := .ref (ad 17)) (c2 := c2) (u0_5 := .ref (ad 18)) (c3 := c8) (c4 := c9) (c1 := c10) (row := 11) o1 rfl rfl rfl rfl (zi_k (a := 0) (b := 12) (x := 11) rfl)) gq_k_X8_goOn_11_k_X10_save_114 rfl rfl rfl 2 (by decide +kernel) ⟨Nat.le_of_ble_eq_true rfl, Nat.le_of_ble_eq_true rfl⟩ rfl (by decide) o1 rfl rfl (Nat.le_of_ble_eq_true rfl) ddX8_goOn_81 ⟨Nat.le_of_ble_eq_true rfl, Nat.le_of_ble_eq_true rfl⟩ (fun nw_81_241 l_81_242 H locs hw hO => ?_)
        obtain ⟨d1_81_244, rfl⟩ := hw
        have hO := hO.mrg (lk := [(10, .inl (cy 0, 180, .inl d1_81_244))]) (lm := [(0, .inr (8, [.ref (ad 6), .ref (ad 1), u0_2, .ref (ad 3), .ref (ad 4), u0_5, u0_6, .int x0_7, u0_8, .ref (ad 7), .ref (ad 10), .int x0_11, .ref (ad 5), .int x0_13, .int x0_14, .int x0_15])), (2, .inl (cy 0, 5, .inl c2)), (8, .inl (cy 0, 5, .inl c8)), (9, .inl (cy 0, 5, .inl c9)), (10, .inl (cy 0, 180, .inl d1_81_244)), (18, .inl (cy 0, 5, .inl c18))]) rfl rfl rfl
        refine lv_aload_n hx hb ddX8_goOn_84 rfl (lv_at hl 1 rfl) ?_
        refine lv_iload_n hx hb ddX8_goOn_85 rfl (lv_at hl 2 rfl) ?_
        refine lv_iconst (v := 1) hx hb ddX8_goOn_86 (by decide) ?_
        refine lv_iadd hx hb ddX8_goOn_87 ?_
        refine cg_ev (v := 12) (by decide) ?_
        refine lv_iload_n hx hb ddX8_goOn_88 rfl (lv_at hl 3 rfl) ?_
        refine cg_Vv (As := [.int 12, .int set]) (rest := []) (mc := 0) (ms := 0) (rm := { frames := 1, cells := 0, slots := 0, locals := 22 }) hC hl.1 hO [0, 1, 2, 3, 4, 5, 6] (by decide +kernel) (k_X8_goOn_12 l D cy _ _ (u6_0 := u6_0) (u6_1 := u6_1) (u6_2 := .ref (ad 11)) (u6_3 := .ref (ad 12)) (u6_4 := u6_4) (u6_5 := u6_5) (u6_6 := u6_6) (u6_7 := .ref (ad 13)) (u6_8 := u6_8) (u6_9 := u6_9) (u6_10 := u6_10) (u6_11 := .int x6_11) (u6_12 := u6_12) (u6_13 := .ref (ad 14)) (u6_14 := u6_14) (u6_15 := .int x6_15) (x6_16 := x6_16) (u6_17 := u6_17) (u1_0 := .ref (ad 6)) (u1_1 := .ref (ad 15)) (u1_2 := .ref (ad 16)) (u1_3 := .ref (ad 17)) (c2 := c2) (u1_5 := .ref (ad 18)) (u1_6 := .ref (ad 8)) (u1_7 := .ref (ad 9)) (u0_2 := u0_2) (c3 := c3) (c4 := c4) (u0_5 := u0_5) (u0_6 := u0_6) (x0_7 := x0_7) (u0_8 := u0_8) (u0_9 := .ref (ad 7)) (u0_10 := .ref (ad 10)) (u0_11 := .int x0_11) (c5 := c5) (x0_13 := x0_13) (x0_14 := x0_14) (x0_15 := x0_15) (set := set) rfl o1 rfl a3 a4 a5 o6 b0_7 ha3 (zi_w (c := 0) (d := 12) z_17_181 (by decide))) gq_k_X8_goOn_11_k_X8_goOn_12_93 rfl rfl rfl 2 (by decide +kernel) ⟨Nat.le_of_ble_eq_true rfl, Nat.le_of_ble_eq_true rfl⟩ rfl (by decide) rfl rfl rfl (Nat.le_of_ble_eq_true rfl) ddX8_goOn_89 ⟨Nat.le_of_ble_eq_true rfl, Nat.le_of_ble_eq_true rfl⟩ (fun nw_89_245 l_89_246 H locs hw hO => ?_)
        obtain ⟨y0_89_248, y0_89_249, y0_89_250, rfl⟩ := hw
        have hO := hO.mrg (lk := [(0, .inr (8, [.ref (ad 6), .ref (ad 1), u0_2, .ref (ad 3), .ref (ad 4), u0_5, u0_6, .int x0_7, u0_8, .ref (ad 7), .ref (ad 10), .int x0_11, .ref (ad 5), .int y0_89_248, .int y0_89_249, .int y0_89_250]))]) (lm := [(0, .inr (8, [.ref (ad 6), .ref (ad 1), u0_2, .ref (ad 3), .ref (ad 4), u0_5, u0_6, .int x0_7, u0_8, .ref (ad 7), .ref (ad 10), .int x0_11, .ref (ad 5), .int y0_89_248, .int y0_89_249, .int y0_89_250])), (2, .inl (cy 0, 5, .inl c2)), (8, .inl (cy 0, 5, .inl c8)), (9, .inl (cy 0, 5, .inl c9)), (10, .inl (cy 0, 180, .inl d1_81_244)), (18, .inl (cy 0, 5, .inl c18))]) rfl rfl rfl
        refine lv_aload_n hx hb ddX8_goOn_92 rfl (lv_at hl 1 rfl) ?_
        refine cg_get hC hO 0 (by decide) rfl rfl i_X8 1 (by decide) (List.mem_of_getElem? (i := 8) rfl) rfl ddX8_goOn_93 ?_
        refine lv_aload_n hx hb ddX8_goOn_96 rfl (lv_at hl 1 rfl) ?_
        refine cg_get hC hO 0 (by decide) rfl rfl i_X8 10 (by decide) (List.mem_of_getElem? (i := 19) rfl) rfl ddX8_goOn_97 ?_
        refine lv_iload_n hx hb ddX8_goOn_100 rfl (lv_at hl 2 rfl) ?_
        refine cg_Vv (As := [.ref (ad 10), .int 11]) (rest := []) (mc := 0) (ms := 0) (rm := { frames := 1, cells := 0, slots := 0, locals := 60 }) hC hl.1 hO [1, 10, 2, 8, 9] (by decide +kernel) (k_X10_load l D cy _ _ (u0_0 := .ref (ad 6)) (u0_1 := .ref (ad 15)) (u0_2 := .ref (ad 16)) (u0_3 := .ref (ad 17)) (c2 := c2) (u0_5 := .ref (ad 18)) (c3 := c8) (c4 := c9) (c1 := d1_81_244) (row := 11) o1 rfl rfl rfl rfl (zi_k (a := 0) (b := 12) (x := 11) rfl)) gq_k_X8_goOn_11_k_X10_load_118 rfl rfl rfl 2 (by decide +kernel) ⟨Nat.le_of_ble_eq_true rfl, Nat.le_of_ble_eq_true rfl⟩ rfl (by decide) o1 rfl rfl (Nat.le_of_ble_eq_true rfl) ddX8_goOn_101 ⟨Nat.le_of_ble_eq_true rfl, Nat.le_of_ble_eq_true rfl⟩ (fun nw_101_251 l_101_252 H locs hw hO => ?_)
        obtain ⟨d2_101_254, d3_101_255, d4_101_256, rfl⟩ := hw
        have hO := hO.mrg (lk := [(2, .inl (cy 0, 5, .inl d2_101_254)), (8, .inl (cy 0, 5, .inl d3_101_255)), (9, .inl (cy 0, 5, .inl d4_101_256))]) (lm := [(0, .inr (8, [.ref (ad 6), .ref (ad 1), u0_2, .ref (ad 3), .ref (ad 4), u0_5, u0_6, .int x0_7, u0_8, .ref (ad 7), .ref (ad 10), .int x0_11, .ref (ad 5), .int y0_89_248, .int y0_89_249, .int y0_89_250])), (2, .inl (cy 0, 5, .inl d2_101_254)), (8, .inl (cy 0, 5, .inl d3_101_255)), (9, .inl (cy 0, 5, .inl d4_101_256)), (10, .inl (cy 0, 180, .inl d1_81_244)), (18, .inl (cy 0, 5, .inl c18))]) rfl rfl rfl
        exact J_104_220 y0_89_248 y0_89_249 y0_89_250 d2_101_254 d3_101_255 d4_101_256 d1_81_244 (za_all _) (za_all _) (za_all _) (za_all _) _ _ hO ls (lv_sub hl [0, 1, 2, 3] rfl)
    · have q_17_257 := zr_nlt h_17_179
      have z_17_258 : zi 0 11 x6_16 := zu_le q_17_257 b6_16 (zi_k (a := 11) (b := 11) (x := 11) rfl) (by decide)
      refine lv_aload_n hx hb ddX8_goOn_20 rfl (lv_at hl 0 rfl) ?_
      refine lv_dup hx hb ddX8_goOn_21 rfl ?_
      refine cg_get hC hO 0 (by decide) rfl rfl i_X8 13 (by decide) (List.mem_of_getElem? (i := 35) rfl) rfl ddX8_goOn_22 ?_
      refine lv_iconst (v := 1) hx hb ddX8_goOn_25 (by decide) ?_
      refine lv_iadd hx hb ddX8_goOn_26 ?_
      refine lv_topi (fun v_26_259 _ => ?_)
      refine cg_put hC hO 0 (by decide) rfl rfl i_X8 tyX8_ok nmX8 13 (by decide) (List.mem_of_getElem? (i := 35) rfl) rfl rfl rfl (Nat.le_of_ble_eq_true rfl) ddX8_goOn_27 (fun H locs hO => ?_)
      have hO : cO D cy A s.heap s 19 ad (cup [(0, .inr (8, [.ref (ad 6), .ref (ad 1), u0_2, .ref (ad 3), .ref (ad 4), u0_5, u0_6, .int x0_7, u0_8, .ref (ad 7), .ref (ad 10), .int x0_11, .ref (ad 5), .int v_26_259, .int x0_14, .int x0_15])), (2, .inl (cy 0, 5, .inl c2)), (8, .inl (cy 0, 5, .inl c8)), (9, .inl (cy 0, 5, .inl c9)), (10, .inl (cy 0, 180, .inl c10)), (18, .inl (cy 0, 5, .inl c18))] g) _ _ := hO
      refine lv_aload_n hx hb ddX8_goOn_30 rfl (lv_at hl 0 rfl) ?_
      refine lv_dup hx hb ddX8_goOn_31 rfl ?_
      refine cg_get hC hO 0 (by decide) rfl rfl i_X8 14 (by decide) (List.mem_of_getElem? (i := 36) rfl) rfl ddX8_goOn_32 ?_
      refine lv_iload_n hx hb ddX8_goOn_35 rfl (lv_at hl 2 rfl) ?_
      refine lv_iand hx hb ddX8_goOn_36 ?_
      refine lv_topi (fun v_36_260 _ => ?_)
      refine cg_put hC hO 0 (by decide) rfl rfl i_X8 tyX8_ok nmX8 14 (by decide) (List.mem_of_getElem? (i := 36) rfl) rfl rfl rfl (Nat.le_of_ble_eq_true rfl) ddX8_goOn_37 (fun H locs hO => ?_)
      have hO : cO D cy A s.heap s 19 ad (cup [(0, .inr (8, [.ref (ad 6), .ref (ad 1), u0_2, .ref (ad 3), .ref (ad 4), u0_5, u0_6, .int x0_7, u0_8, .ref (ad 7), .ref (ad 10), .int x0_11, .ref (ad 5), .int v_26_259, .int v_36_260, .int x0_15])), (2, .inl (cy 0, 5, .inl c2)), (8, .inl (cy 0, 5, .inl c8)), (9, .inl (cy 0, 5, .inl c9)), (10, .inl (cy 0, 180, .inl c10)), (18, .inl (cy 0, 5, .inl c18))] g) _ _ := hO
      refine lv_aload_n hx hb ddX8_goOn_40 rfl (lv_at hl 0 rfl) ?_
      refine lv_dup hx hb ddX8_goOn_41 rfl ?_
      refine cg_get hC hO 0 (by decide) rfl rfl i_X8 15 (by decide) (List.mem_of_getElem? (i := 37) rfl) rfl ddX8_goOn_42 ?_
      refine lv_iload_n hx hb ddX8_goOn_45 rfl (lv_at hl 2 rfl) ?_
      refine lv_ior hx hb ddX8_goOn_46 ?_
      refine lv_topi (fun v_46_261 _ => ?_)
      refine cg_put hC hO 0 (by decide) rfl rfl i_X8 tyX8_ok nmX8 15 (by decide) (List.mem_of_getElem? (i := 37) rfl) rfl rfl rfl (Nat.le_of_ble_eq_true rfl) ddX8_goOn_47 (fun H locs hO => ?_)
      have hO : cO D cy A s.heap s 19 ad (cup [(0, .inr (8, [.ref (ad 6), .ref (ad 1), u0_2, .ref (ad 3), .ref (ad 4), u0_5, u0_6, .int x0_7, u0_8, .ref (ad 7), .ref (ad 10), .int x0_11, .ref (ad 5), .int v_26_259, .int v_36_260, .int v_46_261])), (2, .inl (cy 0, 5, .inl c2)), (8, .inl (cy 0, 5, .inl c8)), (9, .inl (cy 0, 5, .inl c9)), (10, .inl (cy 0, 180, .inl c10)), (18, .inl (cy 0, 5, .inl c18))] g) _ _ := hO
      exact cg_vret (nw := fun _ => 0) hC hr hlk hO.same (Nat.le_of_ble_eq_true rfl) (Nat.le_of_ble_eq_true rfl) (⟨v_26_259, v_36_260, v_46_261, c2, c8, c9, c10, c18, rfl⟩) ddX8_goOn_50
  · have q_5_262 := zr_eq h_5_176
    have z_5_263 : zi 0 0 r_2_174 := ze_eq q_5_262 z_2_175 (zi_k (a := 0) (b := 0) (x := 0) rfl)
    exact cg_vret (nw := fun _ => 0) hC hr hlk hO.same (Nat.le_of_ble_eq_true rfl) (Nat.le_of_ble_eq_true rfl) (⟨x0_13, x0_14, x0_15, c2, c8, c9, c10, c18, rfl⟩) ddX8_goOn_8

