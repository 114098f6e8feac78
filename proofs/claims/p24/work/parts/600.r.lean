theorem ddX6_wrong_0 : decode cX6_wrong 0 = .ok (.aload_n 0, 1) := by decide +kernel
theorem ddX6_wrong_1 : decode cX6_wrong 1 = .ok (.iload_n 1, 1) := by decide +kernel
theorem ddX6_wrong_2 : decode cX6_wrong 2 = .ok (.putfield 38, 3) := by decide +kernel
theorem ddX6_wrong_5 : decode cX6_wrong 5 = .ok (.aload_n 0, 1) := by decide +kernel
theorem ddX6_wrong_6 : decode cX6_wrong 6 = .ok (.aload_n 0, 1) := by decide +kernel
theorem ddX6_wrong_7 : decode cX6_wrong 7 = .ok (.getfield 212, 3) := by decide +kernel
theorem ddX6_wrong_10 : decode cX6_wrong 10 = .ok (.putfield 18, 3) := by decide +kernel
theorem ddX6_wrong_13 : decode cX6_wrong 13 = .ok (.iconst 0, 1) := by decide +kernel
theorem ddX6_wrong_14 : decode cX6_wrong 14 = .ok (.ireturn, 1) := by decide +kernel
def wq_k_X6_wrong : List Cond := Cond.code yX6_wrong cX6_wrong 2 (some .boolean) :: (([Cond.fieldLink RX6 38 "CrowToll$Reader" "fault" "I", Cond.fieldLink RX6 212 "CrowToll$Reader" "place" "I", Cond.fieldLink RX6 18 "CrowToll$Reader" "faultPlace" "I"] : List Cond) ++ wsX60)
set_option maxHeartbeats 8000000 in
set_option maxRecDepth 100000 in
theorem k_X6_wrong (l : Launch) (D : va_G) (cy : Nat → ClassId) (ad : Nat → Nat) (g : Nat → va_E) {u0_0 : Value} {x0_1 : Int32} {x0_2 : Int32} {u0_3 : Value} {u0_4 : Value} {u0_5 : Value} {u0_6 : Value} {x0_7 : Int32} {u0_8 : Value} {u0_9 : Value} {u0_10 : Value} {u0_11 : Value} {which : Int32} (o0 : g 0 = .inr (6, [u0_0, .int x0_1, .int x0_2, u0_3, u0_4, u0_5, u0_6, .int x0_7, u0_8, u0_9, u0_10, u0_11])) (b0_7 : zi 0 1600 x0_7) : cMi l yX6_wrong wq_k_X6_wrong { frames := 0, cells := 0, slots := 0, locals := 0 } 1 0 0 0 D cy ad g [.ref (ad 0), .int which] (fun r nw lu => (r = 0) ∧ (lu = [(0, .inr (6, [u0_0, .int which, .int x0_7, u0_3, u0_4, u0_5, u0_6, .int x0_7, u0_8, u0_9, u0_10, u0_11]))])) := by
  refine cM_of (Qc := fun A => cQi (fun r nw lu => (r = 0) ∧ (lu = [(0, .inr (6, [u0_0, .int which, .int x0_7, u0_3, u0_4, u0_5, u0_6, .int x0_7, u0_8, u0_9, u0_10, u0_11]))])) D 1 0 ad g A) (cc := cX6_wrong) (maxL := 2) (ret := (some .boolean)) (by decide) rfl (Nat.le_of_ble_eq_true rfl) ?_
  intro p e s m below meth c A hC hr hlk hnm hO ls hl
  have hC : CallFix p m c cX6_wrong 2 s [.ref (ad 0), .int which].toArray wq_k_X6_wrong RX6 := hC
  obtain ⟨hx, hb, hml, hown, hts⟩ := id hC
  have hl : lv_has ls 2 [(0, .ref (ad 0)), (1, .int which)] := hl
  have i_X6 : ∀ w ∈ wsX60, w ∈ wq_k_X6_wrong := fun w h => List.mem_cons_of_mem _ (List.mem_append_right _ h)
  have hO := hO.notes [(0, .inr (6, [u0_0, .int x0_1, .int x0_2, u0_3, u0_4, u0_5, u0_6, .int x0_7, u0_8, u0_9, u0_10, u0_11]))] (List.forall_mem_cons.mpr ⟨o0, (fun _ h => absurd h List.not_mem_nil)⟩)
  refine lv_aload_n hx hb ddX6_wrong_0 rfl (lv_at hl 0 rfl) ?_
  refine lv_iload_n hx hb ddX6_wrong_1 rfl (lv_at hl 1 rfl) ?_
  refine cg_put hC hO 0 (by decide) rfl rfl i_X6 tyX6_ok nmX6 1 (by decide) (List.mem_of_getElem? (i := 1) rfl) rfl rfl rfl (Nat.le_of_ble_eq_true rfl) ddX6_wrong_2 (fun H locs hO => ?_)
  have hO : cO D cy A s.heap s 1 ad (cup [(0, .inr (6, [u0_0, .int which, .int x0_2, u0_3, u0_4, u0_5, u0_6, .int x0_7, u0_8, u0_9, u0_10, u0_11]))] g) _ _ := hO
  refine lv_aload_n hx hb ddX6_wrong_5 rfl (lv_at hl 0 rfl) ?_
  refine lv_aload_n hx hb ddX6_wrong_6 rfl (lv_at hl 0 rfl) ?_
  refine cg_get hC hO 0 (by decide) rfl rfl i_X6 7 (by decide) (List.mem_of_getElem? (i := 2) rfl) rfl ddX6_wrong_7 ?_
  refine cg_put hC hO 0 (by decide) rfl rfl i_X6 tyX6_ok nmX6 2 (by decide) (List.mem_of_getElem? (i := 3) rfl) rfl rfl rfl (Nat.le_of_ble_eq_true rfl) ddX6_wrong_10 (fun H locs hO => ?_)
  have hO : cO D cy A s.heap s 1 ad (cup [(0, .inr (6, [u0_0, .int which, .int x0_7, u0_3, u0_4, u0_5, u0_6, .int x0_7, u0_8, u0_9, u0_10, u0_11]))] g) _ _ := hO
  refine lv_iconst (v := 0) hx hb ddX6_wrong_13 (by decide) ?_
  exact cg_iret (nw := fun _ => 0) hC hr hlk hO.same rfl (Nat.le_of_ble_eq_true rfl) (Nat.le_of_ble_eq_true rfl) (⟨rfl, rfl⟩) ddX6_wrong_14

theorem ddX6_wrongHere_0 : decode cX6_wrongHere 0 = .ok (.aload_n 0, 1) := by decide +kernel
theorem ddX6_wrongHere_1 : decode cX6_wrongHere 1 = .ok (.aload_n 0, 1) := by decide +kernel
theorem ddX6_wrongHere_2 : decode cX6_wrongHere 2 = .ok (.getfield 47, 3) := by decide +kernel
theorem ddX6_wrongHere_5 : decode cX6_wrongHere 5 = .ok (.iconst 4, 1) := by decide +kernel
theorem ddX6_wrongHere_6 : decode cX6_wrongHere 6 = .ok (.if_icmp .ne 7, 3) := by decide +kernel
theorem ddX6_wrongHere_9 : decode cX6_wrongHere 9 = .ok (.iconst 1, 1) := by decide +kernel
theorem ddX6_wrongHere_10 : decode cX6_wrongHere 10 = .ok (.goto 4, 3) := by decide +kernel
theorem ddX6_wrongHere_13 : decode cX6_wrongHere 13 = .ok (.iconst 2, 1) := by decide +kernel
theorem ddX6_wrongHere_14 : decode cX6_wrongHere 14 = .ok (.invokevirtual 136, 3) := by decide +kernel
theorem ddX6_wrongHere_17 : decode cX6_wrongHere 17 = .ok (.ireturn, 1) := by decide +kernel
def wq_k_X6_wrongHere : List Cond := Cond.code yX6_wrongHere cX6_wrongHere 1 (some .boolean) :: (([Cond.fieldLink RX6 47 "CrowToll$Reader" "kind" "I", Cond.methodLink RX6 136 yX6_wrong, Cond.instanceMethod yX6_wrong, Cond.selects RX6 yX6_wrong yX6_wrong, Cond.initialized RX6, Cond.code yX6_wrong cX6_wrong 2 (some .boolean), Cond.fieldLink RX6 38 "CrowToll$Reader" "fault" "I", Cond.fieldLink RX6 212 "CrowToll$Reader" "place" "I", Cond.fieldLink RX6 18 "CrowToll$Reader" "faultPlace" "I"] : List Cond) ++ wsX60)
set_option maxRecDepth 20000 in
theorem gr_k_X6_wrongHere_k_X6_wrong : GoodIn wq_k_X6_wrongHere wq_k_X6_wrong := List.forall_mem_cons.mpr ⟨⟨(List.mem_of_getElem? (i := 6) rfl), good_of_word rfl⟩, List.forall_mem_append.mpr ⟨List.forall_mem_cons.mpr ⟨⟨(List.mem_of_getElem? (i := 7) rfl), good_of_word rfl⟩, List.forall_mem_cons.mpr ⟨⟨(List.mem_of_getElem? (i := 8) rfl), good_of_word rfl⟩, List.forall_mem_cons.mpr ⟨⟨(List.mem_of_getElem? (i := 9) rfl), good_of_word rfl⟩, (fun _ h => absurd h List.not_mem_nil)⟩⟩⟩, fun w h => ⟨(fun w h => List.mem_cons_of_mem _ (List.mem_append_right _ h)) w h, good_of_word (List.all_eq_true.mp gw_X6 w h)⟩⟩⟩
set_option maxRecDepth 20000 in
theorem gq_k_X6_wrongHere_k_X6_wrong_136 : GoodIn wq_k_X6_wrongHere (wsV RX6 136 RX6 yX6_wrong wq_k_X6_wrong) := goodIn_app (List.forall_mem_cons.mpr ⟨⟨(List.mem_of_getElem? (i := 2) rfl), good_of_word rfl⟩, List.forall_mem_cons.mpr ⟨⟨(List.mem_of_getElem? (i := 3) rfl), good_of_word rfl⟩, List.forall_mem_cons.mpr ⟨⟨(List.mem_of_getElem? (i := 4) rfl), good_of_word rfl⟩, List.forall_mem_cons.mpr ⟨⟨(List.mem_of_getElem? (i := 5) rfl), good_of_word rfl⟩, (fun _ h => absurd h List.not_mem_nil)⟩⟩⟩⟩) gr_k_X6_wrongHere_k_X6_wrong
set_option maxHeartbeats 8000000 in
set_option maxRecDepth 100000 in
theorem k_X6_wrongHere (l : Launch) (D : va_G) (cy : Nat → ClassId) (ad : Nat → Nat) (g : Nat → va_E) {u0_0 : Value} {x0_1 : Int32} {x0_2 : Int32} {u0_3 : Value} {u0_4 : Value} {u0_5 : Value} {x0_6 : Int32} {x0_7 : Int32} {u0_8 : Value} {u0_9 : Value} {u0_10 : Value} {u0_11 : Value} (o0 : g 0 = .inr (6, [u0_0, .int x0_1, .int x0_2, u0_3, u0_4, u0_5, .int x0_6, .int x0_7, u0_8, u0_9, u0_10, u0_11])) (b0_7 : zi 0 1600 x0_7) : cMi l yX6_wrongHere wq_k_X6_wrongHere { frames := 1, cells := 0, slots := 0, locals := 21 } 1 0 0 0 D cy ad g [.ref (ad 0)] (fun r nw lu => ∃ (y0_1 : Int32), (zi 1 2 y0_1) ∧ (r = 0) ∧ (lu = [(0, .inr (6, [u0_0, .int y0_1, .int x0_7, u0_3, u0_4, u0_5, .int x0_6, .int x0_7, u0_8, u0_9, u0_10, u0_11]))])) := by
  refine cM_of (Qc := fun A => cQi (fun r nw lu => ∃ (y0_1 : Int32), (zi 1 2 y0_1) ∧ (r = 0) ∧ (lu = [(0, .inr (6, [u0_0, .int y0_1, .int x0_7, u0_3, u0_4, u0_5, .int x0_6, .int x0_7, u0_8, u0_9, u0_10, u0_11]))])) D 1 0 ad g A) (cc := cX6_wrongHere) (maxL := 1) (ret := (some .boolean)) (by decide) rfl (Nat.le_of_ble_eq_true rfl) ?_
  intro p e s m below meth c A hC hr hlk hnm hO ls hl
  have hC : CallFix p m c cX6_wrongHere 1 s [.ref (ad 0)].toArray wq_k_X6_wrongHere RX6 := hC
  obtain ⟨hx, hb, hml, hown, hts⟩ := id hC
  have hl : lv_has ls 1 [(0, .ref (ad 0))] := hl
  have i_X6 : ∀ w ∈ wsX60, w ∈ wq_k_X6_wrongHere := fun w h => List.mem_cons_of_mem _ (List.mem_append_right _ h)
  have hO := hO.notes [(0, .inr (6, [u0_0, .int x0_1, .int x0_2, u0_3, u0_4, u0_5, .int x0_6, .int x0_7, u0_8, u0_9, u0_10, u0_11]))] (List.forall_mem_cons.mpr ⟨o0, (fun _ h => absurd h List.not_mem_nil)⟩)
  refine lv_aload_n hx hb ddX6_wrongHere_0 rfl (lv_at hl 0 rfl) ?_
  refine lv_aload_n hx hb ddX6_wrongHere_1 rfl (lv_at hl 0 rfl) ?_
  refine cg_get hC hO 0 (by decide) rfl rfl i_X6 6 (by decide) (List.mem_of_getElem? (i := 1) rfl) rfl ddX6_wrongHere_2 ?_
  refine lv_iconst (v := 4) hx hb ddX6_wrongHere_5 (by decide) ?_
  have J_14_26 : ∀ (v_14_24 : Int32), zi 1 2 v_14_24 → ∀ (H : Heap) (locs : List Loc), cO D cy A s.heap s 1 ad (cup [(0, .inr (6, [u0_0, .int x0_1, .int x0_2, u0_3, u0_4, u0_5, .int x0_6, .int x0_7, u0_8, u0_9, u0_10, u0_11]))] g) H locs → ∀ ls : Array Slot, lv_has ls 1 [(0, .ref (ad 0))] → W p l e { frames := 1, cells := 0, slots := 0, locals := 21 } s m [.ref (ad 0)].toArray below meth c H locs 0 0 (MQ below (cQi (fun r nw lu => ∃ (y0_1 : Int32), (zi 1 2 y0_1) ∧ (r = 0) ∧ (lu = [(0, .inr (6, [u0_0, .int y0_1, .int x0_7, u0_3, u0_4, u0_5, .int x0_6, .int x0_7, u0_8, u0_9, u0_10, u0_11]))])) D 1 0 ad g A) [.ref (ad 0)].toArray s 0 0 A) (F0 m 14 ls [.int v_14_24, .ref (ad 0)]) := by
    intro v_14_24 z_14_25 H locs hO ls hl
    refine cg_Vi (As := [.int v_14_24]) (rest := []) (mc := 0) (ms := 0) (rm := { frames := 0, cells := 0, slots := 0, locals := 0 }) hC hl.1 hO [0] (by decide +kernel) (k_X6_wrong l D cy _ _ (u0_0 := u0_0) (x0_1 := x0_1) (x0_2 := x0_2) (u0_3 := u0_3) (u0_4 := u0_4) (u0_5 := u0_5) (u0_6 := .int x0_6) (x0_7 := x0_7) (u0_8 := u0_8) (u0_9 := u0_9) (u0_10 := u0_10) (u0_11 := u0_11) (which := v_14_24) rfl b0_7) gq_k_X6_wrongHere_k_X6_wrong_136 rfl rfl rfl 1 (by decide +kernel) ⟨Nat.le_of_ble_eq_true rfl, Nat.le_of_ble_eq_true rfl⟩ rfl (by decide) rfl rfl rfl (Nat.le_of_ble_eq_true rfl) ddX6_wrongHere_14 ⟨Nat.le_of_ble_eq_true rfl, Nat.le_of_ble_eq_true rfl⟩ (fun r_14_29 nw_14_27 l_14_28 H locs hw hO => ?_)
    obtain ⟨rfl, rfl⟩ := hw
    have hO := hO.mrg (lk := [(0, .inr (6, [u0_0, .int v_14_24, .int x0_7, u0_3, u0_4, u0_5, .int x0_6, .int x0_7, u0_8, u0_9, u0_10, u0_11]))]) (lm := [(0, .inr (6, [u0_0, .int v_14_24, .int x0_7, u0_3, u0_4, u0_5, .int x0_6, .int x0_7, u0_8, u0_9, u0_10, u0_11]))]) rfl rfl rfl
    exact cg_iret (nw := fun _ => 0) hC hr hlk hO.same rfl (Nat.le_of_ble_eq_true rfl) (Nat.le_of_ble_eq_true rfl) (⟨v_14_24, z_14_25, rfl, rfl⟩) ddX6_wrongHere_17
  refine lv_icmp_ne (tgt := 13) hx hb ddX6_wrongHere_6 (by decide) (fun h_6_21 => ?_) (fun h_6_21 => ?_)
  · refine lv_iconst (v := 2) hx hb ddX6_wrongHere_13 (by decide) ?_
    exact J_14_26 2 (zi_k (a := 1) (b := 2) (x := 2) rfl) _ _ hO ls (lv_sub hl [0] rfl)
  · have q_6_30 := zr_eq h_6_21
    have z_6_31 : zi 4 4 x0_6 := ze_eq q_6_30 (zi_all x0_6) (zi_k (a := 4) (b := 4) (x := 4) rfl)
    refine lv_iconst (v := 1) hx hb ddX6_wrongHere_9 (by decide) ?_
    refine lv_goto (tgt := 14) hx hb ddX6_wrongHere_10 (by decide) ?_
    exact J_14_26 1 (zi_k (a := 1) (b := 2) (x := 1) rfl) _ _ hO ls (lv_sub hl [0] rfl)

theorem ddX6_readWord_0 : decode cX6_readWord 0 = .ok (.aload_n 0, 1) := by decide +kernel
theorem ddX6_readWord_1 : decode cX6_readWord 1 = .ok (.lconst 0, 1) := by decide +kernel
theorem ddX6_readWord_2 : decode cX6_readWord 2 = .ok (.putfield 128, 3) := by decide +kernel
theorem ddX6_readWord_5 : decode cX6_readWord 5 = .ok (.aload_n 0, 1) := by decide +kernel
theorem ddX6_readWord_6 : decode cX6_readWord 6 = .ok (.getfield 35, 3) := by decide +kernel
theorem ddX6_readWord_9 : decode cX6_readWord 9 = .ok (.aload_n 0, 1) := by decide +kernel
theorem ddX6_readWord_10 : decode cX6_readWord 10 = .ok (.getfield 32, 3) := by decide +kernel
theorem ddX6_readWord_13 : decode cX6_readWord 13 = .ok (.if_icmp .ge 72, 3) := by decide +kernel
theorem ddX6_readWord_16 : decode cX6_readWord 16 = .ok (.aload_n 0, 1) := by decide +kernel
theorem ddX6_readWord_17 : decode cX6_readWord 17 = .ok (.getfield 22, 3) := by decide +kernel
theorem ddX6_readWord_20 : decode cX6_readWord 20 = .ok (.aload_n 0, 1) := by decide +kernel
theorem ddX6_readWord_21 : decode cX6_readWord 21 = .ok (.getfield 35, 3) := by decide +kernel
theorem ddX6_readWord_24 : decode cX6_readWord 24 = .ok (.iaload, 1) := by decide +kernel
theorem ddX6_readWord_25 : decode cX6_readWord 25 = .ok (.bipush 97, 2) := by decide +kernel
theorem ddX6_readWord_27 : decode cX6_readWord 27 = .ok (.if_icmp .lt 58, 3) := by decide +kernel
theorem ddX6_readWord_30 : decode cX6_readWord 30 = .ok (.aload_n 0, 1) := by decide +kernel
theorem ddX6_readWord_31 : decode cX6_readWord 31 = .ok (.getfield 22, 3) := by decide +kernel
theorem ddX6_readWord_34 : decode cX6_readWord 34 = .ok (.aload_n 0, 1) := by decide +kernel
theorem ddX6_readWord_35 : decode cX6_readWord 35 = .ok (.getfield 35, 3) := by decide +kernel
theorem ddX6_readWord_38 : decode cX6_readWord 38 = .ok (.iaload, 1) := by decide +kernel
theorem ddX6_readWord_39 : decode cX6_readWord 39 = .ok (.bipush 122, 2) := by decide +kernel
theorem ddX6_readWord_41 : decode cX6_readWord 41 = .ok (.if_icmp .gt 44, 3) := by decide +kernel
theorem ddX6_readWord_44 : decode cX6_readWord 44 = .ok (.aload_n 0, 1) := by decide +kernel
theorem ddX6_readWord_45 : decode cX6_readWord 45 = .ok (.aload_n 0, 1) := by decide +kernel
theorem ddX6_readWord_46 : decode cX6_readWord 46 = .ok (.getfield 128, 3) := by decide +kernel
theorem ddX6_readWord_49 : decode cX6_readWord 49 = .ok (.ldc2_w 241, 3) := by decide +kernel
theorem ddX6_readWord_52 : decode cX6_readWord 52 = .ok (.lmul, 1) := by decide +kernel
theorem ddX6_readWord_53 : decode cX6_readWord 53 = .ok (.aload_n 0, 1) := by decide +kernel
theorem ddX6_readWord_54 : decode cX6_readWord 54 = .ok (.getfield 22, 3) := by decide +kernel
theorem ddX6_readWord_57 : decode cX6_readWord 57 = .ok (.aload_n 0, 1) := by decide +kernel
theorem ddX6_readWord_58 : decode cX6_readWord 58 = .ok (.getfield 35, 3) := by decide +kernel
theorem ddX6_readWord_61 : decode cX6_readWord 61 = .ok (.iaload, 1) := by decide +kernel
theorem ddX6_readWord_62 : decode cX6_readWord 62 = .ok (.bipush 97, 2) := by decide +kernel
theorem ddX6_readWord_64 : decode cX6_readWord 64 = .ok (.isub, 1) := by decide +kernel
theorem ddX6_readWord_65 : decode cX6_readWord 65 = .ok (.iconst 1, 1) := by decide +kernel
theorem ddX6_readWord_66 : decode cX6_readWord 66 = .ok (.iadd, 1) := by decide +kernel
theorem ddX6_readWord_67 : decode cX6_readWord 67 = .ok (.i2l, 1) := by decide +kernel
theorem ddX6_readWord_68 : decode cX6_readWord 68 = .ok (.ladd, 1) := by decide +kernel
theorem ddX6_readWord_69 : decode cX6_readWord 69 = .ok (.putfield 128, 3) := by decide +kernel
theorem ddX6_readWord_72 : decode cX6_readWord 72 = .ok (.aload_n 0, 1) := by decide +kernel
theorem ddX6_readWord_73 : decode cX6_readWord 73 = .ok (.dup, 1) := by decide +kernel
theorem ddX6_readWord_74 : decode cX6_readWord 74 = .ok (.getfield 35, 3) := by decide +kernel
theorem ddX6_readWord_77 : decode cX6_readWord 77 = .ok (.iconst 1, 1) := by decide +kernel
theorem ddX6_readWord_78 : decode cX6_readWord 78 = .ok (.iadd, 1) := by decide +kernel
theorem ddX6_readWord_79 : decode cX6_readWord 79 = .ok (.putfield 35, 3) := by decide +kernel
theorem ddX6_readWord_82 : decode cX6_readWord 82 = .ok (.goto (-77), 3) := by decide +kernel
theorem ddX6_readWord_85 : decode cX6_readWord 85 = .ok (.aload_n 0, 1) := by decide +kernel
theorem ddX6_readWord_86 : decode cX6_readWord 86 = .ok (.aload_n 0, 1) := by decide +kernel
theorem ddX6_readWord_87 : decode cX6_readWord 87 = .ok (.getfield 35, 3) := by decide +kernel
theorem ddX6_readWord_90 : decode cX6_readWord 90 = .ok (.aload_n 0, 1) := by decide +kernel
theorem ddX6_readWord_91 : decode cX6_readWord 91 = .ok (.getfield 212, 3) := by decide +kernel
theorem ddX6_readWord_94 : decode cX6_readWord 94 = .ok (.isub, 1) := by decide +kernel
theorem ddX6_readWord_95 : decode cX6_readWord 95 = .ok (.putfield 218, 3) := by decide +kernel
theorem ddX6_readWord_98 : decode cX6_readWord 98 = .ok (.aload_n 0, 1) := by decide +kernel
theorem ddX6_readWord_99 : decode cX6_readWord 99 = .ok (.aload_n 0, 1) := by decide +kernel
theorem ddX6_readWord_100 : decode cX6_readWord 100 = .ok (.getfield 218, 3) := by decide +kernel
theorem ddX6_readWord_103 : decode cX6_readWord 103 = .ok (.bipush 8, 2) := by decide +kernel
theorem ddX6_readWord_105 : decode cX6_readWord 105 = .ok (.if_icmp .gt 7, 3) := by decide +kernel
theorem ddX6_readWord_108 : decode cX6_readWord 108 = .ok (.iconst 1, 1) := by decide +kernel
theorem ddX6_readWord_109 : decode cX6_readWord 109 = .ok (.goto 4, 3) := by decide +kernel
theorem ddX6_readWord_112 : decode cX6_readWord 112 = .ok (.iconst 4, 1) := by decide +kernel
theorem ddX6_readWord_113 : decode cX6_readWord 113 = .ok (.putfield 47, 3) := by decide +kernel
theorem ddX6_readWord_116 : decode cX6_readWord 116 = .ok (.return_, 1) := by decide +kernel
def wq_k_X6_readWord : List Cond := Cond.code yX6_readWord cX6_readWord 1 none :: (([Cond.fieldLink RX6 128 "CrowToll$Reader" "name" "J", Cond.fieldLink RX6 35 "CrowToll$Reader" "at" "I", Cond.fieldLink RX6 32 "CrowToll$Reader" "length" "I", Cond.fieldLink RX6 22 "CrowToll$Reader" "text" "[I", Cond.constantLong RX6 241 (32), Cond.fieldLink RX6 212 "CrowToll$Reader" "place" "I", Cond.fieldLink RX6 218 "CrowToll$Reader" "size" "I", Cond.fieldLink RX6 47 "CrowToll$Reader" "kind" "I"] : List Cond) ++ wsX60)
set_option maxHeartbeats 8000000 in
set_option maxRecDepth 100000 in
theorem k_X6_readWord (l : Launch) (D : va_G) (cy : Nat → ClassId) (ad : Nat → Nat) (g : Nat → va_E) {u0_0 : Value} {u0_1 : Value} {u0_2 : Value} {x0_4 : Int32} {x0_5 : Int32} {x0_6 : Int32} {x0_7 : Int32} {x0_8 : Int32} {u0_9 : Value} {u0_10 : Value} {w0x11 : Int64} {c1 : Nat → Int32} (o0 : g 0 = .inr (6, [u0_0, u0_1, u0_2, .ref (ad 1), .int x0_4, .int x0_5, .int x0_6, .int x0_7, .int x0_8, u0_9, u0_10, .long w0x11])) (a1 : g 1 = .inl (cy 0, 1600, .inl c1)) (b0_4 : zi 0 1600 x0_4) (b0_5 : zi 0 1600 x0_5) (b0_7 : zi 0 1600 x0_7) : cMv l yX6_readWord wq_k_X6_readWord { frames := 0, cells := 0, slots := 0, locals := 0 } 2 0 0 0 D cy ad g [.ref (ad 0)] (fun nw lu => ∃ (y0_5 : Int32) (y0_6 : Int32) (y0_8 : Int32) (w0_11 : Int64), (zi 0 1600 y0_5) ∧ (zi 1 4 y0_6) ∧ (zi (-1600) 1600 y0_8) ∧ (((y0_6 : Int32) = 1 → (x0_7 : Int32).toInt + (y0_8 : Int32).toInt ≤ 1600)) ∧ (lu = [(0, .inr (6, [u0_0, u0_1, u0_2, .ref (ad 1), .int x0_4, .int y0_5, .int y0_6, .int x0_7, .int y0_8, u0_9, u0_10, .long w0_11]))])) := by
  refine cM_of (Qc := fun A => cQv (fun nw lu => ∃ (y0_5 : Int32) (y0_6 : Int32) (y0_8 : Int32) (w0_11 : Int64), (zi 0 1600 y0_5) ∧ (zi 1 4 y0_6) ∧ (zi (-1600) 1600 y0_8) ∧ (((y0_6 : Int32) = 1 → (x0_7 : Int32).toInt + (y0_8 : Int32).toInt ≤ 1600)) ∧ (lu = [(0, .inr (6, [u0_0, u0_1, u0_2, .ref (ad 1), .int x0_4, .int y0_5, .int y0_6, .int x0_7, .int y0_8, u0_9, u0_10, .long w0_11]))])) D 2 0 ad g A) (cc := cX6_readWord) (maxL := 1) (ret := none) (by decide) rfl (Nat.le_of_ble_eq_true rfl) ?_
  intro p e s m below meth c A hC hr hlk hnm hO ls hl
  have hC : CallFix p m c cX6_readWord 1 s [.ref (ad 0)].toArray wq_k_X6_readWord RX6 := hC
  obtain ⟨hx, hb, hml, hown, hts⟩ := id hC
  have hl : lv_has ls 1 [(0, .ref (ad 0))] := hl
  have i_X6 : ∀ w ∈ wsX60, w ∈ wq_k_X6_readWord := fun w h => List.mem_cons_of_mem _ (List.mem_append_right _ h)
  have hO := hO.notes [(0, .inr (6, [u0_0, u0_1, u0_2, .ref (ad 1), .int x0_4, .int x0_5, .int x0_6, .int x0_7, .int x0_8, u0_9, u0_10, .long w0x11]))] (List.forall_mem_cons.mpr ⟨o0, (fun _ h => absurd h List.not_mem_nil)⟩)
  refine lv_aload_n hx hb ddX6_readWord_0 rfl (lv_at hl 0 rfl) ?_
  refine lv_lconst (v := 0) hx hb ddX6_readWord_1 (by decide) ?_
  refine cg_put hC hO 0 (by decide) rfl rfl i_X6 tyX6_ok nmX6 11 (by decide) (List.mem_of_getElem? (i := 1) rfl) rfl rfl rfl (Nat.le_of_ble_eq_true rfl) ddX6_readWord_2 (fun H locs hO => ?_)
  have hO : cO D cy A s.heap s 2 ad (cup [(0, .inr (6, [u0_0, u0_1, u0_2, .ref (ad 1), .int x0_4, .int x0_5, .int x0_6, .int x0_7, .int x0_8, u0_9, u0_10, .long 0]))] g) _ _ := hO
  have loop_5_581 : ∀ (d_5_582 : Nat) (v_5_507 : Int32) (w_5_509 : Int64), zi 0 1600 v_5_507 → (1600 + 1 - v_5_507.toInt).toNat < d_5_582 → ∀ (H : Heap) (locs : List Loc), cO D cy A s.heap s 2 ad (cup [(0, .inr (6, [u0_0, u0_1, u0_2, .ref (ad 1), .int x0_4, .int v_5_507, .int x0_6, .int x0_7, .int x0_8, u0_9, u0_10, .long w_5_509]))] g) H locs → ∀ ls : Array Slot, lv_has ls 1 [(0, .ref (ad 0))] → W p l e { frames := 0, cells := 0, slots := 0, locals := 0 } s m [.ref (ad 0)].toArray below meth c H locs 0 0 (MQ below (cQv (fun nw lu => ∃ (y0_5 : Int32) (y0_6 : Int32) (y0_8 : Int32) (w0_11 : Int64), (zi 0 1600 y0_5) ∧ (zi 1 4 y0_6) ∧ (zi (-1600) 1600 y0_8) ∧ (((y0_6 : Int32) = 1 → (x0_7 : Int32).toInt + (y0_8 : Int32).toInt ≤ 1600)) ∧ (lu = [(0, .inr (6, [u0_0, u0_1, u0_2, .ref (ad 1), .int x0_4, .int y0_5, .int y0_6, .int x0_7, .int y0_8, u0_9, u0_10, .long w0_11]))])) D 2 0 ad g A) [.ref (ad 0)].toArray s 0 0 A) (F0 m 5 ls [])  := by
    intro d_5_582
    induction d_5_582 with
    | zero => intro v_5_507 w_5_509 z_5_508 mu_5_583; exact absurd mu_5_583 (Nat.not_lt_zero _)
    | succ d_5_582 ih_5_584 =>
      intro v_5_507 w_5_509 z_5_508 mu_5_583 H locs hO ls hl
      refine lv_aload_n hx hb ddX6_readWord_5 rfl (lv_at hl 0 rfl) ?_
      refine cg_get hC hO 0 (by decide) rfl rfl i_X6 5 (by decide) (List.mem_of_getElem? (i := 2) rfl) rfl ddX6_readWord_6 ?_
      refine lv_aload_n hx hb ddX6_readWord_9 rfl (lv_at hl 0 rfl) ?_
      refine cg_get hC hO 0 (by decide) rfl rfl i_X6 4 (by decide) (List.mem_of_getElem? (i := 3) rfl) rfl ddX6_readWord_10 ?_
      have J_85_614 : ∀ (H : Heap) (locs : List Loc), cO D cy A s.heap s 2 ad (cup [(0, .inr (6, [u0_0, u0_1, u0_2, .ref (ad 1), .int x0_4, .int v_5_507, .int x0_6, .int x0_7, .int x0_8, u0_9, u0_10, .long w_5_509]))] g) H locs → ∀ ls : Array Slot, lv_has ls 1 [(0, .ref (ad 0))] → W p l e { frames := 0, cells := 0, slots := 0, locals := 0 } s m [.ref (ad 0)].toArray below meth c H locs 0 0 (MQ below (cQv (fun nw lu => ∃ (y0_5 : Int32) (y0_6 : Int32) (y0_8 : Int32) (w0_11 : Int64), (zi 0 1600 y0_5) ∧ (zi 1 4 y0_6) ∧ (zi (-1600) 1600 y0_8) ∧ (((y0_6 : Int32) = 1 → (x0_7 : Int32).toInt + (y0_8 : Int32).toInt ≤ 1600)) ∧ (lu = [(0, .inr (6, [u0_0, u0_1, u0_2, .ref (ad 1), .int x0_4, .int y0_5, .int y0_6, .int x0_7, .int y0_8, u0_9, u0_10, .long w0_11]))])) D 2 0 ad g A) [.ref (ad 0)].toArray s 0 0 A) (F0 m 85 ls []) := by
        intro  H locs hO ls hl
        refine lv_aload_n hx hb ddX6_readWord_85 rfl (lv_at hl 0 rfl) ?_
        refine lv_aload_n hx hb ddX6_readWord_86 rfl (lv_at hl 0 rfl) ?_
        refine cg_get hC hO 0 (by decide) rfl rfl i_X6 5 (by decide) (List.mem_of_getElem? (i := 2) rfl) rfl ddX6_readWord_87 ?_
        refine lv_aload_n hx hb ddX6_readWord_90 rfl (lv_at hl 0 rfl) ?_
        refine cg_get hC hO 0 (by decide) rfl rfl i_X6 7 (by decide) (List.mem_of_getElem? (i := 6) rfl) rfl ddX6_readWord_91 ?_
        refine lv_isub hx hb ddX6_readWord_94 ?_
        refine zg_top2 (P := fun v => zi (-1600) 1600 v) (E := fun v => v.toInt = (v_5_507 : Int32).toInt - (x0_7 : Int32).toInt) (zi_sub z_5_508 b0_7 (by decide)) (fun v_94_615 z_94_616 q_94_617 => ?_)
        refine cg_put hC hO 0 (by decide) rfl rfl i_X6 tyX6_ok nmX6 8 (by decide) (List.mem_of_getElem? (i := 7) rfl) rfl rfl rfl (Nat.le_of_ble_eq_true rfl) ddX6_readWord_95 (fun H locs hO => ?_)
        have hO : cO D cy A s.heap s 2 ad (cup [(0, .inr (6, [u0_0, u0_1, u0_2, .ref (ad 1), .int x0_4, .int v_5_507, .int x0_6, .int x0_7, .int v_94_615, u0_9, u0_10, .long w_5_509]))] g) _ _ := hO
        refine lv_aload_n hx hb ddX6_readWord_98 rfl (lv_at hl 0 rfl) ?_
        refine lv_aload_n hx hb ddX6_readWord_99 rfl (lv_at hl 0 rfl) ?_
        refine cg_get hC hO 0 (by decide) rfl rfl i_X6 8 (by decide) (List.mem_of_getElem? (i := 7) rfl) rfl ddX6_readWord_100 ?_
        refine lv_bipush (v := 8) hx hb ddX6_readWord_103 (by decide) ?_
        have J_113_625 : ∀ (v_113_623 : Int32), zi 1 4 v_113_623 → ∀ (H : Heap) (locs : List Loc), cO D cy A s.heap s 2 ad (cup [(0, .inr (6, [u0_0, u0_1, u0_2, .ref (ad 1), .int x0_4, .int v_5_507, .int x0_6, .int x0_7, .int v_94_615, u0_9, u0_10, .long w_5_509]))] g) H locs → ∀ ls : Array Slot, lv_has ls 1 [(0, .ref (ad 0))] → W p l e { frames := 0, cells := 0, slots := 0, locals := 0 } s m [.ref (ad 0)].toArray below meth c H locs 0 0 (MQ below (cQv (fun nw lu => ∃ (y0_5 : Int32) (y0_6 : Int32) (y0_8 : Int32) (w0_11 : Int64), (zi 0 1600 y0_5) ∧ (zi 1 4 y0_6) ∧ (zi (-1600) 1600 y0_8) ∧ (((y0_6 : Int32) = 1 → (x0_7 : Int32).toInt + (y0_8 : Int32).toInt ≤ 1600)) ∧ (lu = [(0, .inr (6, [u0_0, u0_1, u0_2, .ref (ad 1), .int x0_4, .int y0_5, .int y0_6, .int x0_7, .int y0_8, u0_9, u0_10, .long w0_11]))])) D 2 0 ad g A) [.ref (ad 0)].toArray s 0 0 A) (F0 m 113 ls [.int v_113_623, .ref (ad 0)]) := by
          intro v_113_623 z_113_624 H locs hO ls hl
          refine cg_put hC hO 0 (by decide) rfl rfl i_X6 tyX6_ok nmX6 6 (by decide) (List.mem_of_getElem? (i := 8) rfl) rfl rfl rfl (Nat.le_of_ble_eq_true rfl) ddX6_readWord_113 (fun H locs hO => ?_)
          have hO : cO D cy A s.heap s 2 ad (cup [(0, .inr (6, [u0_0, u0_1, u0_2, .ref (ad 1), .int x0_4, .int v_5_507, .int v_113_623, .int x0_7, .int v_94_615, u0_9, u0_10, .long w_5_509]))] g) _ _ := hO
          exact cg_vret (nw := fun _ => 0) hC hr hlk hO.same (Nat.le_of_ble_eq_true rfl) (Nat.le_of_ble_eq_true rfl) (⟨v_5_507, v_113_623, v_94_615, w_5_509, z_5_508, z_113_624, z_94_616, (fun _ => by omega), rfl⟩) ddX6_readWord_116
        refine lv_icmp_gt (tgt := 112) hx hb ddX6_readWord_105 (by decide) (fun h_105_618 => ?_) (fun h_105_618 => ?_)
        · have q_105_626 := zr_lt h_105_618
          have z_105_627 : zi 9 1600 v_94_615 := zd_lt q_105_626 (zi_k (a := 8) (b := 8) (x := 8) rfl) z_94_616 (by decide)
          refine lv_iconst (v := 4) hx hb ddX6_readWord_112 (by decide) ?_
          exact J_113_625 4 (zi_k (a := 1) (b := 4) (x := 4) rfl) _ _ hO ls (lv_sub hl [0] rfl)
        · have q_105_628 := zr_nlt h_105_618
          have z_105_629 : zi (-1600) 8 v_94_615 := zu_le q_105_628 z_94_616 (zi_k (a := 8) (b := 8) (x := 8) rfl) (by decide)
          refine lv_iconst (v := 1) hx hb ddX6_readWord_108 (by decide) ?_
          refine lv_goto (tgt := 113) hx hb ddX6_readWord_109 (by decide) ?_
          exact J_113_625 1 (zi_k (a := 1) (b := 4) (x := 1) rfl) _ _ hO ls (lv_sub hl [0] rfl)
      refine lv_icmp_ge (tgt := 85) hx hb ddX6_readWord_13 (by decide) (fun h_13_585 => ?_) (fun h_13_585 => ?_)
      · have q_13_630 := zr_le h_13_585
        exact J_85_614  _ _ hO ls (lv_sub hl [0] rfl)
      · have q_13_631 := zr_nle h_13_585
        have z_13_632 : zi 0 1599 v_5_507 := zu_lt q_13_631 z_5_508 b0_4 (by decide)
        have z_13_633 : zi 1 1600 x0_4 := zd_lt q_13_631 z_5_508 b0_4 (by decide)
        refine lv_aload_n hx hb ddX6_readWord_16 rfl (lv_at hl 0 rfl) ?_
        refine cg_get hC hO 0 (by decide) rfl rfl i_X6 3 (by decide) (List.mem_of_getElem? (i := 4) rfl) rfl ddX6_readWord_17 ?_
        refine lv_aload_n hx hb ddX6_readWord_20 rfl (lv_at hl 0 rfl) ?_
        refine cg_get hC hO 0 (by decide) rfl rfl i_X6 5 (by decide) (List.mem_of_getElem? (i := 2) rfl) rfl ddX6_readWord_21 ?_
        refine zg_iald hC hO 1 (by decide) a1 (za_all _) (zi_in z_13_632 (by decide)) ddX6_readWord_24 (fun v_24_634 z_24_635 => ?_)
        refine lv_bipush (v := 97) hx hb ddX6_readWord_25 (by decide) ?_
        refine lv_icmp_lt (tgt := 85) hx hb ddX6_readWord_27 (by decide) (fun h_27_636 => ?_) (fun h_27_636 => ?_)
        · have q_27_637 := zr_lt h_27_636
          have z_27_638 : zi (-2147483648) 96 v_24_634 := zu_lt q_27_637 z_24_635 (zi_k (a := 97) (b := 97) (x := 97) rfl) (by decide)
          exact J_85_614  _ _ hO ls (lv_sub hl [0] rfl)
        · have q_27_639 := zr_nlt h_27_636
          have z_27_640 : zi 97 2147483647 v_24_634 := zd_le q_27_639 (zi_k (a := 97) (b := 97) (x := 97) rfl) z_24_635 (by decide)
          refine lv_aload_n hx hb ddX6_readWord_30 rfl (lv_at hl 0 rfl) ?_
          refine cg_get hC hO 0 (by decide) rfl rfl i_X6 3 (by decide) (List.mem_of_getElem? (i := 4) rfl) rfl ddX6_readWord_31 ?_
          refine lv_aload_n hx hb ddX6_readWord_34 rfl (lv_at hl 0 rfl) ?_
          refine cg_get hC hO 0 (by decide) rfl rfl i_X6 5 (by decide) (List.mem_of_getElem? (i := 2) rfl) rfl ddX6_readWord_35 ?_
          refine zg_iald hC hO 1 (by decide) a1 (za_all _) (zi_in z_13_632 (by decide)) ddX6_readWord_38 (fun v_38_641 z_38_642 => ?_)
          refine lv_bipush (v := 122) hx hb ddX6_readWord_39 (by decide) ?_
          refine lv_icmp_gt (tgt := 85) hx hb ddX6_readWord_41 (by decide) (fun h_41_643 => ?_) (fun h_41_643 => ?_)
          · have q_41_644 := zr_lt h_41_643
            have z_41_645 : zi 123 2147483647 v_38_641 := zd_lt q_41_644 (zi_k (a := 122) (b := 122) (x := 122) rfl) z_38_642 (by decide)
            exact J_85_614  _ _ hO ls (lv_sub hl [0] rfl)
          · have q_41_646 := zr_nlt h_41_643
            have z_41_647 : zi (-2147483648) 122 v_38_641 := zu_le q_41_646 z_38_642 (zi_k (a := 122) (b := 122) (x := 122) rfl) (by decide)
            refine lv_aload_n hx hb ddX6_readWord_44 rfl (lv_at hl 0 rfl) ?_
            refine lv_aload_n hx hb ddX6_readWord_45 rfl (lv_at hl 0 rfl) ?_
            refine cg_get hC hO 0 (by decide) rfl rfl i_X6 11 (by decide) (List.mem_of_getElem? (i := 1) rfl) rfl ddX6_readWord_46 ?_
            refine lv_ldc2 (v := 32) hx hb hown (hts _ (List.mem_of_getElem? (i := 5) rfl)) ddX6_readWord_49 ?_
            refine lv_lmul hx hb ddX6_readWord_52 ?_
            refine lv_topl (fun w_52_648 _ => ?_)
            refine lv_aload_n hx hb ddX6_readWord_53 rfl (lv_at hl 0 rfl) ?_
            refine cg_get hC hO 0 (by decide) rfl rfl i_X6 3 (by decide) (List.mem_of_getElem? (i := 4) rfl) rfl ddX6_readWord_54 ?_
            refine lv_aload_n hx hb ddX6_readWord_57 rfl (lv_at hl 0 rfl) ?_
            refine cg_get hC hO 0 (by decide) rfl rfl i_X6 5 (by decide) (List.mem_of_getElem? (i := 2) rfl) rfl ddX6_readWord_58 ?_
            refine zg_iald hC hO 1 (by decide) a1 (za_all _) (zi_in z_13_632 (by decide)) ddX6_readWord_61 (fun v_61_649 z_61_650 => ?_)
            refine lv_bipush (v := 97) hx hb ddX6_readWord_62 (by decide) ?_
            refine lv_isub hx hb ddX6_readWord_64 ?_
            refine lv_topi (fun v_64_651 _ => ?_)
            refine lv_iconst (v := 1) hx hb ddX6_readWord_65 (by decide) ?_
            refine lv_iadd hx hb ddX6_readWord_66 ?_
            refine lv_topi (fun v_66_652 _ => ?_)
            refine lv_i2l hx hb ddX6_readWord_67 rfl ?_
            refine lv_topl (fun w_67_653 _ => ?_)
            refine lv_ladd hx hb ddX6_readWord_68 ?_
            refine lv_topl (fun w_68_654 _ => ?_)
            refine cg_put hC hO 0 (by decide) rfl rfl i_X6 tyX6_ok nmX6 11 (by decide) (List.mem_of_getElem? (i := 1) rfl) rfl rfl rfl (Nat.le_of_ble_eq_true rfl) ddX6_readWord_69 (fun H locs hO => ?_)
            have hO : cO D cy A s.heap s 2 ad (cup [(0, .inr (6, [u0_0, u0_1, u0_2, .ref (ad 1), .int x0_4, .int v_5_507, .int x0_6, .int x0_7, .int x0_8, u0_9, u0_10, .long w_68_654]))] g) _ _ := hO
            refine lv_aload_n hx hb ddX6_readWord_72 rfl (lv_at hl 0 rfl) ?_
            refine lv_dup hx hb ddX6_readWord_73 rfl ?_
            refine cg_get hC hO 0 (by decide) rfl rfl i_X6 5 (by decide) (List.mem_of_getElem? (i := 2) rfl) rfl ddX6_readWord_74 ?_
            refine lv_iconst (v := 1) hx hb ddX6_readWord_77 (by decide) ?_
            refine lv_iadd hx hb ddX6_readWord_78 ?_
            refine zg_top2 (P := fun v => zi 1 1600 v) (E := fun v => v.toInt = v_5_507.toInt + 1) (zi_addk z_13_632 (n := 1) (by decide) (by decide)) (fun v_78_655 z_78_656 q_78_657 => ?_)
            refine cg_put hC hO 0 (by decide) rfl rfl i_X6 tyX6_ok nmX6 5 (by decide) (List.mem_of_getElem? (i := 2) rfl) rfl rfl rfl (Nat.le_of_ble_eq_true rfl) ddX6_readWord_79 (fun H locs hO => ?_)
            have hO : cO D cy A s.heap s 2 ad (cup [(0, .inr (6, [u0_0, u0_1, u0_2, .ref (ad 1), .int x0_4, .int v_78_655, .int x0_6, .int x0_7, .int x0_8, u0_9, u0_10, .long w_68_654]))] g) _ _ := hO
            refine lv_goto (tgt := 5) hx hb ddX6_readWord_82 (by decide) ?_
            exact ih_5_584 v_78_655 w_68_654 (zi_w (c := 0) (d := 1600) z_78_656 (by decide)) (zm_up q_78_657 ((zi_w (c := 0) (d := 1600) z_78_656 (by decide))).2 (by decide) mu_5_583) _ _ hO ls (lv_sub hl [0] rfl)
  exact loop_5_581 ((1600 + 1 - (x0_5 : Int32).toInt).toNat + 1) x0_5 0 b0_5 (Nat.lt_succ_self _) _ _ hO ls (lv_sub hl [0] rfl)

theorem ddX6_readNumber_0 : decode cX6_readNumber 0 = .ok (.aload_n 0, 1) := by decide +kernel
theorem ddX6_readNumber_1 : decode cX6_readNumber 1 = .ok (.iconst 0, 1) := by decide +kernel
theorem ddX6_readNumber_2 : decode cX6_readNumber 2 = .ok (.putfield 199, 3) := by decide +kernel
theorem ddX6_readNumber_5 : decode cX6_readNumber 5 = .ok (.aload_n 0, 1) := by decide +kernel
theorem ddX6_readNumber_6 : decode cX6_readNumber 6 = .ok (.getfield 35, 3) := by decide +kernel
theorem ddX6_readNumber_9 : decode cX6_readNumber 9 = .ok (.aload_n 0, 1) := by decide +kernel
theorem ddX6_readNumber_10 : decode cX6_readNumber 10 = .ok (.getfield 32, 3) := by decide +kernel
theorem ddX6_readNumber_13 : decode cX6_readNumber 13 = .ok (.if_icmp .ge 68, 3) := by decide +kernel
theorem ddX6_readNumber_16 : decode cX6_readNumber 16 = .ok (.aload_n 0, 1) := by decide +kernel
theorem ddX6_readNumber_17 : decode cX6_readNumber 17 = .ok (.getfield 22, 3) := by decide +kernel
theorem ddX6_readNumber_20 : decode cX6_readNumber 20 = .ok (.aload_n 0, 1) := by decide +kernel
theorem ddX6_readNumber_21 : decode cX6_readNumber 21 = .ok (.getfield 35, 3) := by decide +kernel
theorem ddX6_readNumber_24 : decode cX6_readNumber 24 = .ok (.iaload, 1) := by decide +kernel
theorem ddX6_readNumber_25 : decode cX6_readNumber 25 = .ok (.bipush 48, 2) := by decide +kernel
theorem ddX6_readNumber_27 : decode cX6_readNumber 27 = .ok (.if_icmp .lt 54, 3) := by decide +kernel
theorem ddX6_readNumber_30 : decode cX6_readNumber 30 = .ok (.aload_n 0, 1) := by decide +kernel
theorem ddX6_readNumber_31 : decode cX6_readNumber 31 = .ok (.getfield 22, 3) := by decide +kernel
theorem ddX6_readNumber_34 : decode cX6_readNumber 34 = .ok (.aload_n 0, 1) := by decide +kernel
theorem ddX6_readNumber_35 : decode cX6_readNumber 35 = .ok (.getfield 35, 3) := by decide +kernel
theorem ddX6_readNumber_38 : decode cX6_readNumber 38 = .ok (.iaload, 1) := by decide +kernel
theorem ddX6_readNumber_39 : decode cX6_readNumber 39 = .ok (.bipush 57, 2) := by decide +kernel
theorem ddX6_readNumber_41 : decode cX6_readNumber 41 = .ok (.if_icmp .gt 40, 3) := by decide +kernel
theorem ddX6_readNumber_44 : decode cX6_readNumber 44 = .ok (.aload_n 0, 1) := by decide +kernel
theorem ddX6_readNumber_45 : decode cX6_readNumber 45 = .ok (.aload_n 0, 1) := by decide +kernel
theorem ddX6_readNumber_46 : decode cX6_readNumber 46 = .ok (.getfield 199, 3) := by decide +kernel
theorem ddX6_readNumber_49 : decode cX6_readNumber 49 = .ok (.bipush 10, 2) := by decide +kernel
theorem ddX6_readNumber_51 : decode cX6_readNumber 51 = .ok (.imul, 1) := by decide +kernel
theorem ddX6_readNumber_52 : decode cX6_readNumber 52 = .ok (.aload_n 0, 1) := by decide +kernel
theorem ddX6_readNumber_53 : decode cX6_readNumber 53 = .ok (.getfield 22, 3) := by decide +kernel
theorem ddX6_readNumber_56 : decode cX6_readNumber 56 = .ok (.aload_n 0, 1) := by decide +kernel
theorem ddX6_readNumber_57 : decode cX6_readNumber 57 = .ok (.getfield 35, 3) := by decide +kernel
theorem ddX6_readNumber_60 : decode cX6_readNumber 60 = .ok (.iaload, 1) := by decide +kernel
theorem ddX6_readNumber_61 : decode cX6_readNumber 61 = .ok (.bipush 48, 2) := by decide +kernel
theorem ddX6_readNumber_63 : decode cX6_readNumber 63 = .ok (.isub, 1) := by decide +kernel
theorem ddX6_readNumber_64 : decode cX6_readNumber 64 = .ok (.iadd, 1) := by decide +kernel
theorem ddX6_readNumber_65 : decode cX6_readNumber 65 = .ok (.putfield 199, 3) := by decide +kernel
theorem ddX6_readNumber_68 : decode cX6_readNumber 68 = .ok (.aload_n 0, 1) := by decide +kernel
theorem ddX6_readNumber_69 : decode cX6_readNumber 69 = .ok (.dup, 1) := by decide +kernel
theorem ddX6_readNumber_70 : decode cX6_readNumber 70 = .ok (.getfield 35, 3) := by decide +kernel
theorem ddX6_readNumber_73 : decode cX6_readNumber 73 = .ok (.iconst 1, 1) := by decide +kernel
theorem ddX6_readNumber_74 : decode cX6_readNumber 74 = .ok (.iadd, 1) := by decide +kernel
theorem ddX6_readNumber_75 : decode cX6_readNumber 75 = .ok (.putfield 35, 3) := by decide +kernel
theorem ddX6_readNumber_78 : decode cX6_readNumber 78 = .ok (.goto (-73), 3) := by decide +kernel
theorem ddX6_readNumber_81 : decode cX6_readNumber 81 = .ok (.aload_n 0, 1) := by decide +kernel
theorem ddX6_readNumber_82 : decode cX6_readNumber 82 = .ok (.getfield 35, 3) := by decide +kernel
theorem ddX6_readNumber_85 : decode cX6_readNumber 85 = .ok (.aload_n 0, 1) := by decide +kernel
theorem ddX6_readNumber_86 : decode cX6_readNumber 86 = .ok (.getfield 32, 3) := by decide +kernel
theorem ddX6_readNumber_89 : decode cX6_readNumber 89 = .ok (.if_icmp .ge 35, 3) := by decide +kernel
theorem ddX6_readNumber_92 : decode cX6_readNumber 92 = .ok (.aload_n 0, 1) := by decide +kernel
theorem ddX6_readNumber_93 : decode cX6_readNumber 93 = .ok (.getfield 22, 3) := by decide +kernel
theorem ddX6_readNumber_96 : decode cX6_readNumber 96 = .ok (.aload_n 0, 1) := by decide +kernel
theorem ddX6_readNumber_97 : decode cX6_readNumber 97 = .ok (.getfield 35, 3) := by decide +kernel
theorem ddX6_readNumber_100 : decode cX6_readNumber 100 = .ok (.iaload, 1) := by decide +kernel
theorem ddX6_readNumber_101 : decode cX6_readNumber 101 = .ok (.bipush 97, 2) := by decide +kernel
theorem ddX6_readNumber_103 : decode cX6_readNumber 103 = .ok (.if_icmp .lt 21, 3) := by decide +kernel
theorem ddX6_readNumber_106 : decode cX6_readNumber 106 = .ok (.aload_n 0, 1) := by decide +kernel
theorem ddX6_readNumber_107 : decode cX6_readNumber 107 = .ok (.getfield 22, 3) := by decide +kernel
theorem ddX6_readNumber_110 : decode cX6_readNumber 110 = .ok (.aload_n 0, 1) := by decide +kernel
theorem ddX6_readNumber_111 : decode cX6_readNumber 111 = .ok (.getfield 35, 3) := by decide +kernel
theorem ddX6_readNumber_114 : decode cX6_readNumber 114 = .ok (.iaload, 1) := by decide +kernel
theorem ddX6_readNumber_115 : decode cX6_readNumber 115 = .ok (.bipush 122, 2) := by decide +kernel
theorem ddX6_readNumber_117 : decode cX6_readNumber 117 = .ok (.if_icmp .gt 7, 3) := by decide +kernel
theorem ddX6_readNumber_120 : decode cX6_readNumber 120 = .ok (.iconst 1, 1) := by decide +kernel
theorem ddX6_readNumber_121 : decode cX6_readNumber 121 = .ok (.goto 4, 3) := by decide +kernel
theorem ddX6_readNumber_124 : decode cX6_readNumber 124 = .ok (.iconst 0, 1) := by decide +kernel
theorem ddX6_readNumber_125 : decode cX6_readNumber 125 = .ok (.istore_n 1, 1) := by decide +kernel
theorem ddX6_readNumber_126 : decode cX6_readNumber 126 = .ok (.aload_n 0, 1) := by decide +kernel
theorem ddX6_readNumber_127 : decode cX6_readNumber 127 = .ok (.aload_n 0, 1) := by decide +kernel
theorem ddX6_readNumber_128 : decode cX6_readNumber 128 = .ok (.getfield 35, 3) := by decide +kernel
theorem ddX6_readNumber_131 : decode cX6_readNumber 131 = .ok (.aload_n 0, 1) := by decide +kernel
theorem ddX6_readNumber_132 : decode cX6_readNumber 132 = .ok (.getfield 212, 3) := by decide +kernel
theorem ddX6_readNumber_135 : decode cX6_readNumber 135 = .ok (.isub, 1) := by decide +kernel
theorem ddX6_readNumber_136 : decode cX6_readNumber 136 = .ok (.iconst 4, 1) := by decide +kernel
theorem ddX6_readNumber_137 : decode cX6_readNumber 137 = .ok (.if_icmp .gt 11, 3) := by decide +kernel
theorem ddX6_readNumber_140 : decode cX6_readNumber 140 = .ok (.iload_n 1, 1) := by decide +kernel
theorem ddX6_readNumber_141 : decode cX6_readNumber 141 = .ok (.ifCond .ne 7, 3) := by decide +kernel
theorem ddX6_readNumber_144 : decode cX6_readNumber 144 = .ok (.iconst 2, 1) := by decide +kernel
theorem ddX6_readNumber_145 : decode cX6_readNumber 145 = .ok (.goto 4, 3) := by decide +kernel
theorem ddX6_readNumber_148 : decode cX6_readNumber 148 = .ok (.iconst 4, 1) := by decide +kernel
theorem ddX6_readNumber_149 : decode cX6_readNumber 149 = .ok (.putfield 47, 3) := by decide +kernel
theorem ddX6_readNumber_152 : decode cX6_readNumber 152 = .ok (.return_, 1) := by decide +kernel
def wq_k_X6_readNumber : List Cond := Cond.code yX6_readNumber cX6_readNumber 2 none :: (([Cond.fieldLink RX6 199 "CrowToll$Reader" "number" "I", Cond.fieldLink RX6 35 "CrowToll$Reader" "at" "I", Cond.fieldLink RX6 32 "CrowToll$Reader" "length" "I", Cond.fieldLink RX6 22 "CrowToll$Reader" "text" "[I", Cond.fieldLink RX6 212 "CrowToll$Reader" "place" "I", Cond.fieldLink RX6 47 "CrowToll$Reader" "kind" "I"] : List Cond) ++ wsX60)
set_option maxHeartbeats 8000000 in
set_option maxRecDepth 100000 in
theorem k_X6_readNumber (l : Launch) (D : va_G) (cy : Nat → ClassId) (ad : Nat → Nat) (g : Nat → va_E) {u0_0 : Value} {u0_1 : Value} {u0_2 : Value} {x0_4 : Int32} {x0_5 : Int32} {x0_6 : Int32} {x0_7 : Int32} {u0_8 : Value} {x0_9 : Int32} {u0_10 : Value} {u0_11 : Value} {c1 : Nat → Int32} (o0 : g 0 = .inr (6, [u0_0, u0_1, u0_2, .ref (ad 1), .int x0_4, .int x0_5, .int x0_6, .int x0_7, u0_8, .int x0_9, u0_10, u0_11])) (a1 : g 1 = .inl (cy 0, 1600, .inl c1)) (b0_4 : zi 0 1600 x0_4) (b0_5 : zi 0 1600 x0_5) (b0_7 : zi 0 1600 x0_7) : cMv l yX6_readNumber wq_k_X6_readNumber { frames := 0, cells := 0, slots := 0, locals := 0 } 2 0 0 0 D cy ad g [.ref (ad 0)] (fun nw lu => ∃ (y0_5 : Int32) (y0_6 : Int32) (y0_9 : Int32), (zi 0 1600 y0_5) ∧ (zi 2 4 y0_6) ∧ (lu = [(0, .inr (6, [u0_0, u0_1, u0_2, .ref (ad 1), .int x0_4, .int y0_5, .int y0_6, .int x0_7, u0_8, .int y0_9, u0_10, u0_11]))])) := by
  refine cM_of (Qc := fun A => cQv (fun nw lu => ∃ (y0_5 : Int32) (y0_6 : Int32) (y0_9 : Int32), (zi 0 1600 y0_5) ∧ (zi 2 4 y0_6) ∧ (lu = [(0, .inr (6, [u0_0, u0_1, u0_2, .ref (ad 1), .int x0_4, .int y0_5, .int y0_6, .int x0_7, u0_8, .int y0_9, u0_10, u0_11]))])) D 2 0 ad g A) (cc := cX6_readNumber) (maxL := 2) (ret := none) (by decide) rfl (Nat.le_of_ble_eq_true rfl) ?_
  intro p e s m below meth c A hC hr hlk hnm hO ls hl
  have hC : CallFix p m c cX6_readNumber 2 s [.ref (ad 0)].toArray wq_k_X6_readNumber RX6 := hC
  obtain ⟨hx, hb, hml, hown, hts⟩ := id hC
  have hl : lv_has ls 2 [(0, .ref (ad 0))] := hl
  have i_X6 : ∀ w ∈ wsX60, w ∈ wq_k_X6_readNumber := fun w h => List.mem_cons_of_mem _ (List.mem_append_right _ h)
  have hO := hO.notes [(0, .inr (6, [u0_0, u0_1, u0_2, .ref (ad 1), .int x0_4, .int x0_5, .int x0_6, .int x0_7, u0_8, .int x0_9, u0_10, u0_11]))] (List.forall_mem_cons.mpr ⟨o0, (fun _ h => absurd h List.not_mem_nil)⟩)
  refine lv_aload_n hx hb ddX6_readNumber_0 rfl (lv_at hl 0 rfl) ?_
  refine lv_iconst (v := 0) hx hb ddX6_readNumber_1 (by decide) ?_
  refine cg_put hC hO 0 (by decide) rfl rfl i_X6 tyX6_ok nmX6 9 (by decide) (List.mem_of_getElem? (i := 1) rfl) rfl rfl rfl (Nat.le_of_ble_eq_true rfl) ddX6_readNumber_2 (fun H locs hO => ?_)
  have hO : cO D cy A s.heap s 2 ad (cup [(0, .inr (6, [u0_0, u0_1, u0_2, .ref (ad 1), .int x0_4, .int x0_5, .int x0_6, .int x0_7, u0_8, .int 0, u0_10, u0_11]))] g) _ _ := hO
  have loop_5_949 : ∀ (d_5_950 : Nat) (v_5_830 : Int32) (v_5_832 : Int32), zi 0 1600 v_5_830 → (1600 + 1 - v_5_830.toInt).toNat < d_5_950 → ∀ (H : Heap) (locs : List Loc), cO D cy A s.heap s 2 ad (cup [(0, .inr (6, [u0_0, u0_1, u0_2, .ref (ad 1), .int x0_4, .int v_5_830, .int x0_6, .int x0_7, u0_8, .int v_5_832, u0_10, u0_11]))] g) H locs → ∀ ls : Array Slot, lv_has ls 2 [(0, .ref (ad 0))] → W p l e { frames := 0, cells := 0, slots := 0, locals := 0 } s m [.ref (ad 0)].toArray below meth c H locs 0 0 (MQ below (cQv (fun nw lu => ∃ (y0_5 : Int32) (y0_6 : Int32) (y0_9 : Int32), (zi 0 1600 y0_5) ∧ (zi 2 4 y0_6) ∧ (lu = [(0, .inr (6, [u0_0, u0_1, u0_2, .ref (ad 1), .int x0_4, .int y0_5, .int y0_6, .int x0_7, u0_8, .int y0_9, u0_10, u0_11]))])) D 2 0 ad g A) [.ref (ad 0)].toArray s 0 0 A) (F0 m 5 ls [])  := by
    intro d_5_950
    induction d_5_950 with
    | zero => intro v_5_830 v_5_832 z_5_831 mu_5_951; exact absurd mu_5_951 (Nat.not_lt_zero _)
    | succ d_5_950 ih_5_952 =>
      intro v_5_830 v_5_832 z_5_831 mu_5_951 H locs hO ls hl
      refine lv_aload_n hx hb ddX6_readNumber_5 rfl (lv_at hl 0 rfl) ?_
      refine cg_get hC hO 0 (by decide) rfl rfl i_X6 5 (by decide) (List.mem_of_getElem? (i := 2) rfl) rfl ddX6_readNumber_6 ?_
      refine lv_aload_n hx hb ddX6_readNumber_9 rfl (lv_at hl 0 rfl) ?_
      refine cg_get hC hO 0 (by decide) rfl rfl i_X6 4 (by decide) (List.mem_of_getElem? (i := 3) rfl) rfl ddX6_readNumber_10 ?_
      have J_81_980 : ∀ (H : Heap) (locs : List Loc), cO D cy A s.heap s 2 ad (cup [(0, .inr (6, [u0_0, u0_1, u0_2, .ref (ad 1), .int x0_4, .int v_5_830, .int x0_6, .int x0_7, u0_8, .int v_5_832, u0_10, u0_11]))] g) H locs → ∀ ls : Array Slot, lv_has ls 2 [(0, .ref (ad 0))] → W p l e { frames := 0, cells := 0, slots := 0, locals := 0 } s m [.ref (ad 0)].toArray below meth c H locs 0 0 (MQ below (cQv (fun nw lu => ∃ (y0_5 : Int32) (y0_6 : Int32) (y0_9 : Int32), (zi 0 1600 y0_5) ∧ (zi 2 4 y0_6) ∧ (lu = [(0, .inr (6, [u0_0, u0_1, u0_2, .ref (ad 1), .int x0_4, .int y0_5, .int y0_6, .int x0_7, u0_8, .int y0_9, u0_10, u0_11]))])) D 2 0 ad g A) [.ref (ad 0)].toArray s 0 0 A) (F0 m 81 ls []) := by
        intro  H locs hO ls hl
        refine lv_aload_n hx hb ddX6_readNumber_81 rfl (lv_at hl 0 rfl) ?_
        refine cg_get hC hO 0 (by decide) rfl rfl i_X6 5 (by decide) (List.mem_of_getElem? (i := 2) rfl) rfl ddX6_readNumber_82 ?_
        refine lv_aload_n hx hb ddX6_readNumber_85 rfl (lv_at hl 0 rfl) ?_
        refine cg_get hC hO 0 (by decide) rfl rfl i_X6 4 (by decide) (List.mem_of_getElem? (i := 3) rfl) rfl ddX6_readNumber_86 ?_
        have J_125_1002 : ∀ (v_125_1000 : Int32), zi 0 1 v_125_1000 → ∀ (H : Heap) (locs : List Loc), cO D cy A s.heap s 2 ad (cup [(0, .inr (6, [u0_0, u0_1, u0_2, .ref (ad 1), .int x0_4, .int v_5_830, .int x0_6, .int x0_7, u0_8, .int v_5_832, u0_10, u0_11]))] g) H locs → ∀ ls : Array Slot, lv_has ls 2 [(0, .ref (ad 0))] → W p l e { frames := 0, cells := 0, slots := 0, locals := 0 } s m [.ref (ad 0)].toArray below meth c H locs 0 0 (MQ below (cQv (fun nw lu => ∃ (y0_5 : Int32) (y0_6 : Int32) (y0_9 : Int32), (zi 0 1600 y0_5) ∧ (zi 2 4 y0_6) ∧ (lu = [(0, .inr (6, [u0_0, u0_1, u0_2, .ref (ad 1), .int x0_4, .int y0_5, .int y0_6, .int x0_7, u0_8, .int y0_9, u0_10, u0_11]))])) D 2 0 ad g A) [.ref (ad 0)].toArray s 0 0 A) (F0 m 125 ls [.int v_125_1000]) := by
          intro v_125_1000 z_125_1001 H locs hO ls hl
          refine lv_istore_n (lv' := [(1, .int v_125_1000), (0, .ref (ad 0))]) hx hb ddX6_readNumber_125 rfl hl (by decide) rfl (fun ls hl => ?_)
          refine lv_aload_n hx hb ddX6_readNumber_126 rfl (lv_at hl 1 rfl) ?_
          refine lv_aload_n hx hb ddX6_readNumber_127 rfl (lv_at hl 1 rfl) ?_
          refine cg_get hC hO 0 (by decide) rfl rfl i_X6 5 (by decide) (List.mem_of_getElem? (i := 2) rfl) rfl ddX6_readNumber_128 ?_
          refine lv_aload_n hx hb ddX6_readNumber_131 rfl (lv_at hl 1 rfl) ?_
          refine cg_get hC hO 0 (by decide) rfl rfl i_X6 7 (by decide) (List.mem_of_getElem? (i := 5) rfl) rfl ddX6_readNumber_132 ?_
          refine lv_isub hx hb ddX6_readNumber_135 ?_
          refine zg_top2 (P := fun v => zi (-1600) 1600 v) (E := fun v => v.toInt = (v_5_830 : Int32).toInt - (x0_7 : Int32).toInt) (zi_sub z_5_831 b0_7 (by decide)) (fun v_135_1003 z_135_1004 q_135_1005 => ?_)
          refine lv_iconst (v := 4) hx hb ddX6_readNumber_136 (by decide) ?_
          have J_149_1018 : ∀ (v_149_1016 : Int32), zi 2 4 v_149_1016 → ∀ (H : Heap) (locs : List Loc), cO D cy A s.heap s 2 ad (cup [(0, .inr (6, [u0_0, u0_1, u0_2, .ref (ad 1), .int x0_4, .int v_5_830, .int x0_6, .int x0_7, u0_8, .int v_5_832, u0_10, u0_11]))] g) H locs → ∀ ls : Array Slot, lv_has ls 2 [(1, .int v_125_1000), (0, .ref (ad 0))] → W p l e { frames := 0, cells := 0, slots := 0, locals := 0 } s m [.ref (ad 0)].toArray below meth c H locs 0 0 (MQ below (cQv (fun nw lu => ∃ (y0_5 : Int32) (y0_6 : Int32) (y0_9 : Int32), (zi 0 1600 y0_5) ∧ (zi 2 4 y0_6) ∧ (lu = [(0, .inr (6, [u0_0, u0_1, u0_2, .ref (ad 1), .int x0_4, .int y0_5, .int y0_6, .int x0_7, u0_8, .int y0_9, u0_10, u0_11]))])) D 2 0 ad g A) [.ref (ad 0)].toArray s 0 0 A) (F0 m 149 ls [.int v_149_1016, .ref (ad 0)]) := by
            intro v_149_1016 z_149_1017 H locs hO ls hl
            refine cg_put hC hO 0 (by decide) rfl rfl i_X6 tyX6_ok nmX6 6 (by decide) (List.mem_of_getElem? (i := 6) rfl) rfl rfl rfl (Nat.le_of_ble_eq_true rfl) ddX6_readNumber_149 (fun H locs hO => ?_)
            have hO : cO D cy A s.heap s 2 ad (cup [(0, .inr (6, [u0_0, u0_1, u0_2, .ref (ad 1), .int x0_4, .int v_5_830, .int v_149_1016, .int x0_7, u0_8, .int v_5_832, u0_10, u0_11]))] g) _ _ := hO
            exact cg_vret (nw := fun _ => 0) hC hr hlk hO.same (Nat.le_of_ble_eq_true rfl) (Nat.le_of_ble_eq_true rfl) (⟨v_5_830, v_149_1016, v_5_832, z_5_831, z_149_1017, rfl⟩) ddX6_readNumber_152
          refine lv_icmp_gt (tgt := 148) hx hb ddX6_readNumber_137 (by decide) (fun h_137_1006 => ?_) (fun h_137_1006 => ?_)
          · have q_137_1019 := zr_lt h_137_1006
            have z_137_1020 : zi 5 1600 v_135_1003 := zd_lt q_137_1019 (zi_k (a := 4) (b := 4) (x := 4) rfl) z_135_1004 (by decide)
            refine lv_iconst (v := 4) hx hb ddX6_readNumber_148 (by decide) ?_
            exact J_149_1018 4 (zi_k (a := 2) (b := 4) (x := 4) rfl) _ _ hO ls (lv_sub hl [0, 1] rfl)
          · have q_137_1021 := zr_nlt h_137_1006
            have z_137_1022 : zi (-1600) 4 v_135_1003 := zu_le q_137_1021 z_135_1004 (zi_k (a := 4) (b := 4) (x := 4) rfl) (by decide)
            refine lv_iload_n hx hb ddX6_readNumber_140 rfl (lv_at hl 0 rfl) ?_
            refine lv_if_ne (tgt := 148) hx hb ddX6_readNumber_141 (by decide) (fun h_141_1023 => ?_) (fun h_141_1023 => ?_)
            · have q_141_1024 := zr_ne h_141_1023
              have z_141_1025 : zi 1 1 v_125_1000 := zn_lo q_141_1024 z_125_1001 (zi_k (a := 0) (b := 0) (x := 0) rfl) (by decide)
              refine lv_iconst (v := 4) hx hb ddX6_readNumber_148 (by decide) ?_
              exact J_149_1018 4 (zi_k (a := 2) (b := 4) (x := 4) rfl) _ _ hO ls (lv_sub hl [0, 1] rfl)
            · have q_141_1026 := zr_eq h_141_1023
              have z_141_1027 : zi 0 0 v_125_1000 := ze_eq q_141_1026 z_125_1001 (zi_k (a := 0) (b := 0) (x := 0) rfl)
              refine lv_iconst (v := 2) hx hb ddX6_readNumber_144 (by decide) ?_
              refine lv_goto (tgt := 149) hx hb ddX6_readNumber_145 (by decide) ?_
              exact J_149_1018 2 (zi_k (a := 2) (b := 4) (x := 2) rfl) _ _ hO ls (lv_sub hl [0, 1] rfl)
        refine lv_icmp_ge (tgt := 124) hx hb ddX6_readNumber_89 (by decide) (fun h_89_981 => ?_) (fun h_89_981 => ?_)
        · have q_89_1028 := zr_le h_89_981
          refine lv_iconst (v := 0) hx hb ddX6_readNumber_124 (by decide) ?_
          exact J_125_1002 0 (zi_k (a := 0) (b := 1) (x := 0) rfl) _ _ hO ls (lv_sub hl [0] rfl)
        · have q_89_1029 := zr_nle h_89_981
          have z_89_1030 : zi 0 1599 v_5_830 := zu_lt q_89_1029 z_5_831 b0_4 (by decide)
          have z_89_1031 : zi 1 1600 x0_4 := zd_lt q_89_1029 z_5_831 b0_4 (by decide)
          refine lv_aload_n hx hb ddX6_readNumber_92 rfl (lv_at hl 0 rfl) ?_
          refine cg_get hC hO 0 (by decide) rfl rfl i_X6 3 (by decide) (List.mem_of_getElem? (i := 4) rfl) rfl ddX6_readNumber_93 ?_
          refine lv_aload_n hx hb ddX6_readNumber_96 rfl (lv_at hl 0 rfl) ?_
          refine cg_get hC hO 0 (by decide) rfl rfl i_X6 5 (by decide) (List.mem_of_getElem? (i := 2) rfl) rfl ddX6_readNumber_97 ?_
          refine zg_iald hC hO 1 (by decide) a1 (za_all _) (zi_in z_89_1030 (by decide)) ddX6_readNumber_100 (fun v_100_1032 z_100_1033 => ?_)
          refine lv_bipush (v := 97) hx hb ddX6_readNumber_101 (by decide) ?_
          refine lv_icmp_lt (tgt := 124) hx hb ddX6_readNumber_103 (by decide) (fun h_103_1034 => ?_) (fun h_103_1034 => ?_)
          · have q_103_1035 := zr_lt h_103_1034
            have z_103_1036 : zi (-2147483648) 96 v_100_1032 := zu_lt q_103_1035 z_100_1033 (zi_k (a := 97) (b := 97) (x := 97) rfl) (by decide)
            refine lv_iconst (v := 0) hx hb ddX6_readNumber_124 (by decide) ?_
            exact J_125_1002 0 (zi_k (a := 0) (b := 1) (x := 0) rfl) _ _ hO ls (lv_sub hl [0] rfl)
          · have q_103_1037 := zr_nlt h_103_1034
            have z_103_1038 : zi 97 2147483647 v_100_1032 := zd_le q_103_1037 (zi_k (a := 97) (b := 97) (x := 97) rfl) z_100_1033 (by decide)
            refine lv_aload_n hx hb ddX6_readNumber_106 rfl (lv_at hl 0 rfl) ?_
            refine cg_get hC hO 0 (by decide) rfl rfl i_X6 3 (by decide) (List.mem_of_getElem? (i := 4) rfl) rfl ddX6_readNumber_107 ?_
            refine lv_aload_n hx hb ddX6_readNumber_110 rfl (lv_at hl 0 rfl) ?_
            refine cg_get hC hO 0 (by decide) rfl rfl i_X6 5 (by decide) (List.mem_of_getElem? (i := 2) rfl) rfl ddX6_readNumber_111 ?_
            refine zg_iald hC hO 1 (by decide) a1 (za_all _) (zi_in z_89_1030 (by decide)) ddX6_readNumber_114 (fun v_114_1039 z_114_1040 => ?_)
            refine lv_bipush (v := 122) hx hb ddX6_readNumber_115 (by decide) ?_
            refine lv_icmp_gt (tgt := 124) hx hb ddX6_readNumber_117 (by decide) (fun h_117_1041 => ?_) (fun h_117_1041 => ?_)
            · have q_117_1042 := zr_lt h_117_1041
              have z_117_1043 : zi 123 2147483647 v_114_1039 := zd_lt q_117_1042 (zi_k (a := 122) (b := 122) (x := 122) rfl) z_114_1040 (by decide)
              refine lv_iconst (v := 0) hx hb ddX6_readNumber_124 (by decide) ?_
              exact J_125_1002 0 (zi_k (a := 0) (b := 1) (x := 0) rfl) _ _ hO ls (lv_sub hl [0] rfl)
            · have q_117_1044 := zr_nlt h_117_1041
              have z_117_1045 : zi (-2147483648) 122 v_114_1039 := zu_le q_117_1044 z_114_1040 (zi_k (a := 122) (b := 122) (x := 122) rfl) (by decide)
              refine lv_iconst (v := 1) hx hb ddX6_readNumber_120 (by decide) ?_
              refine lv_goto (tgt := 125) hx hb ddX6_readNumber_121 (by decide) ?_
              exact J_125_1002 1 (zi_k (a := 0) (b := 1) (x := 1) rfl) _ _ hO ls (lv_sub hl [0] rfl)
      refine lv_icmp_ge (tgt := 81) hx hb ddX6_readNumber_13 (by decide) (fun h_13_953 => ?_) (fun h_13_953 => ?_)
      · have q_13_1046 := zr_le h_13_953
        exact J_81_980  _ _ hO ls (lv_sub hl [0] rfl)
      · have q_13_1047 := zr_nle h_13_953
        have z_13_1048 : zi 0 1599 v_5_830 := zu_lt q_13_1047 z_5_831 b0_4 (by decide)
        have z_13_1049 : zi 1 1600 x0_4 := zd_lt q_13_1047 z_5_831 b0_4 (by decide)
        refine lv_aload_n hx hb ddX6_readNumber_16 rfl (lv_at hl 0 rfl) ?_
        refine cg_get hC hO 0 (by decide) rfl rfl i_X6 3 (by decide) (List.mem_of_getElem? (i := 4) rfl) rfl ddX6_readNumber_17 ?_
        refine lv_aload_n hx hb ddX6_readNumber_20 rfl (lv_at hl 0 rfl) ?_
        refine cg_get hC hO 0 (by decide) rfl rfl i_X6 5 (by decide) (List.mem_of_getElem? (i := 2) rfl) rfl ddX6_readNumber_21 ?_
        refine zg_iald hC hO 1 (by decide) a1 (za_all _) (zi_in z_13_1048 (by decide)) ddX6_readNumber_24 (fun v_24_1050 z_24_1051 => ?_)
        refine lv_bipush (v := 48) hx hb ddX6_readNumber_25 (by decide) ?_
        refine lv_icmp_lt (tgt := 81) hx hb ddX6_readNumber_27 (by decide) (fun h_27_1052 => ?_) (fun h_27_1052 => ?_)
        · have q_27_1053 := zr_lt h_27_1052
          have z_27_1054 : zi (-2147483648) 47 v_24_1050 := zu_lt q_27_1053 z_24_1051 (zi_k (a := 48) (b := 48) (x := 48) rfl) (by decide)
          exact J_81_980  _ _ hO ls (lv_sub hl [0] rfl)
        · have q_27_1055 := zr_nlt h_27_1052
          have z_27_1056 : zi 48 2147483647 v_24_1050 := zd_le q_27_1055 (zi_k (a := 48) (b := 48) (x := 48) rfl) z_24_1051 (by decide)
          refine lv_aload_n hx hb ddX6_readNumber_30 rfl (lv_at hl 0 rfl) ?_
          refine cg_get hC hO 0 (by decide) rfl rfl i_X6 3 (by decide) (List.mem_of_getElem? (i := 4) rfl) rfl ddX6_readNumber_31 ?_
          refine lv_aload_n hx hb ddX6_readNumber_34 rfl (lv_at hl 0 rfl) ?_
          refine cg_get hC hO 0 (by decide) rfl rfl i_X6 5 (by decide) (List.mem_of_getElem? (i := 2) rfl) rfl ddX6_readNumber_35 ?_
          refine zg_iald hC hO 1 (by decide) a1 (za_all _) (zi_in z_13_1048 (by decide)) ddX6_readNumber_38 (fun v_38_1057 z_38_1058 => ?_)
          refine lv_bipush (v := 57) hx hb ddX6_readNumber_39 (by decide) ?_
          refine lv_icmp_gt (tgt := 81) hx hb ddX6_readNumber_41 (by decide) (fun h_41_1059 => ?_) (fun h_41_1059 => ?_)
          · have q_41_1060 := zr_lt h_41_1059
            have z_41_1061 : zi 58 2147483647 v_38_1057 := zd_lt q_41_1060 (zi_k (a := 57) (b := 57) (x := 57) rfl) z_38_1058 (by decide)
            exact J_81_980  _ _ hO ls (lv_sub hl [0] rfl)
          · have q_41_1062 := zr_nlt h_41_1059
            have z_41_1063 : zi (-2147483648) 57 v_38_1057 := zu_le q_41_1062 z_38_1058 (zi_k (a := 57) (b := 57) (x := 57) rfl) (by decide)
            refine lv_aload_n hx hb ddX6_readNumber_44 rfl (lv_at hl 0 rfl) ?_
            refine lv_aload_n hx hb ddX6_readNumber_45 rfl (lv_at hl 0 rfl) ?_
            refine cg_get hC hO 0 (by decide) rfl rfl i_X6 9 (by decide) (List.mem_of_getElem? (i := 1) rfl) rfl ddX6_readNumber_46 ?_
            refine lv_bipush (v := 10) hx hb ddX6_readNumber_49 (by decide) ?_
            refine lv_imul hx hb ddX6_readNumber_51 ?_
            refine lv_topi (fun v_51_1064 _ => ?_)
            refine lv_aload_n hx hb ddX6_readNumber_52 rfl (lv_at hl 0 rfl) ?_
            refine cg_get hC hO 0 (by decide) rfl rfl i_X6 3 (by decide) (List.mem_of_getElem? (i := 4) rfl) rfl ddX6_readNumber_53 ?_
            refine lv_aload_n hx hb ddX6_readNumber_56 rfl (lv_at hl 0 rfl) ?_
            refine cg_get hC hO 0 (by decide) rfl rfl i_X6 5 (by decide) (List.mem_of_getElem? (i := 2) rfl) rfl ddX6_readNumber_57 ?_
            refine zg_iald hC hO 1 (by decide) a1 (za_all _) (zi_in z_13_1048 (by decide)) ddX6_readNumber_60 (fun v_60_1065 z_60_1066 => ?_)
            refine lv_bipush (v := 48) hx hb ddX6_readNumber_61 (by decide) ?_
            refine lv_isub hx hb ddX6_readNumber_63 ?_
            refine lv_topi (fun v_63_1067 _ => ?_)
            refine lv_iadd hx hb ddX6_readNumber_64 ?_
            refine lv_topi (fun v_64_1068 _ => ?_)
            refine cg_put hC hO 0 (by decide) rfl rfl i_X6 tyX6_ok nmX6 9 (by decide) (List.mem_of_getElem? (i := 1) rfl) rfl rfl rfl (Nat.le_of_ble_eq_true rfl) ddX6_readNumber_65 (fun H locs hO => ?_)
            have hO : cO D cy A s.heap s 2 ad (cup [(0, .inr (6, [u0_0, u0_1, u0_2, .ref (ad 1), .int x0_4, .int v_5_830, .int x0_6, .int x0_7, u0_8, .int v_64_1068, u0_10, u0_11]))] g) _ _ := hO
            refine lv_aload_n hx hb ddX6_readNumber_68 rfl (lv_at hl 0 rfl) ?_
            refine lv_dup hx hb ddX6_readNumber_69 rfl ?_
            refine cg_get hC hO 0 (by decide) rfl rfl i_X6 5 (by decide) (List.mem_of_getElem? (i := 2) rfl) rfl ddX6_readNumber_70 ?_
            refine lv_iconst (v := 1) hx hb ddX6_readNumber_73 (by decide) ?_
            refine lv_iadd hx hb ddX6_readNumber_74 ?_
            refine zg_top2 (P := fun v => zi 1 1600 v) (E := fun v => v.toInt = v_5_830.toInt + 1) (zi_addk z_13_1048 (n := 1) (by decide) (by decide)) (fun v_74_1069 z_74_1070 q_74_1071 => ?_)
            refine cg_put hC hO 0 (by decide) rfl rfl i_X6 tyX6_ok nmX6 5 (by decide) (List.mem_of_getElem? (i := 2) rfl) rfl rfl rfl (Nat.le_of_ble_eq_true rfl) ddX6_readNumber_75 (fun H locs hO => ?_)
            have hO : cO D cy A s.heap s 2 ad (cup [(0, .inr (6, [u0_0, u0_1, u0_2, .ref (ad 1), .int x0_4, .int v_74_1069, .int x0_6, .int x0_7, u0_8, .int v_64_1068, u0_10, u0_11]))] g) _ _ := hO
            refine lv_goto (tgt := 5) hx hb ddX6_readNumber_78 (by decide) ?_
            exact ih_5_952 v_74_1069 v_64_1068 (zi_w (c := 0) (d := 1600) z_74_1070 (by decide)) (zm_up q_74_1071 ((zi_w (c := 0) (d := 1600) z_74_1070 (by decide))).2 (by decide) mu_5_951) _ _ hO ls (lv_sub hl [0] rfl)
  exact loop_5_949 ((1600 + 1 - (x0_5 : Int32).toInt).toNat + 1) x0_5 0 b0_5 (Nat.lt_succ_self _) _ _ hO ls (lv_sub hl [0] rfl)

theorem ddX6_next_0 : decode cX6_next 0 = .ok (.aload_n 0, 1) := by decide +kernel
theorem ddX6_next_1 : decode cX6_next 1 = .ok (.getfield 35, 3) := by decide +kernel
theorem ddX6_next_4 : decode cX6_next 4 = .ok (.aload_n 0, 1) := by decide +kernel
theorem ddX6_next_5 : decode cX6_next 5 = .ok (.getfield 32, 3) := by decide +kernel
theorem ddX6_next_8 : decode cX6_next 8 = .ok (.if_icmp .ge 44, 3) := by decide +kernel
theorem ddX6_next_11 : decode cX6_next 11 = .ok (.aload_n 0, 1) := by decide +kernel
theorem ddX6_next_12 : decode cX6_next 12 = .ok (.getfield 22, 3) := by decide +kernel
theorem ddX6_next_15 : decode cX6_next 15 = .ok (.aload_n 0, 1) := by decide +kernel
theorem ddX6_next_16 : decode cX6_next 16 = .ok (.getfield 35, 3) := by decide +kernel
theorem ddX6_next_19 : decode cX6_next 19 = .ok (.iaload, 1) := by decide +kernel
theorem ddX6_next_20 : decode cX6_next 20 = .ok (.bipush 32, 2) := by decide +kernel
theorem ddX6_next_22 : decode cX6_next 22 = .ok (.if_icmp .eq 17, 3) := by decide +kernel
theorem ddX6_next_25 : decode cX6_next 25 = .ok (.aload_n 0, 1) := by decide +kernel
theorem ddX6_next_26 : decode cX6_next 26 = .ok (.getfield 22, 3) := by decide +kernel
theorem ddX6_next_29 : decode cX6_next 29 = .ok (.aload_n 0, 1) := by decide +kernel
theorem ddX6_next_30 : decode cX6_next 30 = .ok (.getfield 35, 3) := by decide +kernel
theorem ddX6_next_33 : decode cX6_next 33 = .ok (.iaload, 1) := by decide +kernel
theorem ddX6_next_34 : decode cX6_next 34 = .ok (.bipush 10, 2) := by decide +kernel
theorem ddX6_next_36 : decode cX6_next 36 = .ok (.if_icmp .ne 16, 3) := by decide +kernel
theorem ddX6_next_39 : decode cX6_next 39 = .ok (.aload_n 0, 1) := by decide +kernel
theorem ddX6_next_40 : decode cX6_next 40 = .ok (.dup, 1) := by decide +kernel
theorem ddX6_next_41 : decode cX6_next 41 = .ok (.getfield 35, 3) := by decide +kernel
theorem ddX6_next_44 : decode cX6_next 44 = .ok (.iconst 1, 1) := by decide +kernel
theorem ddX6_next_45 : decode cX6_next 45 = .ok (.iadd, 1) := by decide +kernel
theorem ddX6_next_46 : decode cX6_next 46 = .ok (.putfield 35, 3) := by decide +kernel
theorem ddX6_next_49 : decode cX6_next 49 = .ok (.goto (-49), 3) := by decide +kernel
theorem ddX6_next_52 : decode cX6_next 52 = .ok (.aload_n 0, 1) := by decide +kernel
theorem ddX6_next_53 : decode cX6_next 53 = .ok (.aload_n 0, 1) := by decide +kernel
theorem ddX6_next_54 : decode cX6_next 54 = .ok (.getfield 35, 3) := by decide +kernel
theorem ddX6_next_57 : decode cX6_next 57 = .ok (.putfield 212, 3) := by decide +kernel
theorem ddX6_next_60 : decode cX6_next 60 = .ok (.aload_n 0, 1) := by decide +kernel
theorem ddX6_next_61 : decode cX6_next 61 = .ok (.getfield 35, 3) := by decide +kernel
theorem ddX6_next_64 : decode cX6_next 64 = .ok (.aload_n 0, 1) := by decide +kernel
theorem ddX6_next_65 : decode cX6_next 65 = .ok (.getfield 32, 3) := by decide +kernel
theorem ddX6_next_68 : decode cX6_next 68 = .ok (.if_icmp .lt 11, 3) := by decide +kernel
theorem ddX6_next_71 : decode cX6_next 71 = .ok (.aload_n 0, 1) := by decide +kernel
theorem ddX6_next_72 : decode cX6_next 72 = .ok (.iconst 0, 1) := by decide +kernel
theorem ddX6_next_73 : decode cX6_next 73 = .ok (.putfield 47, 3) := by decide +kernel
theorem ddX6_next_76 : decode cX6_next 76 = .ok (.goto 118, 3) := by decide +kernel
theorem ddX6_next_79 : decode cX6_next 79 = .ok (.aload_n 0, 1) := by decide +kernel
theorem ddX6_next_80 : decode cX6_next 80 = .ok (.getfield 22, 3) := by decide +kernel
theorem ddX6_next_83 : decode cX6_next 83 = .ok (.aload_n 0, 1) := by decide +kernel
theorem ddX6_next_84 : decode cX6_next 84 = .ok (.getfield 35, 3) := by decide +kernel
theorem ddX6_next_87 : decode cX6_next 87 = .ok (.iaload, 1) := by decide +kernel
theorem ddX6_next_88 : decode cX6_next 88 = .ok (.bipush 97, 2) := by decide +kernel
theorem ddX6_next_90 : decode cX6_next 90 = .ok (.if_icmp .lt 24, 3) := by decide +kernel
theorem ddX6_next_93 : decode cX6_next 93 = .ok (.aload_n 0, 1) := by decide +kernel
theorem ddX6_next_94 : decode cX6_next 94 = .ok (.getfield 22, 3) := by decide +kernel
theorem ddX6_next_97 : decode cX6_next 97 = .ok (.aload_n 0, 1) := by decide +kernel
theorem ddX6_next_98 : decode cX6_next 98 = .ok (.getfield 35, 3) := by decide +kernel
theorem ddX6_next_101 : decode cX6_next 101 = .ok (.iaload, 1) := by decide +kernel
theorem ddX6_next_102 : decode cX6_next 102 = .ok (.bipush 122, 2) := by decide +kernel
theorem ddX6_next_104 : decode cX6_next 104 = .ok (.if_icmp .gt 10, 3) := by decide +kernel
theorem ddX6_next_107 : decode cX6_next 107 = .ok (.aload_n 0, 1) := by decide +kernel
theorem ddX6_next_108 : decode cX6_next 108 = .ok (.invokevirtual 230, 3) := by decide +kernel
theorem ddX6_next_111 : decode cX6_next 111 = .ok (.goto 83, 3) := by decide +kernel
theorem ddX6_next_114 : decode cX6_next 114 = .ok (.aload_n 0, 1) := by decide +kernel
theorem ddX6_next_115 : decode cX6_next 115 = .ok (.getfield 22, 3) := by decide +kernel
theorem ddX6_next_118 : decode cX6_next 118 = .ok (.aload_n 0, 1) := by decide +kernel
theorem ddX6_next_119 : decode cX6_next 119 = .ok (.getfield 35, 3) := by decide +kernel
theorem ddX6_next_122 : decode cX6_next 122 = .ok (.iaload, 1) := by decide +kernel
theorem ddX6_next_123 : decode cX6_next 123 = .ok (.bipush 48, 2) := by decide +kernel
theorem ddX6_next_125 : decode cX6_next 125 = .ok (.if_icmp .lt 24, 3) := by decide +kernel
theorem ddX6_next_128 : decode cX6_next 128 = .ok (.aload_n 0, 1) := by decide +kernel
theorem ddX6_next_129 : decode cX6_next 129 = .ok (.getfield 22, 3) := by decide +kernel
theorem ddX6_next_132 : decode cX6_next 132 = .ok (.aload_n 0, 1) := by decide +kernel
theorem ddX6_next_133 : decode cX6_next 133 = .ok (.getfield 35, 3) := by decide +kernel
theorem ddX6_next_136 : decode cX6_next 136 = .ok (.iaload, 1) := by decide +kernel
theorem ddX6_next_137 : decode cX6_next 137 = .ok (.bipush 57, 2) := by decide +kernel
theorem ddX6_next_139 : decode cX6_next 139 = .ok (.if_icmp .gt 10, 3) := by decide +kernel
theorem ddX6_next_142 : decode cX6_next 142 = .ok (.aload_n 0, 1) := by decide +kernel
theorem ddX6_next_143 : decode cX6_next 143 = .ok (.invokevirtual 233, 3) := by decide +kernel
theorem ddX6_next_146 : decode cX6_next 146 = .ok (.goto 48, 3) := by decide +kernel
theorem ddX6_next_149 : decode cX6_next 149 = .ok (.aload_n 0, 1) := by decide +kernel
theorem ddX6_next_150 : decode cX6_next 150 = .ok (.aload_n 0, 1) := by decide +kernel
theorem ddX6_next_151 : decode cX6_next 151 = .ok (.getfield 22, 3) := by decide +kernel
theorem ddX6_next_154 : decode cX6_next 154 = .ok (.aload_n 0, 1) := by decide +kernel
theorem ddX6_next_155 : decode cX6_next 155 = .ok (.getfield 35, 3) := by decide +kernel
theorem ddX6_next_158 : decode cX6_next 158 = .ok (.iaload, 1) := by decide +kernel
theorem ddX6_next_159 : decode cX6_next 159 = .ok (.putfield 197, 3) := by decide +kernel
theorem ddX6_next_162 : decode cX6_next 162 = .ok (.aload_n 0, 1) := by decide +kernel
theorem ddX6_next_163 : decode cX6_next 163 = .ok (.ldc 236, 2) := by decide +kernel
theorem ddX6_next_165 : decode cX6_next 165 = .ok (.aload_n 0, 1) := by decide +kernel
theorem ddX6_next_166 : decode cX6_next 166 = .ok (.getfield 197, 3) := by decide +kernel
theorem ddX6_next_169 : decode cX6_next 169 = .ok (.i2c, 1) := by decide +kernel
theorem ddX6_next_170 : decode cX6_next 170 = .ok (.invokevirtual 238, 3) := by decide +kernel
theorem ddX6_next_173 : decode cX6_next 173 = .ok (.ifCond .lt 7, 3) := by decide +kernel
theorem ddX6_next_176 : decode cX6_next 176 = .ok (.iconst 3, 1) := by decide +kernel
theorem ddX6_next_177 : decode cX6_next 177 = .ok (.goto 4, 3) := by decide +kernel
theorem ddX6_next_180 : decode cX6_next 180 = .ok (.iconst 4, 1) := by decide +kernel
theorem ddX6_next_181 : decode cX6_next 181 = .ok (.putfield 47, 3) := by decide +kernel
theorem ddX6_next_184 : decode cX6_next 184 = .ok (.aload_n 0, 1) := by decide +kernel
theorem ddX6_next_185 : decode cX6_next 185 = .ok (.dup, 1) := by decide +kernel
theorem ddX6_next_186 : decode cX6_next 186 = .ok (.getfield 35, 3) := by decide +kernel
theorem ddX6_next_189 : decode cX6_next 189 = .ok (.iconst 1, 1) := by decide +kernel
theorem ddX6_next_190 : decode cX6_next 190 = .ok (.iadd, 1) := by decide +kernel
theorem ddX6_next_191 : decode cX6_next 191 = .ok (.putfield 35, 3) := by decide +kernel
theorem ddX6_next_194 : decode cX6_next 194 = .ok (.return_, 1) := by decide +kernel
def wq_k_X6_next : List Cond := Cond.code yX6_next cX6_next 1 none :: (([Cond.fieldLink RX6 35 "CrowToll$Reader" "at" "I", Cond.fieldLink RX6 32 "CrowToll$Reader" "length" "I", Cond.fieldLink RX6 22 "CrowToll$Reader" "text" "[I", Cond.fieldLink RX6 212 "CrowToll$Reader" "place" "I", Cond.fieldLink RX6 197 "CrowToll$Reader" "sign" "I", Cond.methodLink RX6 238 yJ0_indexOf_0f7a4, Cond.instanceMethod yJ0_indexOf_0f7a4, Cond.selects RJ0 yJ0_indexOf_0f7a4 yJ0_indexOf_0f7a4, Cond.initialized RJ0, Cond.code yJ0_indexOf_0f7a4 cJ0_indexOf_0f7a4 2 (some .int), Cond.methodLink RJ0 633 yJ0_indexOf_7cf53, Cond.instanceMethod yJ0_indexOf_7cf53, Cond.selects RJ0 yJ0_indexOf_7cf53 yJ0_indexOf_7cf53, Cond.code yJ0_indexOf_7cf53 cJ0_indexOf_7cf53 3 (some .int), Cond.methodLink RJ0 492 yJ0_isLatin1_aae02, Cond.instanceMethod yJ0_isLatin1_aae02, Cond.selects RJ0 yJ0_isLatin1_aae02 yJ0_isLatin1_aae02, Cond.code yJ0_isLatin1_aae02 cJ0_isLatin1_aae02 1 (some .boolean), Cond.fieldLink RJ0 38 "java/lang/String" "COMPACT_STRINGS" "Z", Cond.fieldLink RJ0 15 "java/lang/String" "coder" "B", Cond.fieldLink RJ0 9 "java/lang/String" "value" "[B", Cond.methodLink RJ0 505 yJ0_length_8abf5, Cond.instanceMethod yJ0_length_8abf5, Cond.selects RJ0 yJ0_length_8abf5 yJ0_length_8abf5, Cond.code yJ0_length_8abf5 cJ0_length_8abf5 1 (some .int), Cond.methodLink RJ0 335 yJ0_coder_7d493, Cond.instanceMethod yJ0_coder_7d493, Cond.selects RJ0 yJ0_coder_7d493 yJ0_coder_7d493, Cond.code yJ0_coder_7d493 cJ0_coder_7d493 1 (some .byte), Cond.methodLink RJ0 637 yJ1_indexOf_4cfef, Cond.static yJ1_indexOf_4cfef, Cond.initialized RJ1, Cond.code yJ1_indexOf_4cfef cJ1_indexOf_4cfef 4 (some .int), Cond.methodLink RJ1 88 yJ1_canEncode_9a6ad, Cond.static yJ1_canEncode_9a6ad, Cond.code yJ1_canEncode_9a6ad cJ1_canEncode_9a6ad 1 (some .boolean), Cond.methodLink RJ1 92 Lib.Math.max.name, Cond.static Lib.Math.max.name, Cond.initialized "java/lang/Math", Cond.code Lib.Math.max.name Lib.Math.max.code 2 (some .int), Cond.methodLink RJ1 38 Lib.Math.min.name, Cond.static Lib.Math.min.name, Cond.code Lib.Math.min.name Lib.Math.min.code 2 (some .int), Cond.methodLink RJ1 95 yJ1_indexOfChar_4cfef, Cond.static yJ1_indexOfChar_4cfef, Cond.code yJ1_indexOfChar_4cfef cJ1_indexOfChar_4cfef 6 (some .int), Cond.fieldLink RX6 47 "CrowToll$Reader" "kind" "I", Cond.methodLink RX6 233 yX6_readNumber, Cond.instanceMethod yX6_readNumber, Cond.selects RX6 yX6_readNumber yX6_readNumber, Cond.initialized RX6, Cond.code yX6_readNumber cX6_readNumber 2 none, Cond.fieldLink RX6 199 "CrowToll$Reader" "number" "I", Cond.methodLink RX6 230 yX6_readWord, Cond.instanceMethod yX6_readWord, Cond.selects RX6 yX6_readWord yX6_readWord, Cond.code yX6_readWord cX6_readWord 1 none, Cond.fieldLink RX6 128 "CrowToll$Reader" "name" "J", Cond.constantLong RX6 241 (32), Cond.fieldLink RX6 218 "CrowToll$Reader" "size" "I"] : List Cond) ++ wsX60)
set_option maxRecDepth 20000 in
theorem gr_k_X6_next_k_J0_indexOf_0f7a4 : GoodIn wq_k_X6_next wq_k_J0_indexOf_0f7a4 := List.forall_mem_cons.mpr ⟨⟨(List.mem_of_getElem? (i := 10) rfl), good_of_word rfl⟩, List.forall_mem_cons.mpr ⟨⟨(List.mem_of_getElem? (i := 11) rfl), good_of_word rfl⟩, List.forall_mem_cons.mpr ⟨⟨(List.mem_of_getElem? (i := 12) rfl), good_of_word rfl⟩, List.forall_mem_cons.mpr ⟨⟨(List.mem_of_getElem? (i := 13) rfl), good_of_word rfl⟩, List.forall_mem_cons.mpr ⟨⟨(List.mem_of_getElem? (i := 9) rfl), good_of_word rfl⟩, List.forall_mem_cons.mpr ⟨⟨(List.mem_of_getElem? (i := 14) rfl), good_of_word rfl⟩, List.forall_mem_cons.mpr ⟨⟨(List.mem_of_getElem? (i := 15) rfl), good_of_word rfl⟩, List.forall_mem_cons.mpr ⟨⟨(List.mem_of_getElem? (i := 16) rfl), good_of_word rfl⟩, List.forall_mem_cons.mpr ⟨⟨(List.mem_of_getElem? (i := 17) rfl), good_of_word rfl⟩, List.forall_mem_cons.mpr ⟨⟨(List.mem_of_getElem? (i := 18) rfl), good_of_word rfl⟩, List.forall_mem_cons.mpr ⟨⟨(List.mem_of_getElem? (i := 19) rfl), good_of_word rfl⟩, List.forall_mem_cons.mpr ⟨⟨(List.mem_of_getElem? (i := 20) rfl), good_of_word rfl⟩, List.forall_mem_cons.mpr ⟨⟨(List.mem_of_getElem? (i := 21) rfl), good_of_word rfl⟩, List.forall_mem_cons.mpr ⟨⟨(List.mem_of_getElem? (i := 22) rfl), good_of_word rfl⟩, List.forall_mem_cons.mpr ⟨⟨(List.mem_of_getElem? (i := 23) rfl), good_of_word rfl⟩, List.forall_mem_cons.mpr ⟨⟨(List.mem_of_getElem? (i := 24) rfl), good_of_word rfl⟩, List.forall_mem_cons.mpr ⟨⟨(List.mem_of_getElem? (i := 25) rfl), good_of_word rfl⟩, List.forall_mem_cons.mpr ⟨⟨(List.mem_of_getElem? (i := 26) rfl), good_of_word rfl⟩, List.forall_mem_cons.mpr ⟨⟨(List.mem_of_getElem? (i := 27) rfl), good_of_word rfl⟩, List.forall_mem_cons.mpr ⟨⟨(List.mem_of_getElem? (i := 28) rfl), good_of_word rfl⟩, List.forall_mem_cons.mpr ⟨⟨(List.mem_of_getElem? (i := 29) rfl), good_of_word rfl⟩, List.forall_mem_cons.mpr ⟨⟨(List.mem_of_getElem? (i := 30) rfl), good_of_word rfl⟩, List.forall_mem_cons.mpr ⟨⟨(List.mem_of_getElem? (i := 31) rfl), good_of_word rfl⟩, List.forall_mem_cons.mpr ⟨⟨(List.mem_of_getElem? (i := 32) rfl), good_of_word rfl⟩, List.forall_mem_cons.mpr ⟨⟨(List.mem_of_getElem? (i := 33) rfl), good_of_word rfl⟩, List.forall_mem_cons.mpr ⟨⟨(List.mem_of_getElem? (i := 34) rfl), good_of_word rfl⟩, List.forall_mem_cons.mpr ⟨⟨(List.mem_of_getElem? (i := 35) rfl), good_of_word rfl⟩, List.forall_mem_cons.mpr ⟨⟨(List.mem_of_getElem? (i := 36) rfl), good_of_word rfl⟩, List.forall_mem_cons.mpr ⟨⟨(List.mem_of_getElem? (i := 37) rfl), good_of_word rfl⟩, List.forall_mem_cons.mpr ⟨⟨(List.mem_of_getElem? (i := 38) rfl), good_of_word rfl⟩, List.forall_mem_cons.mpr ⟨⟨(List.mem_of_getElem? (i := 39) rfl), good_of_word rfl⟩, List.forall_mem_cons.mpr ⟨⟨(List.mem_of_getElem? (i := 40) rfl), good_of_word rfl⟩, List.forall_mem_cons.mpr ⟨⟨(List.mem_of_getElem? (i := 41) rfl), good_of_word rfl⟩, List.forall_mem_cons.mpr ⟨⟨(List.mem_of_getElem? (i := 42) rfl), good_of_word rfl⟩, List.forall_mem_cons.mpr ⟨⟨(List.mem_of_getElem? (i := 43) rfl), good_of_word rfl⟩, List.forall_mem_cons.mpr ⟨⟨(List.mem_of_getElem? (i := 44) rfl), good_of_word rfl⟩, List.forall_mem_cons.mpr ⟨⟨(List.mem_of_getElem? (i := 45) rfl), good_of_word rfl⟩, List.forall_mem_cons.mpr ⟨⟨(List.mem_of_getElem? (i := 46) rfl), good_of_word rfl⟩, (fun _ h => absurd h List.not_mem_nil)⟩⟩⟩⟩⟩⟩⟩⟩⟩⟩⟩⟩⟩⟩⟩⟩⟩⟩⟩⟩⟩⟩⟩⟩⟩⟩⟩⟩⟩⟩⟩⟩⟩⟩⟩⟩⟩⟩
set_option maxRecDepth 20000 in
theorem gq_k_X6_next_k_J0_indexOf_0f7a4_238 : GoodIn wq_k_X6_next (wsV RX6 238 RJ0 yJ0_indexOf_0f7a4 wq_k_J0_indexOf_0f7a4) := goodIn_app (List.forall_mem_cons.mpr ⟨⟨(List.mem_of_getElem? (i := 6) rfl), good_of_word rfl⟩, List.forall_mem_cons.mpr ⟨⟨(List.mem_of_getElem? (i := 7) rfl), good_of_word rfl⟩, List.forall_mem_cons.mpr ⟨⟨(List.mem_of_getElem? (i := 8) rfl), good_of_word rfl⟩, List.forall_mem_cons.mpr ⟨⟨(List.mem_of_getElem? (i := 9) rfl), good_of_word rfl⟩, (fun _ h => absurd h List.not_mem_nil)⟩⟩⟩⟩) gr_k_X6_next_k_J0_indexOf_0f7a4
set_option maxRecDepth 20000 in
theorem gr_k_X6_next_k_X6_readNumber : GoodIn wq_k_X6_next wq_k_X6_readNumber := List.forall_mem_cons.mpr ⟨⟨(List.mem_of_getElem? (i := 52) rfl), good_of_word rfl⟩, List.forall_mem_append.mpr ⟨List.forall_mem_cons.mpr ⟨⟨(List.mem_of_getElem? (i := 53) rfl), good_of_word rfl⟩, List.forall_mem_cons.mpr ⟨⟨(List.mem_of_getElem? (i := 1) rfl), good_of_word rfl⟩, List.forall_mem_cons.mpr ⟨⟨(List.mem_of_getElem? (i := 2) rfl), good_of_word rfl⟩, List.forall_mem_cons.mpr ⟨⟨(List.mem_of_getElem? (i := 3) rfl), good_of_word rfl⟩, List.forall_mem_cons.mpr ⟨⟨(List.mem_of_getElem? (i := 4) rfl), good_of_word rfl⟩, List.forall_mem_cons.mpr ⟨⟨(List.mem_of_getElem? (i := 47) rfl), good_of_word rfl⟩, (fun _ h => absurd h List.not_mem_nil)⟩⟩⟩⟩⟩⟩, fun w h => ⟨(fun w h => List.mem_cons_of_mem _ (List.mem_append_right _ h)) w h, good_of_word (List.all_eq_true.mp gw_X6 w h)⟩⟩⟩
set_option maxRecDepth 20000 in
theorem gq_k_X6_next_k_X6_readNumber_233 : GoodIn wq_k_X6_next (wsV RX6 233 RX6 yX6_readNumber wq_k_X6_readNumber) := goodIn_app (List.forall_mem_cons.mpr ⟨⟨(List.mem_of_getElem? (i := 48) rfl), good_of_word rfl⟩, List.forall_mem_cons.mpr ⟨⟨(List.mem_of_getElem? (i := 49) rfl), good_of_word rfl⟩, List.forall_mem_cons.mpr ⟨⟨(List.mem_of_getElem? (i := 50) rfl), good_of_word rfl⟩, List.forall_mem_cons.mpr ⟨⟨(List.mem_of_getElem? (i := 51) rfl), good_of_word rfl⟩, (fun _ h => absurd h List.not_mem_nil)⟩⟩⟩⟩) gr_k_X6_next_k_X6_readNumber
set_option maxRecDepth 20000 in
theorem gr_k_X6_next_k_X6_readWord : GoodIn wq_k_X6_next wq_k_X6_readWord := List.forall_mem_cons.mpr ⟨⟨(List.mem_of_getElem? (i := 57) rfl), good_of_word rfl⟩, List.forall_mem_append.mpr ⟨List.forall_mem_cons.mpr ⟨⟨(List.mem_of_getElem? (i := 58) rfl), good_of_word rfl⟩, List.forall_mem_cons.mpr ⟨⟨(List.mem_of_getElem? (i := 1) rfl), good_of_word rfl⟩, List.forall_mem_cons.mpr ⟨⟨(List.mem_of_getElem? (i := 2) rfl), good_of_word rfl⟩, List.forall_mem_cons.mpr ⟨⟨(List.mem_of_getElem? (i := 3) rfl), good_of_word rfl⟩, List.forall_mem_cons.mpr ⟨⟨(List.mem_of_getElem? (i := 59) rfl), good_of_word rfl⟩, List.forall_mem_cons.mpr ⟨⟨(List.mem_of_getElem? (i := 4) rfl), good_of_word rfl⟩, List.forall_mem_cons.mpr ⟨⟨(List.mem_of_getElem? (i := 60) rfl), good_of_word rfl⟩, List.forall_mem_cons.mpr ⟨⟨(List.mem_of_getElem? (i := 47) rfl), good_of_word rfl⟩, (fun _ h => absurd h List.not_mem_nil)⟩⟩⟩⟩⟩⟩⟩⟩, fun w h => ⟨(fun w h => List.mem_cons_of_mem _ (List.mem_append_right _ h)) w h, good_of_word (List.all_eq_true.mp gw_X6 w h)⟩⟩⟩
set_option maxRecDepth 20000 in
theorem gq_k_X6_next_k_X6_readWord_230 : GoodIn wq_k_X6_next (wsV RX6 230 RX6 yX6_readWord wq_k_X6_readWord) := goodIn_app (List.forall_mem_cons.mpr ⟨⟨(List.mem_of_getElem? (i := 54) rfl), good_of_word rfl⟩, List.forall_mem_cons.mpr ⟨⟨(List.mem_of_getElem? (i := 55) rfl), good_of_word rfl⟩, List.forall_mem_cons.mpr ⟨⟨(List.mem_of_getElem? (i := 56) rfl), good_of_word rfl⟩, List.forall_mem_cons.mpr ⟨⟨(List.mem_of_getElem? (i := 51) rfl), good_of_word rfl⟩, (fun _ h => absurd h List.not_mem_nil)⟩⟩⟩⟩) gr_k_X6_next_k_X6_readWord
set_option maxHeartbeats 8000000 in
set_option maxRecDepth 100000 in
theorem k_X6_next (l : Launch) (D : va_G) (cy : Nat → ClassId) (ad : Nat → Nat) (g : Nat → va_E) {u0_0 : Value} {u0_1 : Value} {u0_2 : Value} {x0_4 : Int32} {x0_5 : Int32} {x0_6 : Int32} {x0_7 : Int32} {x0_8 : Int32} {x0_9 : Int32} {x0_10 : Int32} {w0x11 : Int64} {c1 : Nat → Int32} (o0 : g 0 = .inr (6, [u0_0, u0_1, u0_2, .ref (ad 1), .int x0_4, .int x0_5, .int x0_6, .int x0_7, .int x0_8, .int x0_9, .int x0_10, .long w0x11])) (a1 : g 1 = .inl (cy 0, 1600, .inl c1)) (b0_4 : zi 0 1600 x0_4) (b0_5 : zi 0 1600 x0_5) (b0_7 : zi 0 1600 x0_7) : cMv l yX6_next wq_k_X6_next { frames := 4, cells := 0, slots := 0, locals := 91 } 2 0 0 0 D cy ad g [.ref (ad 0)] (fun nw lu => ∃ (y0_5 : Int32) (y0_6 : Int32) (y0_7 : Int32) (y0_8 : Int32) (y0_9 : Int32) (y0_10 : Int32) (w0_11 : Int64), (zi 0 1600 y0_5) ∧ (zi 0 4 y0_6) ∧ (zi 0 1600 y0_7) ∧ (((y0_6 : Int32) = 1 → (y0_7 : Int32).toInt + (y0_8 : Int32).toInt ≤ 1600)) ∧ (lu = [(0, .inr (6, [u0_0, u0_1, u0_2, .ref (ad 1), .int x0_4, .int y0_5, .int y0_6, .int y0_7, .int y0_8, .int y0_9, .int y0_10, .long w0_11]))])) := by
  refine cM_of (Qc := fun A => cQv (fun nw lu => ∃ (y0_5 : Int32) (y0_6 : Int32) (y0_7 : Int32) (y0_8 : Int32) (y0_9 : Int32) (y0_10 : Int32) (w0_11 : Int64), (zi 0 1600 y0_5) ∧ (zi 0 4 y0_6) ∧ (zi 0 1600 y0_7) ∧ (((y0_6 : Int32) = 1 → (y0_7 : Int32).toInt + (y0_8 : Int32).toInt ≤ 1600)) ∧ (lu = [(0, .inr (6, [u0_0, u0_1, u0_2, .ref (ad 1), .int x0_4, .int y0_5, .int y0_6, .int y0_7, .int y0_8, .int y0_9, .int y0_10, .long w0_11]))])) D 2 0 ad g A) (cc := cX6_next) (maxL := 1) (ret := none) (by decide) rfl (Nat.le_of_ble_eq_true rfl) ?_
  intro p e s m below meth c A hC hr hlk hnm hO ls hl
  have hC : CallFix p m c cX6_next 1 s [.ref (ad 0)].toArray wq_k_X6_next RX6 := hC
  obtain ⟨hx, hb, hml, hown, hts⟩ := id hC
  have hl : lv_has ls 1 [(0, .ref (ad 0))] := hl
  have i_X6 : ∀ w ∈ wsX60, w ∈ wq_k_X6_next := fun w h => List.mem_cons_of_mem _ (List.mem_append_right _ h)
  have hO := hO.notes [(0, .inr (6, [u0_0, u0_1, u0_2, .ref (ad 1), .int x0_4, .int x0_5, .int x0_6, .int x0_7, .int x0_8, .int x0_9, .int x0_10, .long w0x11]))] (List.forall_mem_cons.mpr ⟨o0, (fun _ h => absurd h List.not_mem_nil)⟩)
  have loop_0_1633 : ∀ (d_0_1634 : Nat) (v_0_1428 : Int32), zi 0 1600 v_0_1428 → (1600 + 1 - v_0_1428.toInt).toNat < d_0_1634 → ∀ (H : Heap) (locs : List Loc), cO D cy A s.heap s 2 ad (cup [(0, .inr (6, [u0_0, u0_1, u0_2, .ref (ad 1), .int x0_4, .int v_0_1428, .int x0_6, .int x0_7, .int x0_8, .int x0_9, .int x0_10, .long w0x11]))] g) H locs → ∀ ls : Array Slot, lv_has ls 1 [(0, .ref (ad 0))] → W p l e { frames := 4, cells := 0, slots := 0, locals := 91 } s m [.ref (ad 0)].toArray below meth c H locs 0 0 (MQ below (cQv (fun nw lu => ∃ (y0_5 : Int32) (y0_6 : Int32) (y0_7 : Int32) (y0_8 : Int32) (y0_9 : Int32) (y0_10 : Int32) (w0_11 : Int64), (zi 0 1600 y0_5) ∧ (zi 0 4 y0_6) ∧ (zi 0 1600 y0_7) ∧ (((y0_6 : Int32) = 1 → (y0_7 : Int32).toInt + (y0_8 : Int32).toInt ≤ 1600)) ∧ (lu = [(0, .inr (6, [u0_0, u0_1, u0_2, .ref (ad 1), .int x0_4, .int y0_5, .int y0_6, .int y0_7, .int y0_8, .int y0_9, .int y0_10, .long w0_11]))])) D 2 0 ad g A) [.ref (ad 0)].toArray s 0 0 A) (F0 m 0 ls [])  := by
    intro d_0_1634
    induction d_0_1634 with
    | zero => intro v_0_1428 z_0_1429 mu_0_1635; exact absurd mu_0_1635 (Nat.not_lt_zero _)
    | succ d_0_1634 ih_0_1636 =>
      intro v_0_1428 z_0_1429 mu_0_1635 H locs hO ls hl
      refine lv_aload_n hx hb ddX6_next_0 rfl (lv_at hl 0 rfl) ?_
      refine cg_get hC hO 0 (by decide) rfl rfl i_X6 5 (by decide) (List.mem_of_getElem? (i := 1) rfl) rfl ddX6_next_1 ?_
      refine lv_aload_n hx hb ddX6_next_4 rfl (lv_at hl 0 rfl) ?_
      refine cg_get hC hO 0 (by decide) rfl rfl i_X6 4 (by decide) (List.mem_of_getElem? (i := 2) rfl) rfl ddX6_next_5 ?_
      have J_52_1658 : ∀ (H : Heap) (locs : List Loc), cO D cy A s.heap s 2 ad (cup [(0, .inr (6, [u0_0, u0_1, u0_2, .ref (ad 1), .int x0_4, .int v_0_1428, .int x0_6, .int x0_7, .int x0_8, .int x0_9, .int x0_10, .long w0x11]))] g) H locs → ∀ ls : Array Slot, lv_has ls 1 [(0, .ref (ad 0))] → W p l e { frames := 4, cells := 0, slots := 0, locals := 91 } s m [.ref (ad 0)].toArray below meth c H locs 0 0 (MQ below (cQv (fun nw lu => ∃ (y0_5 : Int32) (y0_6 : Int32) (y0_7 : Int32) (y0_8 : Int32) (y0_9 : Int32) (y0_10 : Int32) (w0_11 : Int64), (zi 0 1600 y0_5) ∧ (zi 0 4 y0_6) ∧ (zi 0 1600 y0_7) ∧ (((y0_6 : Int32) = 1 → (y0_7 : Int32).toInt + (y0_8 : Int32).toInt ≤ 1600)) ∧ (lu = [(0, .inr (6, [u0_0, u0_1, u0_2, .ref (ad 1), .int x0_4, .int y0_5, .int y0_6, .int y0_7, .int y0_8, .int y0_9, .int y0_10, .long w0_11]))])) D 2 0 ad g A) [.ref (ad 0)].toArray s 0 0 A) (F0 m 52 ls []) := by
        intro  H locs hO ls hl
        refine lv_aload_n hx hb ddX6_next_52 rfl (lv_at hl 0 rfl) ?_
        refine lv_aload_n hx hb ddX6_next_53 rfl (lv_at hl 0 rfl) ?_
        refine cg_get hC hO 0 (by decide) rfl rfl i_X6 5 (by decide) (List.mem_of_getElem? (i := 1) rfl) rfl ddX6_next_54 ?_
        refine cg_put hC hO 0 (by decide) rfl rfl i_X6 tyX6_ok nmX6 7 (by decide) (List.mem_of_getElem? (i := 4) rfl) rfl rfl rfl (Nat.le_of_ble_eq_true rfl) ddX6_next_57 (fun H locs hO => ?_)
        have hO : cO D cy A s.heap s 2 ad (cup [(0, .inr (6, [u0_0, u0_1, u0_2, .ref (ad 1), .int x0_4, .int v_0_1428, .int x0_6, .int v_0_1428, .int x0_8, .int x0_9, .int x0_10, .long w0x11]))] g) _ _ := hO
        refine lv_aload_n hx hb ddX6_next_60 rfl (lv_at hl 0 rfl) ?_
        refine cg_get hC hO 0 (by decide) rfl rfl i_X6 5 (by decide) (List.mem_of_getElem? (i := 1) rfl) rfl ddX6_next_61 ?_
        refine lv_aload_n hx hb ddX6_next_64 rfl (lv_at hl 0 rfl) ?_
        refine cg_get hC hO 0 (by decide) rfl rfl i_X6 4 (by decide) (List.mem_of_getElem? (i := 2) rfl) rfl ddX6_next_65 ?_
        refine lv_icmp_lt (tgt := 79) hx hb ddX6_next_68 (by decide) (fun h_68_1659 => ?_) (fun h_68_1659 => ?_)
        · have q_68_1660 := zr_lt h_68_1659
          have z_68_1661 : zi 0 1599 v_0_1428 := zu_lt q_68_1660 z_0_1429 b0_4 (by decide)
          have z_68_1662 : zi 1 1600 x0_4 := zd_lt q_68_1660 z_0_1429 b0_4 (by decide)
          refine lv_aload_n hx hb ddX6_next_79 rfl (lv_at hl 0 rfl) ?_
          refine cg_get hC hO 0 (by decide) rfl rfl i_X6 3 (by decide) (List.mem_of_getElem? (i := 3) rfl) rfl ddX6_next_80 ?_
          refine lv_aload_n hx hb ddX6_next_83 rfl (lv_at hl 0 rfl) ?_
          refine cg_get hC hO 0 (by decide) rfl rfl i_X6 5 (by decide) (List.mem_of_getElem? (i := 1) rfl) rfl ddX6_next_84 ?_
          refine zg_iald hC hO 1 (by decide) a1 (za_all _) (zi_in z_68_1661 (by decide)) ddX6_next_87 (fun v_87_1663 z_87_1664 => ?_)
          refine lv_bipush (v := 97) hx hb ddX6_next_88 (by decide) ?_
          refine lv_icmp_lt (tgt := 114) hx hb ddX6_next_90 (by decide) (fun h_90_1665 => ?_) (fun h_90_1665 => ?_)
          · have q_90_1666 := zr_lt h_90_1665
            have z_90_1667 : zi (-2147483648) 96 v_87_1663 := zu_lt q_90_1666 z_87_1664 (zi_k (a := 97) (b := 97) (x := 97) rfl) (by decide)
            refine lv_aload_n hx hb ddX6_next_114 rfl (lv_at hl 0 rfl) ?_
            refine cg_get hC hO 0 (by decide) rfl rfl i_X6 3 (by decide) (List.mem_of_getElem? (i := 3) rfl) rfl ddX6_next_115 ?_
            refine lv_aload_n hx hb ddX6_next_118 rfl (lv_at hl 0 rfl) ?_
            refine cg_get hC hO 0 (by decide) rfl rfl i_X6 5 (by decide) (List.mem_of_getElem? (i := 1) rfl) rfl ddX6_next_119 ?_
            refine zg_iald hC hO 1 (by decide) a1 (za_all _) (zi_in z_68_1661 (by decide)) ddX6_next_122 (fun v_122_1668 z_122_1669 => ?_)
            refine lv_bipush (v := 48) hx hb ddX6_next_123 (by decide) ?_
            refine lv_icmp_lt (tgt := 149) hx hb ddX6_next_125 (by decide) (fun h_125_1670 => ?_) (fun h_125_1670 => ?_)
            · have q_125_1671 := zr_lt h_125_1670
              have z_125_1672 : zi (-2147483648) 47 v_122_1668 := zu_lt q_125_1671 z_122_1669 (zi_k (a := 48) (b := 48) (x := 48) rfl) (by decide)
              refine lv_aload_n hx hb ddX6_next_149 rfl (lv_at hl 0 rfl) ?_
              refine lv_aload_n hx hb ddX6_next_150 rfl (lv_at hl 0 rfl) ?_
              refine cg_get hC hO 0 (by decide) rfl rfl i_X6 3 (by decide) (List.mem_of_getElem? (i := 3) rfl) rfl ddX6_next_151 ?_
              refine lv_aload_n hx hb ddX6_next_154 rfl (lv_at hl 0 rfl) ?_
              refine cg_get hC hO 0 (by decide) rfl rfl i_X6 5 (by decide) (List.mem_of_getElem? (i := 1) rfl) rfl ddX6_next_155 ?_
              refine zg_iald hC hO 1 (by decide) a1 (za_all _) (zi_in z_68_1661 (by decide)) ddX6_next_158 (fun v_158_1673 z_158_1674 => ?_)
              refine cg_put hC hO 0 (by decide) rfl rfl i_X6 tyX6_ok nmX6 10 (by decide) (List.mem_of_getElem? (i := 5) rfl) rfl rfl rfl (Nat.le_of_ble_eq_true rfl) ddX6_next_159 (fun H locs hO => ?_)
              have hO : cO D cy A s.heap s 2 ad (cup [(0, .inr (6, [u0_0, u0_1, u0_2, .ref (ad 1), .int x0_4, .int v_0_1428, .int x0_6, .int v_0_1428, .int x0_8, .int x0_9, .int v_158_1673, .long w0x11]))] g) _ _ := hO
              refine lv_aload_n hx hb ddX6_next_162 rfl (lv_at hl 0 rfl) ?_
              refine sg_ldc (q := 15) (tx := ";()<>=+-*/%") hC hO strL_15 ddX6_next_163 ?_
              refine lv_aload_n hx hb ddX6_next_165 rfl (lv_at hl 0 rfl) ?_
              refine cg_get hC hO 0 (by decide) rfl rfl i_X6 10 (by decide) (List.mem_of_getElem? (i := 5) rfl) rfl ddX6_next_166 ?_
              refine lv_i2c hx hb ddX6_next_169 rfl ?_
              refine zg_top (P := fun v => zi 0 65535 v) (zi_i2c _) (fun v_169_1675 z_169_1676 => ?_)
              refine sg_Vi (As := [.int v_169_1675]) (rest := [.ref (ad 0)]) (mc := 0) (ms := 0) (rm := { frames := 3, cells := 0, slots := 0, locals := 70 }) hC hl.1 hO [] (by decide +kernel) 15 (by decide) (k_J0_indexOf_0f7a4 l D cy _ _ (ch := v_169_1675) ) gq_k_X6_next_k_J0_indexOf_0f7a4_238 rfl rfl rfl 1 (by decide +kernel) ⟨Nat.le_of_ble_eq_true rfl, Nat.le_of_ble_eq_true rfl⟩ rfl rfl (Nat.le_of_ble_eq_true rfl) ddX6_next_170 ⟨Nat.le_of_ble_eq_true rfl, Nat.le_of_ble_eq_true rfl⟩ (fun r_170_1679 nw_170_1677 l_170_1678 H locs hw hO => ?_)
              obtain ⟨z_170_1680, rfl⟩ := hw
              have hO : cO D cy A s.heap s 2 ad (cup [(0, .inr (6, [u0_0, u0_1, u0_2, .ref (ad 1), .int x0_4, .int v_0_1428, .int x0_6, .int v_0_1428, .int x0_8, .int x0_9, .int v_158_1673, .long w0x11]))] g) _ _ := hO
              have J_181_1688 : ∀ (v_181_1686 : Int32), zi 3 4 v_181_1686 → ∀ (H : Heap) (locs : List Loc), cO D cy A s.heap s 2 ad (cup [(0, .inr (6, [u0_0, u0_1, u0_2, .ref (ad 1), .int x0_4, .int v_0_1428, .int x0_6, .int v_0_1428, .int x0_8, .int x0_9, .int v_158_1673, .long w0x11]))] g) H locs → ∀ ls : Array Slot, lv_has ls 1 [(0, .ref (ad 0))] → W p l e { frames := 4, cells := 0, slots := 0, locals := 91 } s m [.ref (ad 0)].toArray below meth c H locs 0 0 (MQ below (cQv (fun nw lu => ∃ (y0_5 : Int32) (y0_6 : Int32) (y0_7 : Int32) (y0_8 : Int32) (y0_9 : Int32) (y0_10 : Int32) (w0_11 : Int64), (zi 0 1600 y0_5) ∧ (zi 0 4 y0_6) ∧ (zi 0 1600 y0_7) ∧ (((y0_6 : Int32) = 1 → (y0_7 : Int32).toInt + (y0_8 : Int32).toInt ≤ 1600)) ∧ (lu = [(0, .inr (6, [u0_0, u0_1, u0_2, .ref (ad 1), .int x0_4, .int y0_5, .int y0_6, .int y0_7, .int y0_8, .int y0_9, .int y0_10, .long w0_11]))])) D 2 0 ad g A) [.ref (ad 0)].toArray s 0 0 A) (F0 m 181 ls [.int v_181_1686, .ref (ad 0)]) := by
                intro v_181_1686 z_181_1687 H locs hO ls hl
                refine cg_put hC hO 0 (by decide) rfl rfl i_X6 tyX6_ok nmX6 6 (by decide) (List.mem_of_getElem? (i := 47) rfl) rfl rfl rfl (Nat.le_of_ble_eq_true rfl) ddX6_next_181 (fun H locs hO => ?_)
                have hO : cO D cy A s.heap s 2 ad (cup [(0, .inr (6, [u0_0, u0_1, u0_2, .ref (ad 1), .int x0_4, .int v_0_1428, .int v_181_1686, .int v_0_1428, .int x0_8, .int x0_9, .int v_158_1673, .long w0x11]))] g) _ _ := hO
                refine lv_aload_n hx hb ddX6_next_184 rfl (lv_at hl 0 rfl) ?_
                refine lv_dup hx hb ddX6_next_185 rfl ?_
                refine cg_get hC hO 0 (by decide) rfl rfl i_X6 5 (by decide) (List.mem_of_getElem? (i := 1) rfl) rfl ddX6_next_186 ?_
                refine lv_iconst (v := 1) hx hb ddX6_next_189 (by decide) ?_
                refine lv_iadd hx hb ddX6_next_190 ?_
                refine zg_top2 (P := fun v => zi 1 1600 v) (E := fun v => v.toInt = v_0_1428.toInt + 1) (zi_addk z_68_1661 (n := 1) (by decide) (by decide)) (fun v_190_1689 z_190_1690 q_190_1691 => ?_)
                refine cg_put hC hO 0 (by decide) rfl rfl i_X6 tyX6_ok nmX6 5 (by decide) (List.mem_of_getElem? (i := 1) rfl) rfl rfl rfl (Nat.le_of_ble_eq_true rfl) ddX6_next_191 (fun H locs hO => ?_)
                have hO : cO D cy A s.heap s 2 ad (cup [(0, .inr (6, [u0_0, u0_1, u0_2, .ref (ad 1), .int x0_4, .int v_190_1689, .int v_181_1686, .int v_0_1428, .int x0_8, .int x0_9, .int v_158_1673, .long w0x11]))] g) _ _ := hO
                exact cg_vret (nw := fun _ => 0) hC hr hlk hO.same (Nat.le_of_ble_eq_true rfl) (Nat.le_of_ble_eq_true rfl) (⟨v_190_1689, v_181_1686, v_0_1428, x0_8, x0_9, v_158_1673, w0x11, (zi_w (c := 0) (d := 1600) z_190_1690 (by decide)), (zi_w (c := 0) (d := 4) z_181_1687 (by decide)), (zi_w (c := 0) (d := 1600) z_68_1661 (by decide)), (fun h => (zx_eq (zr_eq h) z_181_1687 (zi_k (a := 1) (b := 1) (x := 1) rfl) (by decide)).elim), rfl⟩) ddX6_next_194
              refine lv_if_lt (tgt := 180) hx hb ddX6_next_173 (by decide) (fun h_173_1681 => ?_) (fun h_173_1681 => ?_)
              · have q_173_1692 := zr_lt h_173_1681
                have z_173_1693 : zi (-1) (-1) r_170_1679 := zu_lt q_173_1692 z_170_1680 (zi_k (a := 0) (b := 0) (x := 0) rfl) (by decide)
                refine lv_iconst (v := 4) hx hb ddX6_next_180 (by decide) ?_
                exact J_181_1688 4 (zi_k (a := 3) (b := 4) (x := 4) rfl) _ _ hO ls (lv_sub hl [0] rfl)
              · have q_173_1694 := zr_nlt h_173_1681
                have z_173_1695 : zi 0 10 r_170_1679 := zd_le q_173_1694 (zi_k (a := 0) (b := 0) (x := 0) rfl) z_170_1680 (by decide)
                refine lv_iconst (v := 3) hx hb ddX6_next_176 (by decide) ?_
                refine lv_goto (tgt := 181) hx hb ddX6_next_177 (by decide) ?_
                exact J_181_1688 3 (zi_k (a := 3) (b := 4) (x := 3) rfl) _ _ hO ls (lv_sub hl [0] rfl)
            · have q_125_1696 := zr_nlt h_125_1670
              have z_125_1697 : zi 48 2147483647 v_122_1668 := zd_le q_125_1696 (zi_k (a := 48) (b := 48) (x := 48) rfl) z_122_1669 (by decide)
              refine lv_aload_n hx hb ddX6_next_128 rfl (lv_at hl 0 rfl) ?_
              refine cg_get hC hO 0 (by decide) rfl rfl i_X6 3 (by decide) (List.mem_of_getElem? (i := 3) rfl) rfl ddX6_next_129 ?_
              refine lv_aload_n hx hb ddX6_next_132 rfl (lv_at hl 0 rfl) ?_
              refine cg_get hC hO 0 (by decide) rfl rfl i_X6 5 (by decide) (List.mem_of_getElem? (i := 1) rfl) rfl ddX6_next_133 ?_
              refine zg_iald hC hO 1 (by decide) a1 (za_all _) (zi_in z_68_1661 (by decide)) ddX6_next_136 (fun v_136_1698 z_136_1699 => ?_)
              refine lv_bipush (v := 57) hx hb ddX6_next_137 (by decide) ?_
              refine lv_icmp_gt (tgt := 149) hx hb ddX6_next_139 (by decide) (fun h_139_1700 => ?_) (fun h_139_1700 => ?_)
              · have q_139_1701 := zr_lt h_139_1700
                have z_139_1702 : zi 58 2147483647 v_136_1698 := zd_lt q_139_1701 (zi_k (a := 57) (b := 57) (x := 57) rfl) z_136_1699 (by decide)
                refine lv_aload_n hx hb ddX6_next_149 rfl (lv_at hl 0 rfl) ?_
                refine lv_aload_n hx hb ddX6_next_150 rfl (lv_at hl 0 rfl) ?_
                refine cg_get hC hO 0 (by decide) rfl rfl i_X6 3 (by decide) (List.mem_of_getElem? (i := 3) rfl) rfl ddX6_next_151 ?_
                refine lv_aload_n hx hb ddX6_next_154 rfl (lv_at hl 0 rfl) ?_
                refine cg_get hC hO 0 (by decide) rfl rfl i_X6 5 (by decide) (List.mem_of_getElem? (i := 1) rfl) rfl ddX6_next_155 ?_
                refine zg_iald hC hO 1 (by decide) a1 (za_all _) (zi_in z_68_1661 (by decide)) ddX6_next_158 (fun v_158_1703 z_158_1704 => ?_)
                refine cg_put hC hO 0 (by decide) rfl rfl i_X6 tyX6_ok nmX6 10 (by decide) (List.mem_of_getElem? (i := 5) rfl) rfl rfl rfl (Nat.le_of_ble_eq_true rfl) ddX6_next_159 (fun H locs hO => ?_)
                have hO : cO D cy A s.heap s 2 ad (cup [(0, .inr (6, [u0_0, u0_1, u0_2, .ref (ad 1), .int x0_4, .int v_0_1428, .int x0_6, .int v_0_1428, .int x0_8, .int x0_9, .int v_158_1703, .long w0x11]))] g) _ _ := hO
                refine lv_aload_n hx hb ddX6_next_162 rfl (lv_at hl 0 rfl) ?_
                refine sg_ldc (q := 15) (tx := ";()<>=+-*/%") hC hO strL_15 ddX6_next_163 ?_
                refine lv_aload_n hx hb ddX6_next_165 rfl (lv_at hl 0 rfl) ?_
                refine cg_get hC hO 0 (by decide) rfl rfl i_X6 10 (by decide) (List.mem_of_getElem? (i := 5) rfl) rfl ddX6_next_166 ?_
                refine lv_i2c hx hb ddX6_next_169 rfl ?_
                refine zg_top (P := fun v => zi 0 65535 v) (zi_i2c _) (fun v_169_1705 z_169_1706 => ?_)
                refine sg_Vi (As := [.int v_169_1705]) (rest := [.ref (ad 0)]) (mc := 0) (ms := 0) (rm := { frames := 3, cells := 0, slots := 0, locals := 70 }) hC hl.1 hO [] (by decide +kernel) 15 (by decide) (k_J0_indexOf_0f7a4 l D cy _ _ (ch := v_169_1705) ) gq_k_X6_next_k_J0_indexOf_0f7a4_238 rfl rfl rfl 1 (by decide +kernel) ⟨Nat.le_of_ble_eq_true rfl, Nat.le_of_ble_eq_true rfl⟩ rfl rfl (Nat.le_of_ble_eq_true rfl) ddX6_next_170 ⟨Nat.le_of_ble_eq_true rfl, Nat.le_of_ble_eq_true rfl⟩ (fun r_170_1709 nw_170_1707 l_170_1708 H locs hw hO => ?_)
                obtain ⟨z_170_1710, rfl⟩ := hw
                have hO : cO D cy A s.heap s 2 ad (cup [(0, .inr (6, [u0_0, u0_1, u0_2, .ref (ad 1), .int x0_4, .int v_0_1428, .int x0_6, .int v_0_1428, .int x0_8, .int x0_9, .int v_158_1703, .long w0x11]))] g) _ _ := hO
                have J_181_1718 : ∀ (v_181_1716 : Int32), zi 3 4 v_181_1716 → ∀ (H : Heap) (locs : List Loc), cO D cy A s.heap s 2 ad (cup [(0, .inr (6, [u0_0, u0_1, u0_2, .ref (ad 1), .int x0_4, .int v_0_1428, .int x0_6, .int v_0_1428, .int x0_8, .int x0_9, .int v_158_1703, .long w0x11]))] g) H locs → ∀ ls : Array Slot, lv_has ls 1 [(0, .ref (ad 0))] → W p l e { frames := 4, cells := 0, slots := 0, locals := 91 } s m [.ref (ad 0)].toArray below meth c H locs 0 0 (MQ below (cQv (fun nw lu => ∃ (y0_5 : Int32) (y0_6 : Int32) (y0_7 : Int32) (y0_8 : Int32) (y0_9 : Int32) (y0_10 : Int32) (w0_11 : Int64), (zi 0 1600 y0_5) ∧ (zi 0 4 y0_6) ∧ (zi 0 1600 y0_7) ∧ (((y0_6 : Int32) = 1 → (y0_7 : Int32).toInt + (y0_8 : Int32).toInt ≤ 1600)) ∧ (lu = [(0, .inr (6, [u0_0, u0_1, u0_2, .ref (ad 1), .int x0_4, .int y0_5, .int y0_6, .int y0_7, .int y0_8, .int y0_9, .int y0_10, .long w0_11]))])) D 2 0 ad g A) [.ref (ad 0)].toArray s 0 0 A) (F0 m 181 ls [.int v_181_1716, .ref (ad 0)]) := by
                  intro v_181_1716 z_181_1717 H locs hO ls hl
                  refine cg_put hC hO 0 (by decide) rfl rfl i_X6 tyX6_ok nmX6 6 (by decide) (List.mem_of_getElem? (i := 47) rfl) rfl rfl rfl (Nat.le_of_ble_eq_true rfl) ddX6_next_181 (fun H locs hO => ?_)
                  have hO : cO D cy A s.heap s 2 ad (cup [(0, .inr (6, [u0_0, u0_1, u0_2, .ref (ad 1), .int x0_4, .int v_0_1428, .int v_181_1716, .int v_0_1428, .int x0_8, .int x0_9, .int v_158_1703, .long w0x11]))] g) _ _ := hO
                  refine lv_aload_n hx hb ddX6_next_184 rfl (lv_at hl 0 rfl) ?_
                  refine lv_dup hx hb ddX6_next_185 rfl ?_
                  refine cg_get hC hO 0 (by decide) rfl rfl i_X6 5 (by decide) (List.mem_of_getElem? (i := 1) rfl) rfl ddX6_next_186 ?_
                  refine lv_iconst (v := 1) hx hb ddX6_next_189 (by decide) ?_
                  refine lv_iadd hx hb ddX6_next_190 ?_
                  refine zg_top2 (P := fun v => zi 1 1600 v) (E := fun v => v.toInt = v_0_1428.toInt + 1) (zi_addk z_68_1661 (n := 1) (by decide) (by decide)) (fun v_190_1719 z_190_1720 q_190_1721 => ?_)
                  refine cg_put hC hO 0 (by decide) rfl rfl i_X6 tyX6_ok nmX6 5 (by decide) (List.mem_of_getElem? (i := 1) rfl) rfl rfl rfl (Nat.le_of_ble_eq_true rfl) ddX6_next_191 (fun H locs hO => ?_)
                  have hO : cO D cy A s.heap s 2 ad (cup [(0, .inr (6, [u0_0, u0_1, u0_2, .ref (ad 1), .int x0_4, .int v_190_1719, .int v_181_1716, .int v_0_1428, .int x0_8, .int x0_9, .int v_158_1703, .long w0x11]))] g) _ _ := hO
                  exact cg_vret (nw := fun _ => 0) hC hr hlk hO.same (Nat.le_of_ble_eq_true rfl) (Nat.le_of_ble_eq_true rfl) (⟨v_190_1719, v_181_1716, v_0_1428, x0_8, x0_9, v_158_1703, w0x11, (zi_w (c := 0) (d := 1600) z_190_1720 (by decide)), (zi_w (c := 0) (d := 4) z_181_1717 (by decide)), (zi_w (c := 0) (d := 1600) z_68_1661 (by decide)), (fun h => (zx_eq (zr_eq h) z_181_1717 (zi_k (a := 1) (b := 1) (x := 1) rfl) (by decide)).elim), rfl⟩) ddX6_next_194
                refine lv_if_lt (tgt := 180) hx hb ddX6_next_173 (by decide) (fun h_173_1711 => ?_) (fun h_173_1711 => ?_)
                · have q_173_1722 := zr_lt h_173_1711
                  have z_173_1723 : zi (-1) (-1) r_170_1709 := zu_lt q_173_1722 z_170_1710 (zi_k (a := 0) (b := 0) (x := 0) rfl) (by decide)
                  refine lv_iconst (v := 4) hx hb ddX6_next_180 (by decide) ?_
                  exact J_181_1718 4 (zi_k (a := 3) (b := 4) (x := 4) rfl) _ _ hO ls (lv_sub hl [0] rfl)
                · have q_173_1724 := zr_nlt h_173_1711
                  have z_173_1725 : zi 0 10 r_170_1709 := zd_le q_173_1724 (zi_k (a := 0) (b := 0) (x := 0) rfl) z_170_1710 (by decide)
                  refine lv_iconst (v := 3) hx hb ddX6_next_176 (by decide) ?_
                  refine lv_goto (tgt := 181) hx hb ddX6_next_177 (by decide) ?_
                  exact J_181_1718 3 (zi_k (a := 3) (b := 4) (x := 3) rfl) _ _ hO ls (lv_sub hl [0] rfl)
              · have q_139_1726 := zr_nlt h_139_1700
                have z_139_1727 : zi (-2147483648) 57 v_136_1698 := zu_le q_139_1726 z_136_1699 (zi_k (a := 57) (b := 57) (x := 57) rfl) (by decide)
                refine lv_aload_n hx hb ddX6_next_142 rfl (lv_at hl 0 rfl) ?_
                refine cg_Vv (As := []) (rest := []) (mc := 0) (ms := 0) (rm := { frames := 0, cells := 0, slots := 0, locals := 0 }) hC hl.1 hO [0, 1] (by decide +kernel) (k_X6_readNumber l D cy _ _ (u0_0 := u0_0) (u0_1 := u0_1) (u0_2 := u0_2) (c1 := c1) (x0_4 := x0_4) (x0_5 := v_0_1428) (x0_6 := x0_6) (x0_7 := v_0_1428) (u0_8 := .int x0_8) (x0_9 := x0_9) (u0_10 := .int x0_10) (u0_11 := .long w0x11) rfl a1 (zi_w (c := 0) (d := 1600) z_68_1662 (by decide)) (zi_w (c := 0) (d := 1600) z_68_1661 (by decide)) (zi_w (c := 0) (d := 1600) z_68_1661 (by decide))) gq_k_X6_next_k_X6_readNumber_233 rfl rfl rfl 0 (by decide +kernel) ⟨Nat.le_of_ble_eq_true rfl, Nat.le_of_ble_eq_true rfl⟩ rfl (by decide) rfl rfl rfl (Nat.le_of_ble_eq_true rfl) ddX6_next_143 ⟨Nat.le_of_ble_eq_true rfl, Nat.le_of_ble_eq_true rfl⟩ (fun nw_143_1728 l_143_1729 H locs hw hO => ?_)
                obtain ⟨y0_143_1731, y0_143_1732, y0_143_1733, z_143_1734, z_143_1735, rfl⟩ := hw
                have hO := hO.mrg (lk := [(0, .inr (6, [u0_0, u0_1, u0_2, .ref (ad 1), .int x0_4, .int y0_143_1731, .int y0_143_1732, .int v_0_1428, .int x0_8, .int y0_143_1733, .int x0_10, .long w0x11]))]) (lm := [(0, .inr (6, [u0_0, u0_1, u0_2, .ref (ad 1), .int x0_4, .int y0_143_1731, .int y0_143_1732, .int v_0_1428, .int x0_8, .int y0_143_1733, .int x0_10, .long w0x11]))]) rfl rfl rfl
                refine lv_goto (tgt := 194) hx hb ddX6_next_146 (by decide) ?_
                exact cg_vret (nw := fun _ => 0) hC hr hlk hO.same (Nat.le_of_ble_eq_true rfl) (Nat.le_of_ble_eq_true rfl) (⟨y0_143_1731, y0_143_1732, v_0_1428, x0_8, y0_143_1733, x0_10, w0x11, z_143_1734, (zi_w (c := 0) (d := 4) z_143_1735 (by decide)), (zi_w (c := 0) (d := 1600) z_68_1661 (by decide)), (fun h => (zx_eq (zr_eq h) z_143_1735 (zi_k (a := 1) (b := 1) (x := 1) rfl) (by decide)).elim), rfl⟩) ddX6_next_194
          · have q_90_1736 := zr_nlt h_90_1665
            have z_90_1737 : zi 97 2147483647 v_87_1663 := zd_le q_90_1736 (zi_k (a := 97) (b := 97) (x := 97) rfl) z_87_1664 (by decide)
            refine lv_aload_n hx hb ddX6_next_93 rfl (lv_at hl 0 rfl) ?_
            refine cg_get hC hO 0 (by decide) rfl rfl i_X6 3 (by decide) (List.mem_of_getElem? (i := 3) rfl) rfl ddX6_next_94 ?_
            refine lv_aload_n hx hb ddX6_next_97 rfl (lv_at hl 0 rfl) ?_
            refine cg_get hC hO 0 (by decide) rfl rfl i_X6 5 (by decide) (List.mem_of_getElem? (i := 1) rfl) rfl ddX6_next_98 ?_
            refine zg_iald hC hO 1 (by decide) a1 (za_all _) (zi_in z_68_1661 (by decide)) ddX6_next_101 (fun v_101_1738 z_101_1739 => ?_)
            refine lv_bipush (v := 122) hx hb ddX6_next_102 (by decide) ?_
            refine lv_icmp_gt (tgt := 114) hx hb ddX6_next_104 (by decide) (fun h_104_1740 => ?_) (fun h_104_1740 => ?_)
            · have q_104_1741 := zr_lt h_104_1740
              have z_104_1742 : zi 123 2147483647 v_101_1738 := zd_lt q_104_1741 (zi_k (a := 122) (b := 122) (x := 122) rfl) z_101_1739 (by decide)
              refine lv_aload_n hx hb ddX6_next_114 rfl (lv_at hl 0 rfl) ?_
              refine cg_get hC hO 0 (by decide) rfl rfl i_X6 3 (by decide) (List.mem_of_getElem? (i := 3) rfl) rfl ddX6_next_115 ?_
              refine lv_aload_n hx hb ddX6_next_118 rfl (lv_at hl 0 rfl) ?_
              refine cg_get hC hO 0 (by decide) rfl rfl i_X6 5 (by decide) (List.mem_of_getElem? (i := 1) rfl) rfl ddX6_next_119 ?_
              refine zg_iald hC hO 1 (by decide) a1 (za_all _) (zi_in z_68_1661 (by decide)) ddX6_next_122 (fun v_122_1743 z_122_1744 => ?_)
              refine lv_bipush (v := 48) hx hb ddX6_next_123 (by decide) ?_
              refine lv_icmp_lt (tgt := 149) hx hb ddX6_next_125 (by decide) (fun h_125_1745 => ?_) (fun h_125_1745 => ?_)
              · have q_125_1746 := zr_lt h_125_1745
                have z_125_1747 : zi (-2147483648) 47 v_122_1743 := zu_lt q_125_1746 z_122_1744 (zi_k (a := 48) (b := 48) (x := 48) rfl) (by decide)
                refine lv_aload_n hx hb ddX6_next_149 rfl (lv_at hl 0 rfl) ?_
                refine lv_aload_n hx hb ddX6_next_150 rfl (lv_at hl 0 rfl) ?_
                refine cg_get hC hO 0 (by decide) rfl rfl i_X6 3 (by decide) (List.mem_of_getElem? (i := 3) rfl) rfl ddX6_next_151 ?_
                refine lv_aload_n hx hb ddX6_next_154 rfl (lv_at hl 0 rfl) ?_
                refine cg_get hC hO 0 (by decide) rfl rfl i_X6 5 (by decide) (List.mem_of_getElem? (i := 1) rfl) rfl ddX6_next_155 ?_
                refine zg_iald hC hO 1 (by decide) a1 (za_all _) (zi_in z_68_1661 (by decide)) ddX6_next_158 (fun v_158_1748 z_158_1749 => ?_)
                refine cg_put hC hO 0 (by decide) rfl rfl i_X6 tyX6_ok nmX6 10 (by decide) (List.mem_of_getElem? (i := 5) rfl) rfl rfl rfl (Nat.le_of_ble_eq_true rfl) ddX6_next_159 (fun H locs hO => ?_)
                have hO : cO D cy A s.heap s 2 ad (cup [(0, .inr (6, [u0_0, u0_1, u0_2, .ref (ad 1), .int x0_4, .int v_0_1428, .int x0_6, .int v_0_1428, .int x0_8, .int x0_9, .int v_158_1748, .long w0x11]))] g) _ _ := hO
                refine lv_aload_n hx hb ddX6_next_162 rfl (lv_at hl 0 rfl) ?_
                refine sg_ldc (q := 15) (tx := ";()<>=+-*/%") hC hO strL_15 ddX6_next_163 ?_
                refine lv_aload_n hx hb ddX6_next_165 rfl (lv_at hl 0 rfl) ?_
                refine cg_get hC hO 0 (by decide) rfl rfl i_X6 10 (by decide) (List.mem_of_getElem? (i := 5) rfl) rfl ddX6_next_166 ?_
                refine lv_i2c hx hb ddX6_next_169 rfl ?_
                refine zg_top (P := fun v => zi 0 65535 v) (zi_i2c _) (fun v_169_1750 z_169_1751 => ?_)
                refine sg_Vi (As := [.int v_169_1750]) (rest := [.ref (ad 0)]) (mc := 0) (ms := 0) (rm := { frames := 3, cells := 0, slots := 0, locals := 70 }) hC hl.1 hO [] (by decide +kernel) 15 (by decide) (k_J0_indexOf_0f7a4 l D cy _ _ (ch := v_169_1750) ) gq_k_X6_next_k_J0_indexOf_0f7a4_238 rfl rfl rfl 1 (by decide +kernel) ⟨Nat.le_of_ble_eq_true rfl, Nat.le_of_ble_eq_true rfl⟩ rfl rfl (Nat.le_of_ble_eq_true rfl) ddX6_next_170 ⟨Nat.le_of_ble_eq_true rfl, Nat.le_of_ble_eq_true rfl⟩ (fun r_170_1754 nw_170_1752 l_170_1753 H locs hw hO => ?_)
                obtain ⟨z_170_1755, rfl⟩ := hw
                have hO : cO D cy A s.heap s 2 ad (cup [(0, .inr (6, [u0_0, u0_1, u0_2, .ref (ad 1), .int x0_4, .int v_0_1428, .int x0_6, .int v_0_1428, .int x0_8, .int x0_9, .int v_158_1748, .long w0x11]))] g) _ _ := hO
                have J_181_1763 : ∀ (v_181_1761 : Int32), zi 3 4 v_181_1761 → ∀ (H : Heap) (locs : List Loc), cO D cy A s.heap s 2 ad (cup [(0, .inr (6, [u0_0, u0_1, u0_2, .ref (ad 1), .int x0_4, .int v_0_1428, .int x0_6, .int v_0_1428, .int x0_8, .int x0_9, .int v_158_1748, .long w0x11]))] g) H locs → ∀ ls : Array Slot, lv_has ls 1 [(0, .ref (ad 0))] → W p l e { frames := 4, cells := 0, slots := 0, locals := 91 } s m [.ref (ad 0)].toArray below meth c H locs 0 0 (MQ below (cQv (fun nw lu => ∃ (y0_5 : Int32) (y0_6 : Int32) (y0_7 : Int32) (y0_8 : Int32) (y0_9 : Int32) (y0_10 : Int32) (w0_11 : Int64), (zi 0 1600 y0_5) ∧ (zi 0 4 y0_6) ∧ (zi 0 1600 y0_7) ∧ (((y0_6 : Int32) = 1 → (y0_7 : Int32).toInt + (y0_8 : Int32).toInt ≤ 1600)) ∧ (lu = [(0, .inr (6, [u0_0, u0_1, u0_2, .ref (ad 1), .int x0_4, .int y0_5, .int y0_6, .int y0_7, .int y0_8, .int y0_9, .int y0_10, .long w0_11]))])) D 2 0 ad g A) [.ref (ad 0)].toArray s 0 0 A) (F0 m 181 ls [.int v_181_1761, .ref (ad 0)]) := by
                  intro v_181_1761 z_181_1762 H locs hO ls hl
                  refine cg_put hC hO 0 (by decide) rfl rfl i_X6 tyX6_ok nmX6 6 (by decide) (List.mem_of_getElem? (i := 47) rfl) rfl rfl rfl (Nat.le_of_ble_eq_true rfl) ddX6_next_181 (fun H locs hO => ?_)
                  have hO : cO D cy A s.heap s 2 ad (cup [(0, .inr (6, [u0_0, u0_1, u0_2, .ref (ad 1), .int x0_4, .int v_0_1428, .int v_181_1761, .int v_0_1428, .int x0_8, .int x0_9, .int v_158_1748, .long w0x11]))] g) _ _ := hO
                  refine lv_aload_n hx hb ddX6_next_184 rfl (lv_at hl 0 rfl) ?_
                  refine lv_dup hx hb ddX6_next_185 rfl ?_
                  refine cg_get hC hO 0 (by decide) rfl rfl i_X6 5 (by decide) (List.mem_of_getElem? (i := 1) rfl) rfl ddX6_next_186 ?_
                  refine lv_iconst (v := 1) hx hb ddX6_next_189 (by decide) ?_
                  refine lv_iadd hx hb ddX6_next_190 ?_
                  refine zg_top2 (P := fun v => zi 1 1600 v) (E := fun v => v.toInt = v_0_1428.toInt + 1) (zi_addk z_68_1661 (n := 1) (by decide) (by decide)) (fun v_190_1764 z_190_1765 q_190_1766 => ?_)
                  refine cg_put hC hO 0 (by decide) rfl rfl i_X6 tyX6_ok nmX6 5 (by decide) (List.mem_of_getElem? (i := 1) rfl) rfl rfl rfl (Nat.le_of_ble_eq_true rfl) ddX6_next_191 (fun H locs hO => ?_)
                  have hO : cO D cy A s.heap s 2 ad (cup [(0, .inr (6, [u0_0, u0_1, u0_2, .ref (ad 1), .int x0_4, .int v_190_1764, .int v_181_1761, .int v_0_1428, .int x0_8, .int x0_9, .int v_158_1748, .long w0x11]))] g) _ _ := hO
                  exact cg_vret (nw := fun _ => 0) hC hr hlk hO.same (Nat.le_of_ble_eq_true rfl) (Nat.le_of_ble_eq_true rfl) (⟨v_190_1764, v_181_1761, v_0_1428, x0_8, x0_9, v_158_1748, w0x11, (zi_w (c := 0) (d := 1600) z_190_1765 (by decide)), (zi_w (c := 0) (d := 4) z_181_1762 (by decide)), (zi_w (c := 0) (d := 1600) z_68_1661 (by decide)), (fun h => (zx_eq (zr_eq h) z_181_1762 (zi_k (a := 1) (b := 1) (x := 1) rfl) (by decide)).elim), rfl⟩) ddX6_next_194
                refine lv_if_lt (tgt := 180) hx hb ddX6_next_173 (by decide) (fun h_173_1756 => ?_) (fun h_173_1756 => ?_)
                · have q_173_1767 := zr_lt h_173_1756
                  have z_173_1768 : zi (-1) (-1) r_170_1754 := zu_lt q_173_1767 z_170_1755 (zi_k (a := 0) (b := 0) (x := 0) rfl) (by decide)
                  refine lv_iconst (v := 4) hx hb ddX6_next_180 (by decide) ?_
                  exact J_181_1763 4 (zi_k (a := 3) (b := 4) (x := 4) rfl) _ _ hO ls (lv_sub hl [0] rfl)
                · have q_173_1769 := zr_nlt h_173_1756
                  have z_173_1770 : zi 0 10 r_170_1754 := zd_le q_173_1769 (zi_k (a := 0) (b := 0) (x := 0) rfl) z_170_1755 (by decide)
                  refine lv_iconst (v := 3) hx hb ddX6_next_176 (by decide) ?_
                  refine lv_goto (tgt := 181) hx hb ddX6_next_177 (by decide) ?_
                  exact J_181_1763 3 (zi_k (a := 3) (b := 4) (x := 3) rfl) _ _ hO ls (lv_sub hl [0] rfl)
              · have q_125_1771 := zr_nlt h_125_1745
                have z_125_1772 : zi 48 2147483647 v_122_1743 := zd_le q_125_1771 (zi_k (a := 48) (b := 48) (x := 48) rfl) z_122_1744 (by decide)
                refine lv_aload_n hx hb ddX6_next_128 rfl (lv_at hl 0 rfl) ?_
                refine cg_get hC hO 0 (by decide) rfl rfl i_X6 3 (by decide) (List.mem_of_getElem? (i := 3) rfl) rfl ddX6_next_129 ?_
                refine lv_aload_n hx hb ddX6_next_132 rfl (lv_at hl 0 rfl) ?_
                refine cg_get hC hO 0 (by decide) rfl rfl i_X6 5 (by decide) (List.mem_of_getElem? (i := 1) rfl) rfl ddX6_next_133 ?_
                refine zg_iald hC hO 1 (by decide) a1 (za_all _) (zi_in z_68_1661 (by decide)) ddX6_next_136 (fun v_136_1773 z_136_1774 => ?_)
                refine lv_bipush (v := 57) hx hb ddX6_next_137 (by decide) ?_
                refine lv_icmp_gt (tgt := 149) hx hb ddX6_next_139 (by decide) (fun h_139_1775 => ?_) (fun h_139_1775 => ?_)
                · have q_139_1776 := zr_lt h_139_1775
                  have z_139_1777 : zi 58 2147483647 v_136_1773 := zd_lt q_139_1776 (zi_k (a := 57) (b := 57) (x := 57) rfl) z_136_1774 (by decide)
                  refine lv_aload_n hx hb ddX6_next_149 rfl (lv_at hl 0 rfl) ?_
                  refine lv_aload_n hx hb ddX6_next_150 rfl (lv_at hl 0 rfl) ?_
                  refine cg_get hC hO 0 (by decide) rfl rfl i_X6 3 (by decide) (List.mem_of_getElem? (i := 3) rfl) rfl ddX6_next_151 ?_
                  refine lv_aload_n hx hb ddX6_next_154 rfl (lv_at hl 0 rfl) ?_
                  refine cg_get hC hO 0 (by decide) rfl rfl i_X6 5 (by decide) (List.mem_of_getElem? (i := 1) rfl) rfl ddX6_next_155 ?_
                  refine zg_iald hC hO 1 (by decide) a1 (za_all _) (zi_in z_68_1661 (by decide)) ddX6_next_158 (fun v_158_1778 z_158_1779 => ?_)
                  refine cg_put hC hO 0 (by decide) rfl rfl i_X6 tyX6_ok nmX6 10 (by decide) (List.mem_of_getElem? (i := 5) rfl) rfl rfl rfl (Nat.le_of_ble_eq_true rfl) ddX6_next_159 (fun H locs hO => ?_)
                  have hO : cO D cy A s.heap s 2 ad (cup [(0, .inr (6, [u0_0, u0_1, u0_2, .ref (ad 1), .int x0_4, .int v_0_1428, .int x0_6, .int v_0_1428, .int x0_8, .int x0_9, .int v_158_1778, .long w0x11]))] g) _ _ := hO
                  refine lv_aload_n hx hb ddX6_next_162 rfl (lv_at hl 0 rfl) ?_
                  refine sg_ldc (q := 15) (tx := ";()<>=+-*/%") hC hO strL_15 ddX6_next_163 ?_
                  refine lv_aload_n hx hb ddX6_next_165 rfl (lv_at hl 0 rfl) ?_
                  refine cg_get hC hO 0 (by decide) rfl rfl i_X6 10 (by decide) (List.mem_of_getElem? (i := 5) rfl) rfl ddX6_next_166 ?_
                  refine lv_i2c hx hb ddX6_next_169 rfl ?_
                  refine zg_top (P := fun v => zi 0 65535 v) (zi_i2c _) (fun v_169_1780 z_169_1781 => ?_)
                  refine sg_Vi (As := [.int v_169_1780]) (rest := [.ref (ad 0)]) (mc := 0) (ms := 0) (rm := { frames := 3, cells := 0, slots := 0, locals := 70 }) hC hl.1 hO [] (by decide +kernel) 15 (by decide) (k_J0_indexOf_0f7a4 l D cy _ _ (ch := v_169_1780) ) gq_k_X6_next_k_J0_indexOf_0f7a4_238 rfl rfl rfl 1 (by decide +kernel) ⟨Nat.le_of_ble_eq_true rfl, Nat.le_of_ble_eq_true rfl⟩ rfl rfl (Nat.le_of_ble_eq_true rfl) ddX6_next_170 ⟨Nat.le_of_ble_eq_true rfl, Nat.le_of_ble_eq_true rfl⟩ (fun r_170_1784 nw_170_1782 l_170_1783 H locs hw hO => ?_)
                  obtain ⟨z_170_1785, rfl⟩ := hw
                  have hO : cO D cy A s.heap s 2 ad (cup [(0, .inr (6, [u0_0, u0_1, u0_2, .ref (ad 1), .int x0_4, .int v_0_1428, .int x0_6, .int v_0_1428, .int x0_8, .int x0_9, .int v_158_1778, .long w0x11]))] g) _ _ := hO
                  have J_181_1793 : ∀ (v_181_1791 : Int32), zi 3 4 v_181_1791 → ∀ (H : Heap) (locs : List Loc), cO D cy A s.heap s 2 ad (cup [(0, .inr (6, [u0_0, u0_1, u0_2, .ref (ad 1), .int x0_4, .int v_0_1428, .int x0_6, .int v_0_1428, .int x0_8, .int x0_9, .int v_158_1778, .long w0x11]))] g) H locs → ∀ ls : Array Slot, lv_has ls 1 [(0, .ref (ad 0))] → W p l e { frames := 4, cells := 0, slots := 0, locals := 91 } s m [.ref (ad 0)].toArray below meth c H locs 0 0 (MQ below (cQv (fun nw lu => ∃ (y0_5 : Int32) (y0_6 : Int32) (y0_7 : Int32) (y0_8 : Int32) (y0_9 : Int32) (y0_10 : Int32) (w0_11 : Int64), (zi 0 1600 y0_5) ∧ (zi 0 4 y0_6) ∧ (zi 0 1600 y0_7) ∧ (((y0_6 : Int32) = 1 → (y0_7 : Int32).toInt + (y0_8 : Int32).toInt ≤ 1600)) ∧ (lu = [(0, .inr (6, [u0_0, u0_1, u0_2, .ref (ad 1), .int x0_4, .int y0_5, .int y0_6, .int y0_7, .int y0_8, .int y0_9, .int y0_10, .long w0_11]))])) D 2 0 ad g A) [.ref (ad 0)].toArray s 0 0 A) (F0 m 181 ls [.int v_181_1791, .ref (ad 0)]) := by
                    intro v_181_1791 z_181_1792 H locs hO ls hl
                    refine cg_put hC hO 0 (by decide) rfl rfl i_X6 tyX6_ok nmX6 6 (by decide) (List.mem_of_getElem? (i := 47) rfl) rfl rfl rfl (Nat.le_of_ble_eq_true rfl) ddX6_next_181 (fun H locs hO => ?_)
                    have hO : cO D cy A s.heap s 2 ad (cup [(0, .inr (6, [u0_0, u0_1, u0_2, .ref (ad 1), .int x0_4, .int v_0_1428, .int v_181_1791, .int v_0_1428, .int x0_8, .int x0_9, .int v_158_1778, .long w0x11]))] g) _ _ := hO
                    refine lv_aload_n hx hb ddX6_next_184 rfl (lv_at hl 0 rfl) ?_
                    refine lv_dup hx hb ddX6_next_185 rfl ?_
                    refine cg_get hC hO 0 (by decide) rfl rfl i_X6 5 (by decide) (List.mem_of_getElem? (i := 1) rfl) rfl ddX6_next_186 ?_
                    refine lv_iconst (v := 1) hx hb ddX6_next_189 (by decide) ?_
                    refine lv_iadd hx hb ddX6_next_190 ?_
                    refine zg_top2 (P := fun v => zi 1 1600 v) (E := fun v => v.toInt = v_0_1428.toInt + 1) (zi_addk z_68_1661 (n := 1) (by decide) (by decide)) (fun v_190_1794 z_190_1795 q_190_1796 => ?_)
                    refine cg_put hC hO 0 (by decide) rfl rfl i_X6 tyX6_ok nmX6 5 (by decide) (List.mem_of_getElem? (i := 1) rfl) rfl rfl rfl (Nat.le_of_ble_eq_true rfl) ddX6_next_191 (fun H locs hO => ?_)
                    have hO : cO D cy A s.heap s 2 ad (cup [(0, .inr (6, [u0_0, u0_1, u0_2, .ref (ad 1), .int x0_4, .int v_190_1794, .int v_181_1791, .int v_0_1428, .int x0_8, .int x0_9, .int v_158_1778, .long w0x11]))] g) _ _ := hO
                    exact cg_vret (nw := fun _ => 0) hC hr hlk hO.same (Nat.le_of_ble_eq_true rfl) (Nat.le_of_ble_eq_true rfl) (⟨v_190_1794, v_181_1791, v_0_1428, x0_8, x0_9, v_158_1778, w0x11, (zi_w (c := 0) (d := 1600) z_190_1795 (by decide)), (zi_w (c := 0) (d := 4) z_181_1792 (by decide)), (zi_w (c := 0) (d := 1600) z_68_1661 (by decide)), (fun h => (zx_eq (zr_eq h) z_181_1792 (zi_k (a := 1) (b := 1) (x := 1) rfl) (by decide)).elim), rfl⟩) ddX6_next_194
                  refine lv_if_lt (tgt := 180) hx hb ddX6_next_173 (by decide) (fun h_173_1786 => ?_) (fun h_173_1786 => ?_)
                  · have q_173_1797 := zr_lt h_173_1786
                    have z_173_1798 : zi (-1) (-1) r_170_1784 := zu_lt q_173_1797 z_170_1785 (zi_k (a := 0) (b := 0) (x := 0) rfl) (by decide)
                    refine lv_iconst (v := 4) hx hb ddX6_next_180 (by decide) ?_
                    exact J_181_1793 4 (zi_k (a := 3) (b := 4) (x := 4) rfl) _ _ hO ls (lv_sub hl [0] rfl)
                  · have q_173_1799 := zr_nlt h_173_1786
                    have z_173_1800 : zi 0 10 r_170_1784 := zd_le q_173_1799 (zi_k (a := 0) (b := 0) (x := 0) rfl) z_170_1785 (by decide)
                    refine lv_iconst (v := 3) hx hb ddX6_next_176 (by decide) ?_
                    refine lv_goto (tgt := 181) hx hb ddX6_next_177 (by decide) ?_
                    exact J_181_1793 3 (zi_k (a := 3) (b := 4) (x := 3) rfl) _ _ hO ls (lv_sub hl [0] rfl)
                · have q_139_1801 := zr_nlt h_139_1775
                  have z_139_1802 : zi (-2147483648) 57 v_136_1773 := zu_le q_139_1801 z_136_1774 (zi_k (a := 57) (b := 57) (x := 57) rfl) (by decide)
                  refine lv_aload_n hx hb ddX6_next_142 rfl (lv_at hl 0 rfl) ?_
                  refine cg_Vv (As := []) (rest := []) (mc := 0) (ms := 0) (rm := { frames := 0, cells := 0, slots := 0, locals := 0 }) hC hl.1 hO [0, 1] (by decide +kernel) (k_X6_readNumber l D cy _ _ (u0_0 := u0_0) (u0_1 := u0_1) (u0_2 := u0_2) (c1 := c1) (x0_4 := x0_4) (x0_5 := v_0_1428) (x0_6 := x0_6) (x0_7 := v_0_1428) (u0_8 := .int x0_8) (x0_9 := x0_9) (u0_10 := .int x0_10) (u0_11 := .long w0x11) rfl a1 (zi_w (c := 0) (d := 1600) z_68_1662 (by decide)) (zi_w (c := 0) (d := 1600) z_68_1661 (by decide)) (zi_w (c := 0) (d := 1600) z_68_1661 (by decide))) gq_k_X6_next_k_X6_readNumber_233 rfl rfl rfl 0 (by decide +kernel) ⟨Nat.le_of_ble_eq_true rfl, Nat.le_of_ble_eq_true rfl⟩ rfl (by decide) rfl rfl rfl (Nat.le_of_ble_eq_true rfl) ddX6_next_143 ⟨Nat.le_of_ble_eq_true rfl, Nat.le_of_ble_eq_true rfl⟩ (fun nw_143_1803 l_143_1804 H locs hw hO => ?_)
                  obtain ⟨y0_143_1806, y0_143_1807, y0_143_1808, z_143_1809, z_143_1810, rfl⟩ := hw
                  have hO := hO.mrg (lk := [(0, .inr (6, [u0_0, u0_1, u0_2, .ref (ad 1), .int x0_4, .int y0_143_1806, .int y0_143_1807, .int v_0_1428, .int x0_8, .int y0_143_1808, .int x0_10, .long w0x11]))]) (lm := [(0, .inr (6, [u0_0, u0_1, u0_2, .ref (ad 1), .int x0_4, .int y0_143_1806, .int y0_143_1807, .int v_0_1428, .int x0_8, .int y0_143_1808, .int x0_10, .long w0x11]))]) rfl rfl rfl
                  refine lv_goto (tgt := 194) hx hb ddX6_next_146 (by decide) ?_
                  exact cg_vret (nw := fun _ => 0) hC hr hlk hO.same (Nat.le_of_ble_eq_true rfl) (Nat.le_of_ble_eq_true rfl) (⟨y0_143_1806, y0_143_1807, v_0_1428, x0_8, y0_143_1808, x0_10, w0x11, z_143_1809, (zi_w (c := 0) (d := 4) z_143_1810 (by decide)), (zi_w (c := 0) (d := 1600) z_68_1661 (by decide)), (fun h => (zx_eq (zr_eq h) z_143_1810 (zi_k (a := 1) (b := 1) (x := 1) rfl) (by decide)).elim), rfl⟩) ddX6_next_194
            · have q_104_1811 := zr_nlt h_104_1740
              have z_104_1812 : zi (-2147483648) 122 v_101_1738 := zu_le q_104_1811 z_101_1739 (zi_k (a := 122) (b := 122) (x := 122) rfl) (by decide)
              refine lv_aload_n hx hb ddX6_next_107 rfl (lv_at hl 0 rfl) ?_
              refine cg_Vv (As := []) (rest := []) (mc := 0) (ms := 0) (rm := { frames := 0, cells := 0, slots := 0, locals := 0 }) hC hl.1 hO [0, 1] (by decide +kernel) (k_X6_readWord l D cy _ _ (u0_0 := u0_0) (u0_1 := u0_1) (u0_2 := u0_2) (c1 := c1) (x0_4 := x0_4) (x0_5 := v_0_1428) (x0_6 := x0_6) (x0_7 := v_0_1428) (x0_8 := x0_8) (u0_9 := .int x0_9) (u0_10 := .int x0_10) (w0x11 := w0x11) rfl a1 (zi_w (c := 0) (d := 1600) z_68_1662 (by decide)) (zi_w (c := 0) (d := 1600) z_68_1661 (by decide)) (zi_w (c := 0) (d := 1600) z_68_1661 (by decide))) gq_k_X6_next_k_X6_readWord_230 rfl rfl rfl 0 (by decide +kernel) ⟨Nat.le_of_ble_eq_true rfl, Nat.le_of_ble_eq_true rfl⟩ rfl (by decide) rfl rfl rfl (Nat.le_of_ble_eq_true rfl) ddX6_next_108 ⟨Nat.le_of_ble_eq_true rfl, Nat.le_of_ble_eq_true rfl⟩ (fun nw_108_1813 l_108_1814 H locs hw hO => ?_)
              obtain ⟨y0_108_1816, y0_108_1817, y0_108_1818, w0_108_1819, z_108_1820, z_108_1821, z_108_1822, hw_108_1823, rfl⟩ := hw
              have hO := hO.mrg (lk := [(0, .inr (6, [u0_0, u0_1, u0_2, .ref (ad 1), .int x0_4, .int y0_108_1816, .int y0_108_1817, .int v_0_1428, .int y0_108_1818, .int x0_9, .int x0_10, .long w0_108_1819]))]) (lm := [(0, .inr (6, [u0_0, u0_1, u0_2, .ref (ad 1), .int x0_4, .int y0_108_1816, .int y0_108_1817, .int v_0_1428, .int y0_108_1818, .int x0_9, .int x0_10, .long w0_108_1819]))]) rfl rfl rfl
              refine lv_goto (tgt := 194) hx hb ddX6_next_111 (by decide) ?_
              exact cg_vret (nw := fun _ => 0) hC hr hlk hO.same (Nat.le_of_ble_eq_true rfl) (Nat.le_of_ble_eq_true rfl) (⟨y0_108_1816, y0_108_1817, v_0_1428, y0_108_1818, x0_9, x0_10, w0_108_1819, z_108_1820, (zi_w (c := 0) (d := 4) z_108_1821 (by decide)), (zi_w (c := 0) (d := 1600) z_68_1661 (by decide)), hw_108_1823, rfl⟩) ddX6_next_194
        · have q_68_1824 := zr_nlt h_68_1659
          refine lv_aload_n hx hb ddX6_next_71 rfl (lv_at hl 0 rfl) ?_
          refine lv_iconst (v := 0) hx hb ddX6_next_72 (by decide) ?_
          refine cg_put hC hO 0 (by decide) rfl rfl i_X6 tyX6_ok nmX6 6 (by decide) (List.mem_of_getElem? (i := 47) rfl) rfl rfl rfl (Nat.le_of_ble_eq_true rfl) ddX6_next_73 (fun H locs hO => ?_)
          have hO : cO D cy A s.heap s 2 ad (cup [(0, .inr (6, [u0_0, u0_1, u0_2, .ref (ad 1), .int x0_4, .int v_0_1428, .int 0, .int v_0_1428, .int x0_8, .int x0_9, .int x0_10, .long w0x11]))] g) _ _ := hO
          refine lv_goto (tgt := 194) hx hb ddX6_next_76 (by decide) ?_
          exact cg_vret (nw := fun _ => 0) hC hr hlk hO.same (Nat.le_of_ble_eq_true rfl) (Nat.le_of_ble_eq_true rfl) (⟨v_0_1428, 0, v_0_1428, x0_8, x0_9, x0_10, w0x11, z_0_1429, (zi_k (a := 0) (b := 4) (x := 0) rfl), z_0_1429, (fun h => absurd h (by decide)), rfl⟩) ddX6_next_194
      refine lv_icmp_ge (tgt := 52) hx hb ddX6_next_8 (by decide) (fun h_8_1637 => ?_) (fun h_8_1637 => ?_)
      · have q_8_1825 := zr_le h_8_1637
        exact J_52_1658  _ _ hO ls (lv_sub hl [0] rfl)
      · have q_8_1826 := zr_nle h_8_1637
        have z_8_1827 : zi 0 1599 v_0_1428 := zu_lt q_8_1826 z_0_1429 b0_4 (by decide)
        have z_8_1828 : zi 1 1600 x0_4 := zd_lt q_8_1826 z_0_1429 b0_4 (by decide)
        refine lv_aload_n hx hb ddX6_next_11 rfl (lv_at hl 0 rfl) ?_
        refine cg_get hC hO 0 (by decide) rfl rfl i_X6 3 (by decide) (List.mem_of_getElem? (i := 3) rfl) rfl ddX6_next_12 ?_
        refine lv_aload_n hx hb ddX6_next_15 rfl (lv_at hl 0 rfl) ?_
        refine cg_get hC hO 0 (by decide) rfl rfl i_X6 5 (by decide) (List.mem_of_getElem? (i := 1) rfl) rfl ddX6_next_16 ?_
        refine zg_iald hC hO 1 (by decide) a1 (za_all _) (zi_in z_8_1827 (by decide)) ddX6_next_19 (fun v_19_1829 z_19_1830 => ?_)
        refine lv_bipush (v := 32) hx hb ddX6_next_20 (by decide) ?_
        refine lv_icmp_eq (tgt := 39) hx hb ddX6_next_22 (by decide) (fun h_22_1831 => ?_) (fun h_22_1831 => ?_)
        · have q_22_1832 := zr_eq h_22_1831
          have z_22_1833 : zi 32 32 v_19_1829 := ze_eq q_22_1832 z_19_1830 (zi_k (a := 32) (b := 32) (x := 32) rfl)
          refine lv_aload_n hx hb ddX6_next_39 rfl (lv_at hl 0 rfl) ?_
          refine lv_dup hx hb ddX6_next_40 rfl ?_
          refine cg_get hC hO 0 (by decide) rfl rfl i_X6 5 (by decide) (List.mem_of_getElem? (i := 1) rfl) rfl ddX6_next_41 ?_
          refine lv_iconst (v := 1) hx hb ddX6_next_44 (by decide) ?_
          refine lv_iadd hx hb ddX6_next_45 ?_
          refine zg_top2 (P := fun v => zi 1 1600 v) (E := fun v => v.toInt = v_0_1428.toInt + 1) (zi_addk z_8_1827 (n := 1) (by decide) (by decide)) (fun v_45_1834 z_45_1835 q_45_1836 => ?_)
          refine cg_put hC hO 0 (by decide) rfl rfl i_X6 tyX6_ok nmX6 5 (by decide) (List.mem_of_getElem? (i := 1) rfl) rfl rfl rfl (Nat.le_of_ble_eq_true rfl) ddX6_next_46 (fun H locs hO => ?_)
          have hO : cO D cy A s.heap s 2 ad (cup [(0, .inr (6, [u0_0, u0_1, u0_2, .ref (ad 1), .int x0_4, .int v_45_1834, .int x0_6, .int x0_7, .int x0_8, .int x0_9, .int x0_10, .long w0x11]))] g) _ _ := hO
          refine lv_goto (tgt := 0) hx hb ddX6_next_49 (by decide) ?_
          exact ih_0_1636 v_45_1834 (zi_w (c := 0) (d := 1600) z_45_1835 (by decide)) (zm_up q_45_1836 ((zi_w (c := 0) (d := 1600) z_45_1835 (by decide))).2 (by decide) mu_0_1635) _ _ hO ls (lv_sub hl [0] rfl)
        · refine lv_aload_n hx hb ddX6_next_25 rfl (lv_at hl 0 rfl) ?_
          refine cg_get hC hO 0 (by decide) rfl rfl i_X6 3 (by decide) (List.mem_of_getElem? (i := 3) rfl) rfl ddX6_next_26 ?_
          refine lv_aload_n hx hb ddX6_next_29 rfl (lv_at hl 0 rfl) ?_
          refine cg_get hC hO 0 (by decide) rfl rfl i_X6 5 (by decide) (List.mem_of_getElem? (i := 1) rfl) rfl ddX6_next_30 ?_
          refine zg_iald hC hO 1 (by decide) a1 (za_all _) (zi_in z_8_1827 (by decide)) ddX6_next_33 (fun v_33_1837 z_33_1838 => ?_)
          refine lv_bipush (v := 10) hx hb ddX6_next_34 (by decide) ?_
          refine lv_icmp_ne (tgt := 52) hx hb ddX6_next_36 (by decide) (fun h_36_1839 => ?_) (fun h_36_1839 => ?_)
          · exact J_52_1658  _ _ hO ls (lv_sub hl [0] rfl)
          · have q_36_1840 := zr_eq h_36_1839
            have z_36_1841 : zi 10 10 v_33_1837 := ze_eq q_36_1840 z_33_1838 (zi_k (a := 10) (b := 10) (x := 10) rfl)
            refine lv_aload_n hx hb ddX6_next_39 rfl (lv_at hl 0 rfl) ?_
            refine lv_dup hx hb ddX6_next_40 rfl ?_
            refine cg_get hC hO 0 (by decide) rfl rfl i_X6 5 (by decide) (List.mem_of_getElem? (i := 1) rfl) rfl ddX6_next_41 ?_
            refine lv_iconst (v := 1) hx hb ddX6_next_44 (by decide) ?_
            refine lv_iadd hx hb ddX6_next_45 ?_
            refine zg_top2 (P := fun v => zi 1 1600 v) (E := fun v => v.toInt = v_0_1428.toInt + 1) (zi_addk z_8_1827 (n := 1) (by decide) (by decide)) (fun v_45_1842 z_45_1843 q_45_1844 => ?_)
            refine cg_put hC hO 0 (by decide) rfl rfl i_X6 tyX6_ok nmX6 5 (by decide) (List.mem_of_getElem? (i := 1) rfl) rfl rfl rfl (Nat.le_of_ble_eq_true rfl) ddX6_next_46 (fun H locs hO => ?_)
            have hO : cO D cy A s.heap s 2 ad (cup [(0, .inr (6, [u0_0, u0_1, u0_2, .ref (ad 1), .int x0_4, .int v_45_1842, .int x0_6, .int x0_7, .int x0_8, .int x0_9, .int x0_10, .long w0x11]))] g) _ _ := hO
            refine lv_goto (tgt := 0) hx hb ddX6_next_49 (by decide) ?_
            exact ih_0_1636 v_45_1842 (zi_w (c := 0) (d := 1600) z_45_1843 (by decide)) (zm_up q_45_1844 ((zi_w (c := 0) (d := 1600) z_45_1843 (by decide))).2 (by decide) mu_0_1635) _ _ hO ls (lv_sub hl [0] rfl)
  exact loop_0_1633 ((1600 + 1 - (x0_5 : Int32).toInt).toNat + 1) x0_5 b0_5 (Nat.lt_succ_self _) _ _ hO ls (lv_sub hl [0] rfl)

theorem ddX6_is_0 : decode cX6_is 0 = .ok (.aload_n 0, 1) := by decide +kernel
theorem ddX6_is_1 : decode cX6_is 1 = .ok (.getfield 47, 3) := by decide +kernel
theorem ddX6_is_4 : decode cX6_is 4 = .ok (.iconst 1, 1) := by decide +kernel
theorem ddX6_is_5 : decode cX6_is 5 = .ok (.if_icmp .ne 14, 3) := by decide +kernel
theorem ddX6_is_8 : decode cX6_is 8 = .ok (.aload_n 0, 1) := by decide +kernel
theorem ddX6_is_9 : decode cX6_is 9 = .ok (.getfield 218, 3) := by decide +kernel
theorem ddX6_is_12 : decode cX6_is 12 = .ok (.aload_n 1, 1) := by decide +kernel
theorem ddX6_is_13 : decode cX6_is 13 = .ok (.invokevirtual 221, 3) := by decide +kernel
theorem ddX6_is_16 : decode cX6_is 16 = .ok (.if_icmp .eq 5, 3) := by decide +kernel
theorem ddX6_is_19 : decode cX6_is 19 = .ok (.iconst 0, 1) := by decide +kernel
theorem ddX6_is_20 : decode cX6_is 20 = .ok (.ireturn, 1) := by decide +kernel
theorem ddX6_is_21 : decode cX6_is 21 = .ok (.iconst 0, 1) := by decide +kernel
theorem ddX6_is_22 : decode cX6_is 22 = .ok (.istore_n 2, 1) := by decide +kernel
theorem ddX6_is_23 : decode cX6_is 23 = .ok (.iload_n 2, 1) := by decide +kernel
theorem ddX6_is_24 : decode cX6_is 24 = .ok (.aload_n 0, 1) := by decide +kernel
theorem ddX6_is_25 : decode cX6_is 25 = .ok (.getfield 218, 3) := by decide +kernel
theorem ddX6_is_28 : decode cX6_is 28 = .ok (.if_icmp .ge 30, 3) := by decide +kernel
theorem ddX6_is_31 : decode cX6_is 31 = .ok (.aload_n 0, 1) := by decide +kernel
theorem ddX6_is_32 : decode cX6_is 32 = .ok (.getfield 22, 3) := by decide +kernel
theorem ddX6_is_35 : decode cX6_is 35 = .ok (.aload_n 0, 1) := by decide +kernel
theorem ddX6_is_36 : decode cX6_is 36 = .ok (.getfield 212, 3) := by decide +kernel
theorem ddX6_is_39 : decode cX6_is 39 = .ok (.iload_n 2, 1) := by decide +kernel
theorem ddX6_is_40 : decode cX6_is 40 = .ok (.iadd, 1) := by decide +kernel
theorem ddX6_is_41 : decode cX6_is 41 = .ok (.iaload, 1) := by decide +kernel
theorem ddX6_is_42 : decode cX6_is 42 = .ok (.aload_n 1, 1) := by decide +kernel
theorem ddX6_is_43 : decode cX6_is 43 = .ok (.iload_n 2, 1) := by decide +kernel
theorem ddX6_is_44 : decode cX6_is 44 = .ok (.invokevirtual 226, 3) := by decide +kernel
theorem ddX6_is_47 : decode cX6_is 47 = .ok (.if_icmp .eq 5, 3) := by decide +kernel
theorem ddX6_is_50 : decode cX6_is 50 = .ok (.iconst 0, 1) := by decide +kernel
theorem ddX6_is_51 : decode cX6_is 51 = .ok (.ireturn, 1) := by decide +kernel
theorem ddX6_is_52 : decode cX6_is 52 = .ok (.iinc 2 1, 3) := by decide +kernel
theorem ddX6_is_55 : decode cX6_is 55 = .ok (.goto (-32), 3) := by decide +kernel
theorem ddX6_is_58 : decode cX6_is 58 = .ok (.iconst 1, 1) := by decide +kernel
theorem ddX6_is_59 : decode cX6_is 59 = .ok (.ireturn, 1) := by decide +kernel
def wq_k_is_0 : List Cond := Cond.code yX6_is cX6_is 3 (some .boolean) :: (([Cond.fieldLink RX6 47 "CrowToll$Reader" "kind" "I", Cond.fieldLink RX6 218 "CrowToll$Reader" "size" "I", Cond.methodLink RX6 221 yJ0_length_8abf5, Cond.instanceMethod yJ0_length_8abf5, Cond.selects RJ0 yJ0_length_8abf5 yJ0_length_8abf5, Cond.initialized RJ0, Cond.code yJ0_length_8abf5 cJ0_length_8abf5 1 (some .int), Cond.fieldLink RJ0 9 "java/lang/String" "value" "[B", Cond.methodLink RJ0 335 yJ0_coder_7d493, Cond.instanceMethod yJ0_coder_7d493, Cond.selects RJ0 yJ0_coder_7d493 yJ0_coder_7d493, Cond.code yJ0_coder_7d493 cJ0_coder_7d493 1 (some .byte), Cond.fieldLink RJ0 38 "java/lang/String" "COMPACT_STRINGS" "Z", Cond.fieldLink RJ0 15 "java/lang/String" "coder" "B", Cond.fieldLink RX6 22 "CrowToll$Reader" "text" "[I", Cond.fieldLink RX6 212 "CrowToll$Reader" "place" "I", Cond.methodLink RX6 226 yJ0_charAt_5068e, Cond.instanceMethod yJ0_charAt_5068e, Cond.selects RJ0 yJ0_charAt_5068e yJ0_charAt_5068e, Cond.code yJ0_charAt_5068e cJ0_charAt_5068e 2 (some .char), Cond.methodLink RJ0 492 yJ0_isLatin1_aae02, Cond.instanceMethod yJ0_isLatin1_aae02, Cond.selects RJ0 yJ0_isLatin1_aae02 yJ0_isLatin1_aae02, Cond.code yJ0_isLatin1_aae02 cJ0_isLatin1_aae02 1 (some .boolean), Cond.methodLink RJ0 495 yJ1_charAt_3b067, Cond.static yJ1_charAt_3b067, Cond.initialized RJ1, Cond.code yJ1_charAt_3b067 cJ1_charAt_3b067 2 (some .char), Cond.methodLink RJ1 9 yJ0_checkIndex_df160, Cond.static yJ0_checkIndex_df160, Cond.code yJ0_checkIndex_df160 cJ0_checkIndex_df160 2 none, Cond.fieldLink RJ0 1053 "jdk/internal/util/Preconditions" "SIOOBE_FORMATTER" "Ljava/util/function/BiFunction;", Cond.methodLink RJ0 1059 yJ3_checkIndex_8e157, Cond.static yJ3_checkIndex_8e157, Cond.initialized RJ3, Cond.code yJ3_checkIndex_8e157 cJ3_checkIndex_8e157 3 (some .int)] : List Cond) ++ wsX60)
set_option maxRecDepth 20000 in
theorem gr_k_is_0_k_length_0 : GoodIn wq_k_is_0 wq_k_length_0 := List.forall_mem_cons.mpr ⟨⟨(List.mem_of_getElem? (i := 7) rfl), good_of_word rfl⟩, List.forall_mem_cons.mpr ⟨⟨(List.mem_of_getElem? (i := 8) rfl), good_of_word rfl⟩, List.forall_mem_cons.mpr ⟨⟨(List.mem_of_getElem? (i := 9) rfl), good_of_word rfl⟩, List.forall_mem_cons.mpr ⟨⟨(List.mem_of_getElem? (i := 10) rfl), good_of_word rfl⟩, List.forall_mem_cons.mpr ⟨⟨(List.mem_of_getElem? (i := 11) rfl), good_of_word rfl⟩, List.forall_mem_cons.mpr ⟨⟨(List.mem_of_getElem? (i := 6) rfl), good_of_word rfl⟩, List.forall_mem_cons.mpr ⟨⟨(List.mem_of_getElem? (i := 12) rfl), good_of_word rfl⟩, List.forall_mem_cons.mpr ⟨⟨(List.mem_of_getElem? (i := 13) rfl), good_of_word rfl⟩, List.forall_mem_cons.mpr ⟨⟨(List.mem_of_getElem? (i := 14) rfl), good_of_word rfl⟩, (fun _ h => absurd h List.not_mem_nil)⟩⟩⟩⟩⟩⟩⟩⟩⟩
set_option maxRecDepth 20000 in
theorem gq_k_is_0_k_length_0_221 : GoodIn wq_k_is_0 (wsV RX6 221 RJ0 yJ0_length_8abf5 wq_k_length_0) := goodIn_app (List.forall_mem_cons.mpr ⟨⟨(List.mem_of_getElem? (i := 3) rfl), good_of_word rfl⟩, List.forall_mem_cons.mpr ⟨⟨(List.mem_of_getElem? (i := 4) rfl), good_of_word rfl⟩, List.forall_mem_cons.mpr ⟨⟨(List.mem_of_getElem? (i := 5) rfl), good_of_word rfl⟩, List.forall_mem_cons.mpr ⟨⟨(List.mem_of_getElem? (i := 6) rfl), good_of_word rfl⟩, (fun _ h => absurd h List.not_mem_nil)⟩⟩⟩⟩) gr_k_is_0_k_length_0
set_option maxRecDepth 20000 in
theorem gr_k_is_0_k_charAt_0 : GoodIn wq_k_is_0 wq_k_charAt_0 := List.forall_mem_cons.mpr ⟨⟨(List.mem_of_getElem? (i := 20) rfl), good_of_word rfl⟩, List.forall_mem_cons.mpr ⟨⟨(List.mem_of_getElem? (i := 21) rfl), good_of_word rfl⟩, List.forall_mem_cons.mpr ⟨⟨(List.mem_of_getElem? (i := 22) rfl), good_of_word rfl⟩, List.forall_mem_cons.mpr ⟨⟨(List.mem_of_getElem? (i := 23) rfl), good_of_word rfl⟩, List.forall_mem_cons.mpr ⟨⟨(List.mem_of_getElem? (i := 6) rfl), good_of_word rfl⟩, List.forall_mem_cons.mpr ⟨⟨(List.mem_of_getElem? (i := 24) rfl), good_of_word rfl⟩, List.forall_mem_cons.mpr ⟨⟨(List.mem_of_getElem? (i := 13) rfl), good_of_word rfl⟩, List.forall_mem_cons.mpr ⟨⟨(List.mem_of_getElem? (i := 14) rfl), good_of_word rfl⟩, List.forall_mem_cons.mpr ⟨⟨(List.mem_of_getElem? (i := 8) rfl), good_of_word rfl⟩, List.forall_mem_cons.mpr ⟨⟨(List.mem_of_getElem? (i := 25) rfl), good_of_word rfl⟩, List.forall_mem_cons.mpr ⟨⟨(List.mem_of_getElem? (i := 26) rfl), good_of_word rfl⟩, List.forall_mem_cons.mpr ⟨⟨(List.mem_of_getElem? (i := 27) rfl), good_of_word rfl⟩, List.forall_mem_cons.mpr ⟨⟨(List.mem_of_getElem? (i := 28) rfl), good_of_word rfl⟩, List.forall_mem_cons.mpr ⟨⟨(List.mem_of_getElem? (i := 29) rfl), good_of_word rfl⟩, List.forall_mem_cons.mpr ⟨⟨(List.mem_of_getElem? (i := 30) rfl), good_of_word rfl⟩, List.forall_mem_cons.mpr ⟨⟨(List.mem_of_getElem? (i := 31) rfl), good_of_word rfl⟩, List.forall_mem_cons.mpr ⟨⟨(List.mem_of_getElem? (i := 32) rfl), good_of_word rfl⟩, List.forall_mem_cons.mpr ⟨⟨(List.mem_of_getElem? (i := 33) rfl), good_of_word rfl⟩, List.forall_mem_cons.mpr ⟨⟨(List.mem_of_getElem? (i := 34) rfl), good_of_word rfl⟩, List.forall_mem_cons.mpr ⟨⟨(List.mem_of_getElem? (i := 35) rfl), good_of_word rfl⟩, List.forall_mem_cons.mpr ⟨⟨(List.mem_of_getElem? (i := 36) rfl), good_of_word rfl⟩, (fun _ h => absurd h List.not_mem_nil)⟩⟩⟩⟩⟩⟩⟩⟩⟩⟩⟩⟩⟩⟩⟩⟩⟩⟩⟩⟩⟩
set_option maxRecDepth 20000 in
theorem gq_k_is_0_k_charAt_0_226 : GoodIn wq_k_is_0 (wsV RX6 226 RJ0 yJ0_charAt_5068e wq_k_charAt_0) := goodIn_app (List.forall_mem_cons.mpr ⟨⟨(List.mem_of_getElem? (i := 17) rfl), good_of_word rfl⟩, List.forall_mem_cons.mpr ⟨⟨(List.mem_of_getElem? (i := 18) rfl), good_of_word rfl⟩, List.forall_mem_cons.mpr ⟨⟨(List.mem_of_getElem? (i := 19) rfl), good_of_word rfl⟩, List.forall_mem_cons.mpr ⟨⟨(List.mem_of_getElem? (i := 6) rfl), good_of_word rfl⟩, (fun _ h => absurd h List.not_mem_nil)⟩⟩⟩⟩) gr_k_is_0_k_charAt_0
set_option maxHeartbeats 8000000 in
set_option maxRecDepth 100000 in
theorem k_is_0 (l : Launch) (D : va_G) (cy : Nat → ClassId) (ad : Nat → Nat) (g : Nat → va_E) {u0_0 : Value} {u0_1 : Value} {u0_2 : Value} {u0_4 : Value} {u0_5 : Value} {x0_6 : Int32} {x0_7 : Int32} {x0_8 : Int32} {u0_9 : Value} {u0_10 : Value} {u0_11 : Value} {c1 : Nat → Int32} (o0 : g 0 = .inr (6, [u0_0, u0_1, u0_2, .ref (ad 1), u0_4, u0_5, .int x0_6, .int x0_7, .int x0_8, u0_9, u0_10, u0_11])) (a1 : g 1 = .inl (cy 0, 1600, .inl c1)) (b0_7 : zi 0 1600 x0_7) (hw0 : ((x0_6 : Int32) = 1 → (x0_7 : Int32).toInt + (x0_8 : Int32).toInt ≤ 1600)) : cMi l yX6_is wq_k_is_0 { frames := 4, cells := 0, slots := 0, locals := 85 } 2 0 0 0 D cy ad g [.ref (ad 0), .ref (cy (100 + 0))] (fun r nw lu => (zi 0 1 r) ∧ (lu = [])) := by
  refine cM_of (Qc := fun A => cQi (fun r nw lu => (zi 0 1 r) ∧ (lu = [])) D 2 0 ad g A) (cc := cX6_is) (maxL := 3) (ret := (some .boolean)) (by decide) rfl (Nat.le_of_ble_eq_true rfl) ?_
  intro p e s m below meth c A hC hr hlk hnm hO ls hl
  have hC : CallFix p m c cX6_is 3 s [.ref (ad 0), .ref (cy (100 + 0))].toArray wq_k_is_0 RX6 := hC
  obtain ⟨hx, hb, hml, hown, hts⟩ := id hC
  have hl : lv_has ls 3 [(0, .ref (ad 0)), (1, .ref (cy (100 + 0)))] := hl
  have i_X6 : ∀ w ∈ wsX60, w ∈ wq_k_is_0 := fun w h => List.mem_cons_of_mem _ (List.mem_append_right _ h)
  refine lv_aload_n hx hb ddX6_is_0 rfl (lv_at hl 0 rfl) ?_
  refine cg_get hC hO 0 (by decide) o0 rfl i_X6 6 (by decide) (List.mem_of_getElem? (i := 1) rfl) rfl ddX6_is_1 ?_
  refine lv_iconst (v := 1) hx hb ddX6_is_4 (by decide) ?_
  refine lv_icmp_ne (tgt := 19) hx hb ddX6_is_5 (by decide) (fun h_5_139 => ?_) (fun h_5_139 => ?_)
  · refine lv_iconst (v := 0) hx hb ddX6_is_19 (by decide) ?_
    exact cg_iret (nw := fun _ => 0) hC hr hlk hO.same rfl (Nat.le_of_ble_eq_true rfl) (Nat.le_of_ble_eq_true rfl) (⟨(zi_k (a := 0) (b := 1) (x := 0) rfl), rfl⟩) ddX6_is_20
  · have q_5_140 := zr_eq h_5_139
    have z_5_141 : zi 1 1 x0_6 := ze_eq q_5_140 (zi_all x0_6) (zi_k (a := 1) (b := 1) (x := 1) rfl)
    refine lv_aload_n hx hb ddX6_is_8 rfl (lv_at hl 0 rfl) ?_
    refine cg_get hC hO 0 (by decide) o0 rfl i_X6 8 (by decide) (List.mem_of_getElem? (i := 2) rfl) rfl ddX6_is_9 ?_
    refine lv_aload_n hx hb ddX6_is_12 rfl (lv_at hl 1 rfl) ?_
    refine sg_Vi (As := []) (rest := [.int x0_8]) (mc := 0) (ms := 0) (rm := { frames := 1, cells := 0, slots := 0, locals := 20 }) hC hl.1 hO [] (by decide +kernel) 0 (by decide) (k_length_0 l D cy _ _  ) gq_k_is_0_k_length_0_221 rfl rfl rfl 0 (by decide +kernel) ⟨Nat.le_of_ble_eq_true rfl, Nat.le_of_ble_eq_true rfl⟩ rfl rfl (Nat.le_of_ble_eq_true rfl) ddX6_is_13 ⟨Nat.le_of_ble_eq_true rfl, Nat.le_of_ble_eq_true rfl⟩ (fun r_13_144 nw_13_142 l_13_143 H locs hw hO => ?_)
    obtain ⟨rfl, rfl⟩ := hw
    have hO : cO D cy A s.heap s 2 ad (cup [] g) _ _ := hO
    refine lv_icmp_eq (tgt := 21) hx hb ddX6_is_16 (by decide) (fun h_16_145 => ?_) (fun h_16_145 => ?_)
    · have q_16_146 := zr_eq h_16_145
      have z_16_147 : zi 4 4 x0_8 := ze_eq q_16_146 (zi_all x0_8) (zi_k (a := 4) (b := 4) (x := 4) rfl)
      refine lv_iconst (v := 0) hx hb ddX6_is_21 (by decide) ?_
      refine lv_istore_n (lv' := [(2, .int 0), (0, .ref (ad 0)), (1, .ref (cy (100 + 0)))]) hx hb ddX6_is_22 rfl hl (by decide) rfl (fun ls hl => ?_)
      have loop_23_277 : ∀ (d_23_278 : Nat) (v_23_253 : Int32), zi 0 4 v_23_253 → (4 + 1 - v_23_253.toInt).toNat < d_23_278 → ∀ (H : Heap) (locs : List Loc), cO D cy A s.heap s 2 ad (cup [] g) H locs → ∀ ls : Array Slot, lv_has ls 3 [(2, .int v_23_253), (0, .ref (ad 0)), (1, .ref (cy (100 + 0)))] → W p l e { frames := 4, cells := 0, slots := 0, locals := 85 } s m [.ref (ad 0), .ref (cy (100 + 0))].toArray below meth c H locs 0 0 (MQ below (cQi (fun r nw lu => (zi 0 1 r) ∧ (lu = [])) D 2 0 ad g A) [.ref (ad 0), .ref (cy (100 + 0))].toArray s 0 0 A) (F0 m 23 ls [])  := by
        intro d_23_278
        induction d_23_278 with
        | zero => intro v_23_253 z_23_254 mu_23_279; exact absurd mu_23_279 (Nat.not_lt_zero _)
        | succ d_23_278 ih_23_280 =>
          intro v_23_253 z_23_254 mu_23_279 H locs hO ls hl
          refine lv_iload_n hx hb ddX6_is_23 rfl (lv_at hl 0 rfl) ?_
          refine lv_aload_n hx hb ddX6_is_24 rfl (lv_at hl 1 rfl) ?_
          refine cg_get hC hO 0 (by decide) o0 rfl i_X6 8 (by decide) (List.mem_of_getElem? (i := 2) rfl) rfl ddX6_is_25 ?_
          refine lv_icmp_ge (tgt := 58) hx hb ddX6_is_28 (by decide) (fun h_28_281 => ?_) (fun h_28_281 => ?_)
          · have q_28_282 := zr_le h_28_281
            have z_28_283 : zi 4 4 v_23_253 := zd_le q_28_282 z_16_147 z_23_254 (by decide)
            refine lv_iconst (v := 1) hx hb ddX6_is_58 (by decide) ?_
            exact cg_iret (nw := fun _ => 0) hC hr hlk hO.same rfl (Nat.le_of_ble_eq_true rfl) (Nat.le_of_ble_eq_true rfl) (⟨(zi_k (a := 0) (b := 1) (x := 1) rfl), rfl⟩) ddX6_is_59
          · have q_28_284 := zr_nle h_28_281
            have z_28_285 : zi 0 3 v_23_253 := zu_lt q_28_284 z_23_254 z_16_147 (by decide)
            refine lv_aload_n hx hb ddX6_is_31 rfl (lv_at hl 1 rfl) ?_
            refine cg_get hC hO 0 (by decide) o0 rfl i_X6 3 (by decide) (List.mem_of_getElem? (i := 15) rfl) rfl ddX6_is_32 ?_
            refine lv_aload_n hx hb ddX6_is_35 rfl (lv_at hl 1 rfl) ?_
            refine cg_get hC hO 0 (by decide) o0 rfl i_X6 7 (by decide) (List.mem_of_getElem? (i := 16) rfl) rfl ddX6_is_36 ?_
            refine lv_iload_n hx hb ddX6_is_39 rfl (lv_at hl 0 rfl) ?_
            have z_40_286 : zi 0 1596 x0_7 := ⟨b0_7.1, by have q1 := hw0 h_5_139; have q2 := z_16_147; omega⟩
            refine lv_iadd hx hb ddX6_is_40 ?_
            refine zg_top2 (P := fun v => zi 0 1599 v) (E := fun v => v.toInt = (x0_7 : Int32).toInt + (v_23_253 : Int32).toInt) (zi_add z_40_286 z_28_285 (by decide)) (fun v_40_287 z_40_288 q_40_289 => ?_)
            refine zg_iald hC hO 1 (by decide) a1 (za_all _) (zi_in z_40_288 (by decide)) ddX6_is_41 (fun v_41_290 z_41_291 => ?_)
            refine lv_aload_n hx hb ddX6_is_42 rfl (lv_at hl 2 rfl) ?_
            refine lv_iload_n hx hb ddX6_is_43 rfl (lv_at hl 0 rfl) ?_
            refine sg_Vi (As := [.int v_23_253]) (rest := [.int v_41_290]) (mc := 0) (ms := 0) (rm := { frames := 3, cells := 0, slots := 0, locals := 64 }) hC hl.1 hO [] (by decide +kernel) 0 (by decide) (k_charAt_0 l D cy _ _ (n := v_23_253) z_28_285) gq_k_is_0_k_charAt_0_226 rfl rfl rfl 1 (by decide +kernel) ⟨Nat.le_of_ble_eq_true rfl, Nat.le_of_ble_eq_true rfl⟩ rfl rfl (Nat.le_of_ble_eq_true rfl) ddX6_is_44 ⟨Nat.le_of_ble_eq_true rfl, Nat.le_of_ble_eq_true rfl⟩ (fun r_44_294 nw_44_292 l_44_293 H locs hw hO => ?_)
            obtain ⟨z_44_295, rfl⟩ := hw
            have hO : cO D cy A s.heap s 2 ad (cup [] g) _ _ := hO
            refine lv_icmp_eq (tgt := 52) hx hb ddX6_is_47 (by decide) (fun h_47_296 => ?_) (fun h_47_296 => ?_)
            · have q_47_297 := zr_eq h_47_296
              have z_47_298 : zi 0 65535 v_41_290 := ze_eq q_47_297 z_41_291 z_44_295
              obtain ⟨v_52_299, e_52_300, z_52_301, q_52_302⟩ := zi_inc (e := 1) (f := 4) 1 z_28_285 (by decide)
              refine lv_iinc (v := v_52_299) (lv' := [(2, .int v_52_299), (0, .ref (ad 0)), (1, .ref (cy (100 + 0)))]) hx hb ddX6_is_52 hl (k := 0) rfl e_52_300 (by decide) rfl (fun ls hl => ?_)
              refine lv_goto (tgt := 23) hx hb ddX6_is_55 (by decide) ?_
              exact ih_23_280 v_52_299 (zi_w (c := 0) (d := 4) z_52_301 (by decide)) (zm_up q_52_302 ((zi_w (c := 0) (d := 4) z_52_301 (by decide))).2 (by decide) mu_23_279) _ _ hO ls (lv_sub hl [0, 1, 2] rfl)
            · refine lv_iconst (v := 0) hx hb ddX6_is_50 (by decide) ?_
              exact cg_iret (nw := fun _ => 0) hC hr hlk hO.same rfl (Nat.le_of_ble_eq_true rfl) (Nat.le_of_ble_eq_true rfl) (⟨(zi_k (a := 0) (b := 1) (x := 0) rfl), rfl⟩) ddX6_is_51
      exact loop_23_277 ((4 + 1 - (0 : Int32).toInt).toNat + 1) 0 (zi_k (a := 0) (b := 4) (x := 0) rfl) (Nat.lt_succ_self _) _ _ hO ls (lv_sub hl [0, 1, 2] rfl)
    · refine lv_iconst (v := 0) hx hb ddX6_is_19 (by decide) ?_
      exact cg_iret (nw := fun _ => 0) hC hr hlk hO.same rfl (Nat.le_of_ble_eq_true rfl) (Nat.le_of_ble_eq_true rfl) (⟨(zi_k (a := 0) (b := 1) (x := 0) rfl), rfl⟩) ddX6_is_20

