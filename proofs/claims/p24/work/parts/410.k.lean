theorem ddX8_asSeen_0 : decode cX8_asSeen 0 = .ok (.iconst 0, 1) := by decide +kernel
theorem ddX8_asSeen_1 : decode cX8_asSeen 1 = .ok (.istore_n 2, 1) := by decide +kernel
theorem ddX8_asSeen_2 : decode cX8_asSeen 2 = .ok (.iload_n 2, 1) := by decide +kernel
theorem ddX8_asSeen_3 : decode cX8_asSeen 3 = .ok (.aload_n 0, 1) := by decide +kernel
theorem ddX8_asSeen_4 : decode cX8_asSeen 4 = .ok (.getfield 49, 3) := by decide +kernel
theorem ddX8_asSeen_7 : decode cX8_asSeen 7 = .ok (.if_icmp .ge 44, 3) := by decide +kernel
theorem ddX8_asSeen_10 : decode cX8_asSeen 10 = .ok (.aload_n 0, 1) := by decide +kernel
theorem ddX8_asSeen_11 : decode cX8_asSeen 11 = .ok (.getfield 35, 3) := by decide +kernel
theorem ddX8_asSeen_14 : decode cX8_asSeen 14 = .ok (.iload_n 2, 1) := by decide +kernel
theorem ddX8_asSeen_15 : decode cX8_asSeen 15 = .ok (.iaload, 1) := by decide +kernel
theorem ddX8_asSeen_16 : decode cX8_asSeen 16 = .ok (.iload_n 1, 1) := by decide +kernel
theorem ddX8_asSeen_17 : decode cX8_asSeen 17 = .ok (.if_icmp .ne 28, 3) := by decide +kernel
theorem ddX8_asSeen_20 : decode cX8_asSeen 20 = .ok (.aload_n 0, 1) := by decide +kernel
theorem ddX8_asSeen_21 : decode cX8_asSeen 21 = .ok (.getfield 45, 3) := by decide +kernel
theorem ddX8_asSeen_24 : decode cX8_asSeen 24 = .ok (.getfield 125, 3) := by decide +kernel
theorem ddX8_asSeen_27 : decode cX8_asSeen 27 = .ok (.aload_n 0, 1) := by decide +kernel
theorem ddX8_asSeen_28 : decode cX8_asSeen 28 = .ok (.getfield 15, 3) := by decide +kernel
theorem ddX8_asSeen_31 : decode cX8_asSeen 31 = .ok (.iload_n 2, 1) := by decide +kernel
theorem ddX8_asSeen_32 : decode cX8_asSeen 32 = .ok (.iaload, 1) := by decide +kernel
theorem ddX8_asSeen_33 : decode cX8_asSeen 33 = .ok (.iaload, 1) := by decide +kernel
theorem ddX8_asSeen_34 : decode cX8_asSeen 34 = .ok (.aload_n 0, 1) := by decide +kernel
theorem ddX8_asSeen_35 : decode cX8_asSeen 35 = .ok (.getfield 18, 3) := by decide +kernel
theorem ddX8_asSeen_38 : decode cX8_asSeen 38 = .ok (.iload_n 2, 1) := by decide +kernel
theorem ddX8_asSeen_39 : decode cX8_asSeen 39 = .ok (.iaload, 1) := by decide +kernel
theorem ddX8_asSeen_40 : decode cX8_asSeen 40 = .ok (.if_icmp .eq 5, 3) := by decide +kernel
theorem ddX8_asSeen_43 : decode cX8_asSeen 43 = .ok (.iconst 0, 1) := by decide +kernel
theorem ddX8_asSeen_44 : decode cX8_asSeen 44 = .ok (.ireturn, 1) := by decide +kernel
theorem ddX8_asSeen_45 : decode cX8_asSeen 45 = .ok (.iinc 2 1, 3) := by decide +kernel
theorem ddX8_asSeen_48 : decode cX8_asSeen 48 = .ok (.goto (-46), 3) := by decide +kernel
theorem ddX8_asSeen_51 : decode cX8_asSeen 51 = .ok (.iconst 1, 1) := by decide +kernel
theorem ddX8_asSeen_52 : decode cX8_asSeen 52 = .ok (.ireturn, 1) := by decide +kernel
def wq_k_X8_asSeen : List Cond := Cond.code yX8_asSeen cX8_asSeen 3 (some .boolean) :: (([Cond.fieldLink RX8 49 "CrowToll$Sights" "size" "I", Cond.fieldLink RX8 35 "CrowToll$Sights" "due" "[I", Cond.fieldLink RX8 45 "CrowToll$Sights" "watch" "LCrowToll$Watch;", Cond.fieldLink RX8 125 "CrowToll$Watch" "count" "[I", Cond.fieldLink RX8 15 "CrowToll$Sights" "bird" "[I", Cond.fieldLink RX8 18 "CrowToll$Sights" "count" "[I"] : List Cond) ++ wsX80 ++ wsX100)
set_option maxHeartbeats 8000000 in
set_option maxRecDepth 100000 in
theorem k_X8_asSeen (l : Launch) (D : va_G) (cy : Nat → ClassId) (ad : Nat → Nat) (g : Nat → va_E) {u0_0 : Value} {u0_2 : Value} {u0_5 : Value} {u0_6 : Value} {x0_7 : Int32} {u0_8 : Value} {u0_9 : Value} {u0_10 : Value} {u0_11 : Value} {u0_13 : Value} {u0_14 : Value} {u0_15 : Value} {c1 : Nat → Int32} {u2_0 : Value} {u2_1 : Value} {u2_2 : Value} {u2_3 : Value} {u2_5 : Value} {u2_6 : Value} {u2_7 : Value} {c3 : Nat → Int32} {c4 : Nat → Int32} {c5 : Nat → Int32} {n : Int32} (o0 : g 0 = .inr (8, [u0_0, .ref (ad 2), u0_2, .ref (ad 3), .ref (ad 5), u0_5, u0_6, .int x0_7, u0_8, u0_9, u0_10, u0_11, .ref (ad 1), u0_13, u0_14, u0_15])) (a1 : g 1 = .inl (cy 0, 30, .inl c1)) (o2 : g 2 = .inr (10, [u2_0, u2_1, u2_2, u2_3, .ref (ad 4), u2_5, u2_6, u2_7])) (a3 : g 3 = .inl (cy 0, 30, .inl c3)) (a4 : g 4 = .inl (cy 0, 5, .inl c4)) (a5 : g 5 = .inl (cy 0, 30, .inl c5)) (b0_7 : zi 0 30 x0_7) (ha3 : za 0 4 c3) : cMi l yX8_asSeen wq_k_X8_asSeen { frames := 0, cells := 0, slots := 0, locals := 0 } 6 0 0 0 D cy ad g [.ref (ad 0), .int n] (fun r nw lu => (zi 0 1 r) ∧ (lu = [])) := by
  refine cM_of (Qc := fun A => cQi (fun r nw lu => (zi 0 1 r) ∧ (lu = [])) D 6 0 ad g A) (cc := cX8_asSeen) (maxL := 3) (ret := (some .boolean)) (by decide) rfl (Nat.le_of_ble_eq_true rfl) ?_
  intro p e s m below meth c A hC hr hlk hnm hO ls hl
  have hC : CallFix p m c cX8_asSeen 3 s [.ref (ad 0), .int n].toArray wq_k_X8_asSeen RX8 := hC
  obtain ⟨hx, hb, hml, hown, hts⟩ := id hC
  have hl : lv_has ls 3 [(0, .ref (ad 0)), (1, .int n)] := hl
  have i_X10 : ∀ w ∈ wsX100, w ∈ wq_k_X8_asSeen := fun w h => List.mem_cons_of_mem _ (List.mem_append_right _ h)
  have i_X8 : ∀ w ∈ wsX80, w ∈ wq_k_X8_asSeen := fun w h => List.mem_cons_of_mem _ (List.mem_append_left _ (List.mem_append_right _ h))
  refine lv_iconst (v := 0) hx hb ddX8_asSeen_0 (by decide) ?_
  refine lv_istore_n (lv' := [(2, .int 0), (0, .ref (ad 0)), (1, .int n)]) hx hb ddX8_asSeen_1 rfl hl (by decide) rfl (fun ls hl => ?_)
  have loop_2_413 : ∀ (d_2_414 : Nat) (v_2_386 : Int32), zi 0 30 v_2_386 → (30 + 1 - v_2_386.toInt).toNat < d_2_414 → ∀ (H : Heap) (locs : List Loc), cO D cy A s.heap s 6 ad (cup [] g) H locs → ∀ ls : Array Slot, lv_has ls 3 [(2, .int v_2_386), (0, .ref (ad 0)), (1, .int n)] → W p l e { frames := 0, cells := 0, slots := 0, locals := 0 } s m [.ref (ad 0), .int n].toArray below meth c H locs 0 0 (MQ below (cQi (fun r nw lu => (zi 0 1 r) ∧ (lu = [])) D 6 0 ad g A) [.ref (ad 0), .int n].toArray s 0 0 A) (F0 m 2 ls [])  := by
    intro d_2_414
    induction d_2_414 with
    | zero => intro v_2_386 z_2_387 mu_2_415; exact absurd mu_2_415 (Nat.not_lt_zero _)
    | succ d_2_414 ih_2_416 =>
      intro v_2_386 z_2_387 mu_2_415 H locs hO ls hl
      refine lv_iload_n hx hb ddX8_asSeen_2 rfl (lv_at hl 0 rfl) ?_
      refine lv_aload_n hx hb ddX8_asSeen_3 rfl (lv_at hl 1 rfl) ?_
      refine cg_get hC hO 0 (by decide) o0 rfl i_X8 7 (by decide) (List.mem_of_getElem? (i := 1) rfl) rfl ddX8_asSeen_4 ?_
      refine lv_icmp_ge (tgt := 51) hx hb ddX8_asSeen_7 (by decide) (fun h_7_417 => ?_) (fun h_7_417 => ?_)
      · have q_7_418 := zr_le h_7_417
        refine lv_iconst (v := 1) hx hb ddX8_asSeen_51 (by decide) ?_
        exact cg_iret (nw := fun _ => 0) hC hr hlk hO.same rfl (Nat.le_of_ble_eq_true rfl) (Nat.le_of_ble_eq_true rfl) (⟨(zi_k (a := 0) (b := 1) (x := 1) rfl), rfl⟩) ddX8_asSeen_52
      · have q_7_419 := zr_nle h_7_417
        have z_7_420 : zi 0 29 v_2_386 := zu_lt q_7_419 z_2_387 b0_7 (by decide)
        have z_7_421 : zi 1 30 x0_7 := zd_lt q_7_419 z_2_387 b0_7 (by decide)
        refine lv_aload_n hx hb ddX8_asSeen_10 rfl (lv_at hl 1 rfl) ?_
        refine cg_get hC hO 0 (by decide) o0 rfl i_X8 12 (by decide) (List.mem_of_getElem? (i := 2) rfl) rfl ddX8_asSeen_11 ?_
        refine lv_iload_n hx hb ddX8_asSeen_14 rfl (lv_at hl 0 rfl) ?_
        refine zg_iald hC hO 1 (by decide) a1 (za_all _) (zi_in z_7_420 (by decide)) ddX8_asSeen_15 (fun v_15_422 z_15_423 => ?_)
        refine lv_iload_n hx hb ddX8_asSeen_16 rfl (lv_at hl 2 rfl) ?_
        refine lv_icmp_ne (tgt := 45) hx hb ddX8_asSeen_17 (by decide) (fun h_17_424 => ?_) (fun h_17_424 => ?_)
        · obtain ⟨v_45_425, e_45_426, z_45_427, q_45_428⟩ := zi_inc (e := 1) (f := 30) 1 z_7_420 (by decide)
          refine lv_iinc (v := v_45_425) (lv' := [(2, .int v_45_425), (0, .ref (ad 0)), (1, .int n)]) hx hb ddX8_asSeen_45 hl (k := 0) rfl e_45_426 (by decide) rfl (fun ls hl => ?_)
          refine lv_goto (tgt := 2) hx hb ddX8_asSeen_48 (by decide) ?_
          exact ih_2_416 v_45_425 (zi_w (c := 0) (d := 30) z_45_427 (by decide)) (zm_up q_45_428 ((zi_w (c := 0) (d := 30) z_45_427 (by decide))).2 (by decide) mu_2_415) _ _ hO ls (lv_sub hl [0, 1, 2] rfl)
        · have q_17_429 := zr_eq h_17_424
          refine lv_aload_n hx hb ddX8_asSeen_20 rfl (lv_at hl 1 rfl) ?_
          refine cg_get hC hO 0 (by decide) o0 rfl i_X8 1 (by decide) (List.mem_of_getElem? (i := 3) rfl) rfl ddX8_asSeen_21 ?_
          refine cg_get hC hO 2 (by decide) o2 rfl i_X10 4 (by decide) (List.mem_of_getElem? (i := 4) rfl) rfl ddX8_asSeen_24 ?_
          refine lv_aload_n hx hb ddX8_asSeen_27 rfl (lv_at hl 1 rfl) ?_
          refine cg_get hC hO 0 (by decide) o0 rfl i_X8 3 (by decide) (List.mem_of_getElem? (i := 5) rfl) rfl ddX8_asSeen_28 ?_
          refine lv_iload_n hx hb ddX8_asSeen_31 rfl (lv_at hl 0 rfl) ?_
          refine zg_iald hC hO 3 (by decide) a3 ha3 (zi_in z_7_420 (by decide)) ddX8_asSeen_32 (fun v_32_430 z_32_431 => ?_)
          refine zg_iald hC hO 4 (by decide) a4 (za_all _) (zi_in z_32_431 (by decide)) ddX8_asSeen_33 (fun v_33_432 z_33_433 => ?_)
          refine lv_aload_n hx hb ddX8_asSeen_34 rfl (lv_at hl 1 rfl) ?_
          refine cg_get hC hO 0 (by decide) o0 rfl i_X8 4 (by decide) (List.mem_of_getElem? (i := 6) rfl) rfl ddX8_asSeen_35 ?_
          refine lv_iload_n hx hb ddX8_asSeen_38 rfl (lv_at hl 0 rfl) ?_
          refine zg_iald hC hO 5 (by decide) a5 (za_all _) (zi_in z_7_420 (by decide)) ddX8_asSeen_39 (fun v_39_434 z_39_435 => ?_)
          refine lv_icmp_eq (tgt := 45) hx hb ddX8_asSeen_40 (by decide) (fun h_40_436 => ?_) (fun h_40_436 => ?_)
          · have q_40_437 := zr_eq h_40_436
            obtain ⟨v_45_438, e_45_439, z_45_440, q_45_441⟩ := zi_inc (e := 1) (f := 30) 1 z_7_420 (by decide)
            refine lv_iinc (v := v_45_438) (lv' := [(2, .int v_45_438), (0, .ref (ad 0)), (1, .int n)]) hx hb ddX8_asSeen_45 hl (k := 0) rfl e_45_439 (by decide) rfl (fun ls hl => ?_)
            refine lv_goto (tgt := 2) hx hb ddX8_asSeen_48 (by decide) ?_
            exact ih_2_416 v_45_438 (zi_w (c := 0) (d := 30) z_45_440 (by decide)) (zm_up q_45_441 ((zi_w (c := 0) (d := 30) z_45_440 (by decide))).2 (by decide) mu_2_415) _ _ hO ls (lv_sub hl [0, 1, 2] rfl)
          · refine lv_iconst (v := 0) hx hb ddX8_asSeen_43 (by decide) ?_
            exact cg_iret (nw := fun _ => 0) hC hr hlk hO.same rfl (Nat.le_of_ble_eq_true rfl) (Nat.le_of_ble_eq_true rfl) (⟨(zi_k (a := 0) (b := 1) (x := 0) rfl), rfl⟩) ddX8_asSeen_44
  exact loop_2_413 ((30 + 1 - (0 : Int32).toInt).toNat + 1) 0 (zi_k (a := 0) (b := 30) (x := 0) rfl) (Nat.lt_succ_self _) _ _ hO ls (lv_sub hl [0, 1, 2] rfl)

theorem ddX8_comesBy_0 : decode cX8_comesBy 0 = .ok (.iconst 0, 1) := by decide +kernel
theorem ddX8_comesBy_1 : decode cX8_comesBy 1 = .ok (.istore_n 2, 1) := by decide +kernel
theorem ddX8_comesBy_2 : decode cX8_comesBy 2 = .ok (.iload_n 2, 1) := by decide +kernel
theorem ddX8_comesBy_3 : decode cX8_comesBy 3 = .ok (.aload_n 0, 1) := by decide +kernel
theorem ddX8_comesBy_4 : decode cX8_comesBy 4 = .ok (.getfield 38, 3) := by decide +kernel
theorem ddX8_comesBy_7 : decode cX8_comesBy 7 = .ok (.getfield 126, 3) := by decide +kernel
theorem ddX8_comesBy_10 : decode cX8_comesBy 10 = .ok (.if_icmp .ge 48, 3) := by decide +kernel
theorem ddX8_comesBy_13 : decode cX8_comesBy 13 = .ok (.aload_n 0, 1) := by decide +kernel
theorem ddX8_comesBy_14 : decode cX8_comesBy 14 = .ok (.getfield 70, 3) := by decide +kernel
theorem ddX8_comesBy_17 : decode cX8_comesBy 17 = .ok (.iload_n 2, 1) := by decide +kernel
theorem ddX8_comesBy_18 : decode cX8_comesBy 18 = .ok (.invokestatic 110, 3) := by decide +kernel
theorem ddX8_comesBy_21 : decode cX8_comesBy 21 = .ok (.ifCond .eq 31, 3) := by decide +kernel
theorem ddX8_comesBy_24 : decode cX8_comesBy 24 = .ok (.aload_n 0, 1) := by decide +kernel
theorem ddX8_comesBy_25 : decode cX8_comesBy 25 = .ok (.getfield 45, 3) := by decide +kernel
theorem ddX8_comesBy_28 : decode cX8_comesBy 28 = .ok (.iload_n 2, 1) := by decide +kernel
theorem ddX8_comesBy_29 : decode cX8_comesBy 29 = .ok (.aload_n 0, 1) := by decide +kernel
theorem ddX8_comesBy_30 : decode cX8_comesBy 30 = .ok (.getfield 38, 3) := by decide +kernel
theorem ddX8_comesBy_33 : decode cX8_comesBy 33 = .ok (.getfield 65, 3) := by decide +kernel
theorem ddX8_comesBy_36 : decode cX8_comesBy 36 = .ok (.iload_n 1, 1) := by decide +kernel
theorem ddX8_comesBy_37 : decode cX8_comesBy 37 = .ok (.iaload, 1) := by decide +kernel
theorem ddX8_comesBy_38 : decode cX8_comesBy 38 = .ok (.aload_n 0, 1) := by decide +kernel
theorem ddX8_comesBy_39 : decode cX8_comesBy 39 = .ok (.getfield 38, 3) := by decide +kernel
theorem ddX8_comesBy_42 : decode cX8_comesBy 42 = .ok (.getfield 100, 3) := by decide +kernel
theorem ddX8_comesBy_45 : decode cX8_comesBy 45 = .ok (.iload_n 2, 1) := by decide +kernel
theorem ddX8_comesBy_46 : decode cX8_comesBy 46 = .ok (.iaload, 1) := by decide +kernel
theorem ddX8_comesBy_47 : decode cX8_comesBy 47 = .ok (.iadd, 1) := by decide +kernel
theorem ddX8_comesBy_48 : decode cX8_comesBy 48 = .ok (.invokevirtual 129, 3) := by decide +kernel
theorem ddX8_comesBy_51 : decode cX8_comesBy 51 = .ok (.pop, 1) := by decide +kernel
theorem ddX8_comesBy_52 : decode cX8_comesBy 52 = .ok (.iinc 2 1, 3) := by decide +kernel
theorem ddX8_comesBy_55 : decode cX8_comesBy 55 = .ok (.goto (-53), 3) := by decide +kernel
theorem ddX8_comesBy_58 : decode cX8_comesBy 58 = .ok (.return_, 1) := by decide +kernel
def wq_k_X8_comesBy : List Cond := Cond.code yX8_comesBy cX8_comesBy 3 none :: (([Cond.fieldLink RX8 38 "CrowToll$Sights" "road" "LCrowToll$Road;", Cond.fieldLink RX8 126 "CrowToll$Road" "posts" "I", Cond.fieldLink RX8 70 "CrowToll$Sights" "watched" "I", Cond.code yX11_has cX11_has 2 (some .boolean), Cond.static yX11_has, Cond.initialized RX11, Cond.fieldLink RX8 45 "CrowToll$Sights" "watch" "LCrowToll$Watch;", Cond.fieldLink RX8 65 "CrowToll$Road" "minute" "[I", Cond.fieldLink RX8 100 "CrowToll$Road" "at" "[I", Cond.methodLink RX8 129 yX10_look, Cond.instanceMethod yX10_look, Cond.selects RX10 yX10_look yX10_look, Cond.initialized RX10, Cond.code yX10_look cX10_look 5 (some .int), Cond.fieldLink RX10 18 "CrowToll$Watch" "seated" "[I", Cond.fieldLink RX10 15 "CrowToll$Watch" "seat" "[I", Cond.fieldLink RX10 30 "CrowToll$Watch" "countedAt" "[I", Cond.fieldLink RX10 27 "CrowToll$Watch" "lookedAt" "[I", Cond.fieldLink RX10 33 "CrowToll$Watch" "road" "LCrowToll$Road;", Cond.fieldLink RX10 60 "CrowToll$Road" "gap" "[I", Cond.fieldLink RX10 21 "CrowToll$Watch" "count" "[I", Cond.fieldLink RX10 9 "CrowToll$Watch" "limit" "[I", Cond.fieldLink RX10 24 "CrowToll$Watch" "total" "[I", Cond.fieldLink RX10 63 "CrowToll$Road" "takes" "[I"] : List Cond) ++ wsX70 ++ wsX80 ++ wsX100)
set_option maxRecDepth 20000 in
theorem gr_k_X8_comesBy_k_X11_has : GoodIn wq_k_X8_comesBy wq_k_X11_has := List.forall_mem_cons.mpr ⟨⟨(List.mem_of_getElem? (i := 4) rfl), good_of_word rfl⟩, (fun _ h => absurd h List.not_mem_nil)⟩
theorem gq_k_X8_comesBy_k_X11_has : GoodIn wq_k_X8_comesBy wq_k_X11_has := gr_k_X8_comesBy_k_X11_has
set_option maxRecDepth 20000 in
theorem gr_k_X8_comesBy_k_X10_look : GoodIn wq_k_X8_comesBy wq_k_X10_look := List.forall_mem_cons.mpr ⟨⟨(List.mem_of_getElem? (i := 14) rfl), good_of_word rfl⟩, List.forall_mem_append.mpr ⟨List.forall_mem_append.mpr ⟨List.forall_mem_cons.mpr ⟨⟨(List.mem_of_getElem? (i := 15) rfl), good_of_word rfl⟩, List.forall_mem_cons.mpr ⟨⟨(List.mem_of_getElem? (i := 16) rfl), good_of_word rfl⟩, List.forall_mem_cons.mpr ⟨⟨(List.mem_of_getElem? (i := 17) rfl), good_of_word rfl⟩, List.forall_mem_cons.mpr ⟨⟨(List.mem_of_getElem? (i := 18) rfl), good_of_word rfl⟩, List.forall_mem_cons.mpr ⟨⟨(List.mem_of_getElem? (i := 19) rfl), good_of_word rfl⟩, List.forall_mem_cons.mpr ⟨⟨(List.mem_of_getElem? (i := 20) rfl), good_of_word rfl⟩, List.forall_mem_cons.mpr ⟨⟨(List.mem_of_getElem? (i := 21) rfl), good_of_word rfl⟩, List.forall_mem_cons.mpr ⟨⟨(List.mem_of_getElem? (i := 22) rfl), good_of_word rfl⟩, List.forall_mem_cons.mpr ⟨⟨(List.mem_of_getElem? (i := 23) rfl), good_of_word rfl⟩, List.forall_mem_cons.mpr ⟨⟨(List.mem_of_getElem? (i := 24) rfl), good_of_word rfl⟩, (fun _ h => absurd h List.not_mem_nil)⟩⟩⟩⟩⟩⟩⟩⟩⟩⟩, fun w h => ⟨(fun w h => List.mem_cons_of_mem _ (List.mem_append_left _ (List.mem_append_left _ (List.mem_append_right _ h)))) w h, good_of_word (List.all_eq_true.mp gw_X7 w h)⟩⟩, fun w h => ⟨(fun w h => List.mem_cons_of_mem _ (List.mem_append_right _ h)) w h, good_of_word (List.all_eq_true.mp gw_X10 w h)⟩⟩⟩
set_option maxRecDepth 20000 in
theorem gq_k_X8_comesBy_k_X10_look_129 : GoodIn wq_k_X8_comesBy (wsV RX8 129 RX10 yX10_look wq_k_X10_look) := goodIn_app (List.forall_mem_cons.mpr ⟨⟨(List.mem_of_getElem? (i := 10) rfl), good_of_word rfl⟩, List.forall_mem_cons.mpr ⟨⟨(List.mem_of_getElem? (i := 11) rfl), good_of_word rfl⟩, List.forall_mem_cons.mpr ⟨⟨(List.mem_of_getElem? (i := 12) rfl), good_of_word rfl⟩, List.forall_mem_cons.mpr ⟨⟨(List.mem_of_getElem? (i := 13) rfl), good_of_word rfl⟩, (fun _ h => absurd h List.not_mem_nil)⟩⟩⟩⟩) gr_k_X8_comesBy_k_X10_look
set_option maxHeartbeats 8000000 in
set_option maxRecDepth 100000 in
theorem k_X8_comesBy (l : Launch) (D : va_G) (cy : Nat → ClassId) (ad : Nat → Nat) (g : Nat → va_E) {u0_2 : Value} {u0_3 : Value} {u0_4 : Value} {u0_5 : Value} {u0_6 : Value} {u0_7 : Value} {u0_8 : Value} {u0_9 : Value} {u0_10 : Value} {x0_11 : Int32} {u0_12 : Value} {u0_13 : Value} {u0_14 : Value} {u0_15 : Value} {u1_0 : Value} {u1_1 : Value} {u1_4 : Value} {u1_5 : Value} {u1_6 : Value} {u1_8 : Value} {u1_9 : Value} {u1_10 : Value} {x1_11 : Int32} {u1_12 : Value} {u1_14 : Value} {u1_15 : Value} {u1_16 : Value} {u1_17 : Value} {c2 : Nat → Int32} {c3 : Nat → Int32} {c5 : Nat → Int32} {c6 : Nat → Int32} {c7 : Nat → Int32} {c8 : Nat → Int32} {c9 : Nat → Int32} {c10 : Nat → Int32} {c11 : Nat → Int32} {c12 : Nat → Int32} {c13 : Nat → Int32} {cart : Int32} (o0 : g 0 = .inr (8, [.ref (ad 1), .ref (ad 4), u0_2, u0_3, u0_4, u0_5, u0_6, u0_7, u0_8, u0_9, u0_10, .int x0_11, u0_12, u0_13, u0_14, u0_15])) (o1 : g 1 = .inr (7, [u1_0, u1_1, .ref (ad 5), .ref (ad 6), u1_4, u1_5, u1_6, .ref (ad 3), u1_8, u1_9, u1_10, .int x1_11, u1_12, .ref (ad 2), u1_14, u1_15, u1_16, u1_17])) (a2 : g 2 = .inl (cy 0, 12, .inl c2)) (a3 : g 3 = .inl (cy 0, 4, .inl c3)) (o4 : g 4 = .inr (10, [.ref (ad 1), .ref (ad 7), .ref (ad 8), .ref (ad 9), .ref (ad 10), .ref (ad 11), .ref (ad 12), .ref (ad 13)])) (a5 : g 5 = .inl (cy 0, 5, .inl c5)) (a6 : g 6 = .inl (cy 0, 5, .inl c6)) (a7 : g 7 = .inl (cy 0, 5, .inl c7)) (a8 : g 8 = .inl (cy 0, 20, .inl c8)) (a9 : g 9 = .inl (cy 0, 4, .inl c9)) (a10 : g 10 = .inl (cy 0, 5, .inl c10)) (a11 : g 11 = .inl (cy 0, 5, .inl c11)) (a12 : g 12 = .inl (cy 0, 5, .inl c12)) (a13 : g 13 = .inl (cy 0, 5, .inl c13)) (b1_11 : zi 0 4 x1_11) (ha8 : za 0 4 c8) (ha9 : za 0 5 c9) (p_cart : zi 0 11 cart) : cMv l yX8_comesBy wq_k_X8_comesBy { frames := 1, cells := 0, slots := 0, locals := 24 } 14 0 0 0 D cy ad g [.ref (ad 0), .int cart] (fun nw lu => ∃ (d10 : Nat → Int32) (d11 : Nat → Int32) (d12 : Nat → Int32) (d13 : Nat → Int32), lu = [(10, .inl (cy 0, 5, .inl d10)), (11, .inl (cy 0, 5, .inl d11)), (12, .inl (cy 0, 5, .inl d12)), (13, .inl (cy 0, 5, .inl d13))]) := by
  refine cM_of (Qc := fun A => cQv (fun nw lu => ∃ (d10 : Nat → Int32) (d11 : Nat → Int32) (d12 : Nat → Int32) (d13 : Nat → Int32), lu = [(10, .inl (cy 0, 5, .inl d10)), (11, .inl (cy 0, 5, .inl d11)), (12, .inl (cy 0, 5, .inl d12)), (13, .inl (cy 0, 5, .inl d13))]) D 14 0 ad g A) (cc := cX8_comesBy) (maxL := 3) (ret := none) (by decide) rfl (Nat.le_of_ble_eq_true rfl) ?_
  intro p e s m below meth c A hC hr hlk hnm hO ls hl
  have hC : CallFix p m c cX8_comesBy 3 s [.ref (ad 0), .int cart].toArray wq_k_X8_comesBy RX8 := hC
  obtain ⟨hx, hb, hml, hown, hts⟩ := id hC
  have hl : lv_has ls 3 [(0, .ref (ad 0)), (1, .int cart)] := hl
  have i_X10 : ∀ w ∈ wsX100, w ∈ wq_k_X8_comesBy := fun w h => List.mem_cons_of_mem _ (List.mem_append_right _ h)
  have i_X7 : ∀ w ∈ wsX70, w ∈ wq_k_X8_comesBy := fun w h => List.mem_cons_of_mem _ (List.mem_append_left _ (List.mem_append_left _ (List.mem_append_right _ h)))
  have i_X8 : ∀ w ∈ wsX80, w ∈ wq_k_X8_comesBy := fun w h => List.mem_cons_of_mem _ (List.mem_append_left _ (List.mem_append_right _ h))
  have hO := hO.notes [(10, .inl (cy 0, 5, .inl c10)), (11, .inl (cy 0, 5, .inl c11)), (12, .inl (cy 0, 5, .inl c12)), (13, .inl (cy 0, 5, .inl c13))] (List.forall_mem_cons.mpr ⟨a10, List.forall_mem_cons.mpr ⟨a11, List.forall_mem_cons.mpr ⟨a12, List.forall_mem_cons.mpr ⟨a13, (fun _ h => absurd h List.not_mem_nil)⟩⟩⟩⟩)
  refine lv_iconst (v := 0) hx hb ddX8_comesBy_0 (by decide) ?_
  refine lv_istore_n (lv' := [(2, .int 0), (0, .ref (ad 0)), (1, .int cart)]) hx hb ddX8_comesBy_1 rfl hl (by decide) rfl (fun ls hl => ?_)
  have loop_2_1059 : ∀ (d_2_1060 : Nat) (v_2_993 : Int32) (c_2_995 : Nat → Int32) (c_2_997 : Nat → Int32) (c_2_999 : Nat → Int32) (c_2_1001 : Nat → Int32), zi 0 4 v_2_993 → za (-2147483648) 2147483647 c_2_995 → za (-2147483648) 2147483647 c_2_997 → za (-2147483648) 2147483647 c_2_999 → za (-2147483648) 2147483647 c_2_1001 → (4 + 1 - v_2_993.toInt).toNat < d_2_1060 → ∀ (H : Heap) (locs : List Loc), cO D cy A s.heap s 14 ad (cup [(10, .inl (cy 0, 5, .inl c_2_995)), (11, .inl (cy 0, 5, .inl c_2_997)), (12, .inl (cy 0, 5, .inl c_2_999)), (13, .inl (cy 0, 5, .inl c_2_1001))] g) H locs → ∀ ls : Array Slot, lv_has ls 3 [(2, .int v_2_993), (0, .ref (ad 0)), (1, .int cart)] → W p l e { frames := 1, cells := 0, slots := 0, locals := 24 } s m [.ref (ad 0), .int cart].toArray below meth c H locs 0 0 (MQ below (cQv (fun nw lu => ∃ (d10 : Nat → Int32) (d11 : Nat → Int32) (d12 : Nat → Int32) (d13 : Nat → Int32), lu = [(10, .inl (cy 0, 5, .inl d10)), (11, .inl (cy 0, 5, .inl d11)), (12, .inl (cy 0, 5, .inl d12)), (13, .inl (cy 0, 5, .inl d13))]) D 14 0 ad g A) [.ref (ad 0), .int cart].toArray s 0 0 A) (F0 m 2 ls [])  := by
    intro d_2_1060
    induction d_2_1060 with
    | zero => intro v_2_993 c_2_995 c_2_997 c_2_999 c_2_1001 z_2_994 zc_2_996 zc_2_998 zc_2_1000 zc_2_1002 mu_2_1061; exact absurd mu_2_1061 (Nat.not_lt_zero _)
    | succ d_2_1060 ih_2_1062 =>
      intro v_2_993 c_2_995 c_2_997 c_2_999 c_2_1001 z_2_994 zc_2_996 zc_2_998 zc_2_1000 zc_2_1002 mu_2_1061 H locs hO ls hl
      refine lv_iload_n hx hb ddX8_comesBy_2 rfl (lv_at hl 0 rfl) ?_
      refine lv_aload_n hx hb ddX8_comesBy_3 rfl (lv_at hl 1 rfl) ?_
      refine cg_get hC hO 0 (by decide) o0 rfl i_X8 0 (by decide) (List.mem_of_getElem? (i := 1) rfl) rfl ddX8_comesBy_4 ?_
      refine cg_get hC hO 1 (by decide) o1 rfl i_X7 11 (by decide) (List.mem_of_getElem? (i := 2) rfl) rfl ddX8_comesBy_7 ?_
      refine lv_icmp_ge (tgt := 58) hx hb ddX8_comesBy_10 (by decide) (fun h_10_1063 => ?_) (fun h_10_1063 => ?_)
      · have q_10_1064 := zr_le h_10_1063
        exact cg_vret (nw := fun _ => 0) hC hr hlk hO.same (Nat.le_of_ble_eq_true rfl) (Nat.le_of_ble_eq_true rfl) (⟨c_2_995, c_2_997, c_2_999, c_2_1001, rfl⟩) ddX8_comesBy_58
      · have q_10_1065 := zr_nle h_10_1063
        have z_10_1066 : zi 0 3 v_2_993 := zu_lt q_10_1065 z_2_994 b1_11 (by decide)
        have z_10_1067 : zi 1 4 x1_11 := zd_lt q_10_1065 z_2_994 b1_11 (by decide)
        refine lv_aload_n hx hb ddX8_comesBy_13 rfl (lv_at hl 1 rfl) ?_
        refine cg_get hC hO 0 (by decide) o0 rfl i_X8 11 (by decide) (List.mem_of_getElem? (i := 3) rfl) rfl ddX8_comesBy_14 ?_
        refine lv_iload_n hx hb ddX8_comesBy_17 rfl (lv_at hl 0 rfl) ?_
        refine cg_Ni (As := [.int x0_11, .int v_2_993]) (rest := []) (mc := 0) (ms := 0) (rm := { frames := 0, cells := 0, slots := 0, locals := 0 }) hC hl.1 hO [] (by decide +kernel) (k_X11_has l D cy _ _ (bits := x0_11) (q := v_2_993) ) gq_k_X8_comesBy_k_X11_has rfl rfl rfl (host := "CrowToll") (nestL_mem_16) (List.mem_of_getElem? (i := 5) rfl) (List.mem_of_getElem? (i := 6) rfl) 2 (by decide +kernel) ⟨Nat.le_of_ble_eq_true rfl, Nat.le_of_ble_eq_true rfl⟩ rfl rfl (Nat.le_of_ble_eq_true rfl) ddX8_comesBy_18 ⟨Nat.le_of_ble_eq_true rfl, Nat.le_of_ble_eq_true rfl⟩ (fun r_18_1070 nw_18_1068 l_18_1069 H locs hw hO => ?_)
        obtain ⟨z_18_1071, rfl⟩ := hw
        have hO : cO D cy A s.heap s 14 ad (cup [(10, .inl (cy 0, 5, .inl c_2_995)), (11, .inl (cy 0, 5, .inl c_2_997)), (12, .inl (cy 0, 5, .inl c_2_999)), (13, .inl (cy 0, 5, .inl c_2_1001))] g) _ _ := hO
        have J_52_1098 : ∀ (c_52_1090 : Nat → Int32) (c_52_1092 : Nat → Int32) (c_52_1094 : Nat → Int32) (c_52_1096 : Nat → Int32), za (-2147483648) 2147483647 c_52_1090 → za (-2147483648) 2147483647 c_52_1092 → za (-2147483648) 2147483647 c_52_1094 → za (-2147483648) 2147483647 c_52_1096 → ∀ (H : Heap) (locs : List Loc), cO D cy A s.heap s 14 ad (cup [(10, .inl (cy 0, 5, .inl c_52_1090)), (11, .inl (cy 0, 5, .inl c_52_1092)), (12, .inl (cy 0, 5, .inl c_52_1094)), (13, .inl (cy 0, 5, .inl c_52_1096))] g) H locs → ∀ ls : Array Slot, lv_has ls 3 [(2, .int v_2_993), (0, .ref (ad 0)), (1, .int cart)] → W p l e { frames := 1, cells := 0, slots := 0, locals := 24 } s m [.ref (ad 0), .int cart].toArray below meth c H locs 0 0 (MQ below (cQv (fun nw lu => ∃ (d10 : Nat → Int32) (d11 : Nat → Int32) (d12 : Nat → Int32) (d13 : Nat → Int32), lu = [(10, .inl (cy 0, 5, .inl d10)), (11, .inl (cy 0, 5, .inl d11)), (12, .inl (cy 0, 5, .inl d12)), (13, .inl (cy 0, 5, .inl d13))]) D 14 0 ad g A) [.ref (ad 0), .int cart].toArray s 0 0 A) (F0 m 52 ls []) := by
          intro c_52_1090 c_52_1092 c_52_1094 c_52_1096 zc_52_1091 zc_52_1093 zc_52_1095 zc_52_1097 H locs hO ls hl
          obtain ⟨v_52_1099, e_52_1100, z_52_1101, q_52_1102⟩ := zi_inc (e := 1) (f := 4) 1 z_10_1066 (by decide)
          refine lv_iinc (v := v_52_1099) (lv' := [(2, .int v_52_1099), (0, .ref (ad 0)), (1, .int cart)]) hx hb ddX8_comesBy_52 hl (k := 0) rfl e_52_1100 (by decide) rfl (fun ls hl => ?_)
          refine lv_goto (tgt := 2) hx hb ddX8_comesBy_55 (by decide) ?_
          exact ih_2_1062 v_52_1099 c_52_1090 c_52_1092 c_52_1094 c_52_1096 (zi_w (c := 0) (d := 4) z_52_1101 (by decide)) zc_52_1091 zc_52_1093 zc_52_1095 zc_52_1097 (zm_up q_52_1102 ((zi_w (c := 0) (d := 4) z_52_1101 (by decide))).2 (by decide) mu_2_1061) _ _ hO ls (lv_sub hl [0, 1, 2] rfl)
        refine lv_if_eq (tgt := 52) hx hb ddX8_comesBy_21 (by decide) (fun h_21_1072 => ?_) (fun h_21_1072 => ?_)
        · have q_21_1103 := zr_eq h_21_1072
          have z_21_1104 : zi 0 0 r_18_1070 := ze_eq q_21_1103 z_18_1071 (zi_k (a := 0) (b := 0) (x := 0) rfl)
          exact J_52_1098 c_2_995 c_2_997 c_2_999 c_2_1001 zc_2_996 zc_2_998 zc_2_1000 zc_2_1002 _ _ hO ls (lv_sub hl [0, 1, 2] rfl)
        · have q_21_1105 := zr_ne h_21_1072
          have z_21_1106 : zi 1 1 r_18_1070 := zn_lo q_21_1105 z_18_1071 (zi_k (a := 0) (b := 0) (x := 0) rfl) (by decide)
          refine lv_aload_n hx hb ddX8_comesBy_24 rfl (lv_at hl 1 rfl) ?_
          refine cg_get hC hO 0 (by decide) o0 rfl i_X8 1 (by decide) (List.mem_of_getElem? (i := 7) rfl) rfl ddX8_comesBy_25 ?_
          refine lv_iload_n hx hb ddX8_comesBy_28 rfl (lv_at hl 0 rfl) ?_
          refine lv_aload_n hx hb ddX8_comesBy_29 rfl (lv_at hl 1 rfl) ?_
          refine cg_get hC hO 0 (by decide) o0 rfl i_X8 0 (by decide) (List.mem_of_getElem? (i := 1) rfl) rfl ddX8_comesBy_30 ?_
          refine cg_get hC hO 1 (by decide) o1 rfl i_X7 13 (by decide) (List.mem_of_getElem? (i := 8) rfl) rfl ddX8_comesBy_33 ?_
          refine lv_iload_n hx hb ddX8_comesBy_36 rfl (lv_at hl 2 rfl) ?_
          refine zg_iald hC hO 2 (by decide) a2 (za_all _) (zi_in p_cart (by decide)) ddX8_comesBy_37 (fun v_37_1107 z_37_1108 => ?_)
          refine lv_aload_n hx hb ddX8_comesBy_38 rfl (lv_at hl 1 rfl) ?_
          refine cg_get hC hO 0 (by decide) o0 rfl i_X8 0 (by decide) (List.mem_of_getElem? (i := 1) rfl) rfl ddX8_comesBy_39 ?_
          refine cg_get hC hO 1 (by decide) o1 rfl i_X7 7 (by decide) (List.mem_of_getElem? (i := 9) rfl) rfl ddX8_comesBy_42 ?_
          refine lv_iload_n hx hb ddX8_comesBy_45 rfl (lv_at hl 0 rfl) ?_
          refine zg_iald hC hO 3 (by decide) a3 (za_all _) (zi_in z_10_1066 (by decide)) ddX8_comesBy_46 (fun v_46_1109 z_46_1110 => ?_)
          refine lv_iadd hx hb ddX8_comesBy_47 ?_
          refine lv_topi (fun v_47_1111 _ => ?_)
          refine cg_Vi (As := [.int v_2_993, .int v_47_1111]) (rest := []) (mc := 0) (ms := 0) (rm := { frames := 0, cells := 0, slots := 0, locals := 0 }) hC hl.1 hO [4, 9, 8, 13, 12, 1, 5, 10, 7, 11, 6] (by decide +kernel) (k_X10_look l D cy _ _ (u5_0 := u1_0) (u5_1 := u1_1) (c6 := c5) (c10 := c6) (u5_4 := u1_4) (u5_5 := u1_5) (u5_6 := u1_6) (u5_7 := .ref (ad 3)) (u5_8 := u1_8) (u5_9 := u1_9) (u5_10 := u1_10) (u5_11 := .int x1_11) (u5_12 := u1_12) (u5_13 := .ref (ad 2)) (u5_14 := u1_14) (u5_15 := u1_15) (u5_16 := u1_16) (u5_17 := u1_17) (c8 := c7) (c2 := c8) (c1 := c9) (c7 := c_2_995) (c9 := c_2_997) (c4 := c_2_999) (c3 := c_2_1001) (post := v_2_993) (now := v_47_1111) o4 a9 a8 rfl rfl o1 a5 rfl a7 rfl a6 ha9 ha8 z_10_1066) gq_k_X8_comesBy_k_X10_look_129 rfl rfl rfl 2 (by decide +kernel) ⟨Nat.le_of_ble_eq_true rfl, Nat.le_of_ble_eq_true rfl⟩ rfl (by decide) o4 rfl rfl (Nat.le_of_ble_eq_true rfl) ddX8_comesBy_48 ⟨Nat.le_of_ble_eq_true rfl, Nat.le_of_ble_eq_true rfl⟩ (fun r_48_1114 nw_48_1112 l_48_1113 H locs hw hO => ?_)
          obtain ⟨d3_48_1115, d4_48_1116, d7_48_1117, d9_48_1118, z_48_1119, rfl⟩ := hw
          have hO := hO.mrg (lk := [(13, .inl (cy 0, 5, .inl d3_48_1115)), (12, .inl (cy 0, 5, .inl d4_48_1116)), (10, .inl (cy 0, 5, .inl d7_48_1117)), (11, .inl (cy 0, 5, .inl d9_48_1118))]) (lm := [(10, .inl (cy 0, 5, .inl d7_48_1117)), (11, .inl (cy 0, 5, .inl d9_48_1118)), (12, .inl (cy 0, 5, .inl d4_48_1116)), (13, .inl (cy 0, 5, .inl d3_48_1115))]) rfl rfl rfl
          refine lv_pop hx hb ddX8_comesBy_51 rfl ?_
          exact J_52_1098 d7_48_1117 d9_48_1118 d4_48_1116 d3_48_1115 (za_all _) (za_all _) (za_all _) (za_all _) _ _ hO ls (lv_sub hl [0, 1, 2] rfl)
  exact loop_2_1059 ((4 + 1 - (0 : Int32).toInt).toNat + 1) 0 c10 c11 c12 c13 (zi_k (a := 0) (b := 4) (x := 0) rfl) (za_all _) (za_all _) (za_all _) (za_all _) (Nat.lt_succ_self _) _ _ hO ls (lv_sub hl [0, 1, 2] rfl)

theorem ddX8_inNone_0 : decode cX8_inNone 0 = .ok (.aload_n 0, 1) := by decide +kernel
theorem ddX8_inNone_1 : decode cX8_inNone 1 = .ok (.getfield 38, 3) := by decide +kernel
theorem ddX8_inNone_4 : decode cX8_inNone 4 = .ok (.getfield 107, 3) := by decide +kernel
theorem ddX8_inNone_7 : decode cX8_inNone 7 = .ok (.aload_n 0, 1) := by decide +kernel
theorem ddX8_inNone_8 : decode cX8_inNone 8 = .ok (.getfield 90, 3) := by decide +kernel
theorem ddX8_inNone_11 : decode cX8_inNone 11 = .ok (.iconst (-1), 1) := by decide +kernel
theorem ddX8_inNone_12 : decode cX8_inNone 12 = .ok (.ixor, 1) := by decide +kernel
theorem ddX8_inNone_13 : decode cX8_inNone 13 = .ok (.iand, 1) := by decide +kernel
theorem ddX8_inNone_14 : decode cX8_inNone 14 = .ok (.ireturn, 1) := by decide +kernel
def wq_k_X8_inNone : List Cond := Cond.code yX8_inNone cX8_inNone 1 (some .int) :: (([Cond.fieldLink RX8 38 "CrowToll$Sights" "road" "LCrowToll$Road;", Cond.fieldLink RX8 107 "CrowToll$Road" "maybe" "I", Cond.fieldLink RX8 90 "CrowToll$Sights" "inSome" "I"] : List Cond) ++ wsX70 ++ wsX80)
set_option maxHeartbeats 8000000 in
set_option maxRecDepth 100000 in
theorem k_X8_inNone (l : Launch) (D : va_G) (cy : Nat → ClassId) (ad : Nat → Nat) (g : Nat → va_E) {u0_1 : Value} {u0_2 : Value} {u0_3 : Value} {u0_4 : Value} {u0_5 : Value} {u0_6 : Value} {u0_7 : Value} {u0_8 : Value} {u0_9 : Value} {u0_10 : Value} {u0_11 : Value} {u0_12 : Value} {u0_13 : Value} {u0_14 : Value} {x0_15 : Int32} {u1_0 : Value} {u1_1 : Value} {u1_2 : Value} {u1_3 : Value} {u1_4 : Value} {u1_5 : Value} {u1_6 : Value} {u1_7 : Value} {u1_8 : Value} {u1_9 : Value} {u1_10 : Value} {u1_11 : Value} {u1_12 : Value} {u1_13 : Value} {u1_14 : Value} {x1_15 : Int32} {u1_16 : Value} {u1_17 : Value} (o0 : g 0 = .inr (8, [.ref (ad 1), u0_1, u0_2, u0_3, u0_4, u0_5, u0_6, u0_7, u0_8, u0_9, u0_10, u0_11, u0_12, u0_13, u0_14, .int x0_15])) (o1 : g 1 = .inr (7, [u1_0, u1_1, u1_2, u1_3, u1_4, u1_5, u1_6, u1_7, u1_8, u1_9, u1_10, u1_11, u1_12, u1_13, u1_14, .int x1_15, u1_16, u1_17])) : cMi l yX8_inNone wq_k_X8_inNone { frames := 0, cells := 0, slots := 0, locals := 0 } 2 0 0 0 D cy ad g [.ref (ad 0)] (fun r nw lu => lu = []) := by
  refine cM_of (Qc := fun A => cQi (fun r nw lu => lu = []) D 2 0 ad g A) (cc := cX8_inNone) (maxL := 1) (ret := (some .int)) (by decide) rfl (Nat.le_of_ble_eq_true rfl) ?_
  intro p e s m below meth c A hC hr hlk hnm hO ls hl
  have hC : CallFix p m c cX8_inNone 1 s [.ref (ad 0)].toArray wq_k_X8_inNone RX8 := hC
  obtain ⟨hx, hb, hml, hown, hts⟩ := id hC
  have hl : lv_has ls 1 [(0, .ref (ad 0))] := hl
  have i_X7 : ∀ w ∈ wsX70, w ∈ wq_k_X8_inNone := fun w h => List.mem_cons_of_mem _ (List.mem_append_left _ (List.mem_append_right _ h))
  have i_X8 : ∀ w ∈ wsX80, w ∈ wq_k_X8_inNone := fun w h => List.mem_cons_of_mem _ (List.mem_append_right _ h)
  refine lv_aload_n hx hb ddX8_inNone_0 rfl (lv_at hl 0 rfl) ?_
  refine cg_get hC hO 0 (by decide) o0 rfl i_X8 0 (by decide) (List.mem_of_getElem? (i := 1) rfl) rfl ddX8_inNone_1 ?_
  refine cg_get hC hO 1 (by decide) o1 rfl i_X7 15 (by decide) (List.mem_of_getElem? (i := 2) rfl) rfl ddX8_inNone_4 ?_
  refine lv_aload_n hx hb ddX8_inNone_7 rfl (lv_at hl 0 rfl) ?_
  refine cg_get hC hO 0 (by decide) o0 rfl i_X8 15 (by decide) (List.mem_of_getElem? (i := 3) rfl) rfl ddX8_inNone_8 ?_
  refine lv_iconst (v := (-1)) hx hb ddX8_inNone_11 (by decide) ?_
  refine lv_ixor hx hb ddX8_inNone_12 ?_
  refine lv_topi (fun v_12_3 _ => ?_)
  refine lv_iand hx hb ddX8_inNone_13 ?_
  refine lv_topi (fun v_13_4 _ => ?_)
  exact cg_iret (nw := fun _ => 0) hC hr hlk hO.same rfl (Nat.le_of_ble_eq_true rfl) (Nat.le_of_ble_eq_true rfl) rfl ddX8_inNone_14

theorem ddX11_layFour_0 : decode cX11_layFour 0 = .ok (.bipush 24, 2) := by decide +kernel
theorem ddX11_layFour_2 : decode cX11_layFour 2 = .ok (.istore_n 2, 1) := by decide +kernel
theorem ddX11_layFour_3 : decode cX11_layFour 3 = .ok (.iload_n 2, 1) := by decide +kernel
theorem ddX11_layFour_4 : decode cX11_layFour 4 = .ok (.ifCond .lt 45, 3) := by decide +kernel
theorem ddX11_layFour_7 : decode cX11_layFour 7 = .ok (.aload_n 0, 1) := by decide +kernel
theorem ddX11_layFour_8 : decode cX11_layFour 8 = .ok (.getfield 13, 3) := by decide +kernel
theorem ddX11_layFour_11 : decode cX11_layFour 11 = .ok (.sipush 1600, 3) := by decide +kernel
theorem ddX11_layFour_14 : decode cX11_layFour 14 = .ok (.if_icmp .ge 35, 3) := by decide +kernel
theorem ddX11_layFour_17 : decode cX11_layFour 17 = .ok (.aload_n 0, 1) := by decide +kernel
theorem ddX11_layFour_18 : decode cX11_layFour 18 = .ok (.getfield 9, 3) := by decide +kernel
theorem ddX11_layFour_21 : decode cX11_layFour 21 = .ok (.aload_n 0, 1) := by decide +kernel
theorem ddX11_layFour_22 : decode cX11_layFour 22 = .ok (.getfield 13, 3) := by decide +kernel
theorem ddX11_layFour_25 : decode cX11_layFour 25 = .ok (.iload_n 1, 1) := by decide +kernel
theorem ddX11_layFour_26 : decode cX11_layFour 26 = .ok (.iload_n 2, 1) := by decide +kernel
theorem ddX11_layFour_27 : decode cX11_layFour 27 = .ok (.iushr, 1) := by decide +kernel
theorem ddX11_layFour_28 : decode cX11_layFour 28 = .ok (.sipush 255, 3) := by decide +kernel
theorem ddX11_layFour_31 : decode cX11_layFour 31 = .ok (.iand, 1) := by decide +kernel
theorem ddX11_layFour_32 : decode cX11_layFour 32 = .ok (.iastore, 1) := by decide +kernel
theorem ddX11_layFour_33 : decode cX11_layFour 33 = .ok (.aload_n 0, 1) := by decide +kernel
theorem ddX11_layFour_34 : decode cX11_layFour 34 = .ok (.dup, 1) := by decide +kernel
theorem ddX11_layFour_35 : decode cX11_layFour 35 = .ok (.getfield 13, 3) := by decide +kernel
theorem ddX11_layFour_38 : decode cX11_layFour 38 = .ok (.iconst 1, 1) := by decide +kernel
theorem ddX11_layFour_39 : decode cX11_layFour 39 = .ok (.iadd, 1) := by decide +kernel
theorem ddX11_layFour_40 : decode cX11_layFour 40 = .ok (.putfield 13, 3) := by decide +kernel
theorem ddX11_layFour_43 : decode cX11_layFour 43 = .ok (.iinc 2 (-8), 3) := by decide +kernel
theorem ddX11_layFour_46 : decode cX11_layFour 46 = .ok (.goto (-43), 3) := by decide +kernel
theorem ddX11_layFour_49 : decode cX11_layFour 49 = .ok (.return_, 1) := by decide +kernel
def wq_k_X11_layFour : List Cond := Cond.code yX11_layFour cX11_layFour 3 none :: (([Cond.fieldLink RX11 13 "CrowToll" "onTape" "I", Cond.fieldLink RX11 9 "CrowToll" "tape" "[I"] : List Cond) ++ wsX110)
set_option maxHeartbeats 8000000 in
set_option maxRecDepth 100000 in
theorem k_X11_layFour (l : Launch) (D : va_G) (cy : Nat → ClassId) (ad : Nat → Nat) (g : Nat → va_E) {x0_1 : Int32} {u0_2 : Value} {u0_3 : Value} {u0_4 : Value} {u0_5 : Value} {u0_6 : Value} {u0_7 : Value} {u0_8 : Value} {u0_9 : Value} {u0_10 : Value} {u0_11 : Value} {u0_12 : Value} {u0_13 : Value} {c1 : Nat → Int32} {four : Int32} (o0 : g 0 = .inr (11, [.ref (ad 1), .int x0_1, u0_2, u0_3, u0_4, u0_5, u0_6, u0_7, u0_8, u0_9, u0_10, u0_11, u0_12, u0_13])) (a1 : g 1 = .inl (cy 0, 1600, .inl c1)) (b0_1 : zi 0 1600 x0_1) : cMv l yX11_layFour wq_k_X11_layFour { frames := 0, cells := 0, slots := 0, locals := 0 } 2 0 0 0 D cy ad g [.ref (ad 0), .int four] (fun nw lu => ∃ (y0_1 : Int32) (d1 : Nat → Int32), (zi 0 1600 y0_1) ∧ (lu = [(0, .inr (11, [.ref (ad 1), .int y0_1, u0_2, u0_3, u0_4, u0_5, u0_6, u0_7, u0_8, u0_9, u0_10, u0_11, u0_12, u0_13])), (1, .inl (cy 0, 1600, .inl d1))])) := by
  refine cM_of (Qc := fun A => cQv (fun nw lu => ∃ (y0_1 : Int32) (d1 : Nat → Int32), (zi 0 1600 y0_1) ∧ (lu = [(0, .inr (11, [.ref (ad 1), .int y0_1, u0_2, u0_3, u0_4, u0_5, u0_6, u0_7, u0_8, u0_9, u0_10, u0_11, u0_12, u0_13])), (1, .inl (cy 0, 1600, .inl d1))])) D 2 0 ad g A) (cc := cX11_layFour) (maxL := 3) (ret := none) (by decide) rfl (Nat.le_of_ble_eq_true rfl) ?_
  intro p e s m below meth c A hC hr hlk hnm hO ls hl
  have hC : CallFix p m c cX11_layFour 3 s [.ref (ad 0), .int four].toArray wq_k_X11_layFour RX11 := hC
  obtain ⟨hx, hb, hml, hown, hts⟩ := id hC
  have hl : lv_has ls 3 [(0, .ref (ad 0)), (1, .int four)] := hl
  have i_X11 : ∀ w ∈ wsX110, w ∈ wq_k_X11_layFour := fun w h => List.mem_cons_of_mem _ (List.mem_append_right _ h)
  have hO := hO.notes [(0, .inr (11, [.ref (ad 1), .int x0_1, u0_2, u0_3, u0_4, u0_5, u0_6, u0_7, u0_8, u0_9, u0_10, u0_11, u0_12, u0_13])), (1, .inl (cy 0, 1600, .inl c1))] (List.forall_mem_cons.mpr ⟨o0, List.forall_mem_cons.mpr ⟨a1, (fun _ h => absurd h List.not_mem_nil)⟩⟩)
  refine lv_bipush (v := 24) hx hb ddX11_layFour_0 (by decide) ?_
  refine lv_istore_n (lv' := [(2, .int 24), (0, .ref (ad 0)), (1, .int four)]) hx hb ddX11_layFour_2 rfl hl (by decide) rfl (fun ls hl => ?_)
  have loop_3_493 : ∀ (d_3_494 : Nat) (v_3_465 : Int32) (v_3_467 : Int32) (c_3_469 : Nat → Int32), zi (-8) 24 v_3_465 → zi 0 1600 v_3_467 → za (-2147483648) 2147483647 c_3_469 → (v_3_465.toInt - (-8) + 1).toNat < d_3_494 → ∀ (H : Heap) (locs : List Loc), cO D cy A s.heap s 2 ad (cup [(0, .inr (11, [.ref (ad 1), .int v_3_467, u0_2, u0_3, u0_4, u0_5, u0_6, u0_7, u0_8, u0_9, u0_10, u0_11, u0_12, u0_13])), (1, .inl (cy 0, 1600, .inl c_3_469))] g) H locs → ∀ ls : Array Slot, lv_has ls 3 [(2, .int v_3_465), (0, .ref (ad 0)), (1, .int four)] → W p l e { frames := 0, cells := 0, slots := 0, locals := 0 } s m [.ref (ad 0), .int four].toArray below meth c H locs 0 0 (MQ below (cQv (fun nw lu => ∃ (y0_1 : Int32) (d1 : Nat → Int32), (zi 0 1600 y0_1) ∧ (lu = [(0, .inr (11, [.ref (ad 1), .int y0_1, u0_2, u0_3, u0_4, u0_5, u0_6, u0_7, u0_8, u0_9, u0_10, u0_11, u0_12, u0_13])), (1, .inl (cy 0, 1600, .inl d1))])) D 2 0 ad g A) [.ref (ad 0), .int four].toArray s 0 0 A) (F0 m 3 ls [])  := by
    intro d_3_494
    induction d_3_494 with
    | zero => intro v_3_465 v_3_467 c_3_469 z_3_466 z_3_468 zc_3_470 mu_3_495; exact absurd mu_3_495 (Nat.not_lt_zero _)
    | succ d_3_494 ih_3_496 =>
      intro v_3_465 v_3_467 c_3_469 z_3_466 z_3_468 zc_3_470 mu_3_495 H locs hO ls hl
      refine lv_iload_n hx hb ddX11_layFour_3 rfl (lv_at hl 0 rfl) ?_
      refine lv_if_lt (tgt := 49) hx hb ddX11_layFour_4 (by decide) (fun h_4_497 => ?_) (fun h_4_497 => ?_)
      · have q_4_498 := zr_lt h_4_497
        have z_4_499 : zi (-8) (-1) v_3_465 := zu_lt q_4_498 z_3_466 (zi_k (a := 0) (b := 0) (x := 0) rfl) (by decide)
        exact cg_vret (nw := fun _ => 0) hC hr hlk hO.same (Nat.le_of_ble_eq_true rfl) (Nat.le_of_ble_eq_true rfl) (⟨v_3_467, c_3_469, z_3_468, rfl⟩) ddX11_layFour_49
      · have q_4_500 := zr_nlt h_4_497
        have z_4_501 : zi 0 24 v_3_465 := zd_le q_4_500 (zi_k (a := 0) (b := 0) (x := 0) rfl) z_3_466 (by decide)
        refine lv_aload_n hx hb ddX11_layFour_7 rfl (lv_at hl 1 rfl) ?_
        refine cg_get hC hO 0 (by decide) rfl rfl i_X11 1 (by decide) (List.mem_of_getElem? (i := 1) rfl) rfl ddX11_layFour_8 ?_
        refine lv_sipush (v := 1600) hx hb ddX11_layFour_11 (by decide) ?_
        refine lv_icmp_ge (tgt := 49) hx hb ddX11_layFour_14 (by decide) (fun h_14_502 => ?_) (fun h_14_502 => ?_)
        · have q_14_503 := zr_le h_14_502
          have z_14_504 : zi 1600 1600 v_3_467 := zd_le q_14_503 (zi_k (a := 1600) (b := 1600) (x := 1600) rfl) z_3_468 (by decide)
          exact cg_vret (nw := fun _ => 0) hC hr hlk hO.same (Nat.le_of_ble_eq_true rfl) (Nat.le_of_ble_eq_true rfl) (⟨v_3_467, c_3_469, (zi_w (c := 0) (d := 1600) z_14_504 (by decide)), rfl⟩) ddX11_layFour_49
        · have q_14_505 := zr_nle h_14_502
          have z_14_506 : zi 0 1599 v_3_467 := zu_lt q_14_505 z_3_468 (zi_k (a := 1600) (b := 1600) (x := 1600) rfl) (by decide)
          refine lv_aload_n hx hb ddX11_layFour_17 rfl (lv_at hl 1 rfl) ?_
          refine cg_get hC hO 0 (by decide) rfl rfl i_X11 0 (by decide) (List.mem_of_getElem? (i := 2) rfl) rfl ddX11_layFour_18 ?_
          refine lv_aload_n hx hb ddX11_layFour_21 rfl (lv_at hl 1 rfl) ?_
          refine cg_get hC hO 0 (by decide) rfl rfl i_X11 1 (by decide) (List.mem_of_getElem? (i := 1) rfl) rfl ddX11_layFour_22 ?_
          refine lv_iload_n hx hb ddX11_layFour_25 rfl (lv_at hl 2 rfl) ?_
          refine lv_iload_n hx hb ddX11_layFour_26 rfl (lv_at hl 0 rfl) ?_
          refine lv_iushr hx hb ddX11_layFour_27 rfl ?_
          refine lv_topi (fun v_27_507 _ => ?_)
          refine lv_sipush (v := 255) hx hb ddX11_layFour_28 (by decide) ?_
          refine lv_iand hx hb ddX11_layFour_31 ?_
          refine zg_top (P := fun v => zi 0 255 v) (zi_and (zi_k (a := 0) (b := 255) (x := 255) rfl)) (fun v_31_508 z_31_509 => ?_)
          refine zg_iast hC hO 1 (by decide) rfl zc_3_470 (zi_w (c := (-2147483648)) (d := 2147483647) z_31_509 (by decide)) (zi_in z_14_506 (by decide)) ddX11_layFour_32 (fun H locs c_32_510 zc_32_511 hO => ?_)
          have hO : cO D cy A s.heap s 2 ad (cup [(0, .inr (11, [.ref (ad 1), .int v_3_467, u0_2, u0_3, u0_4, u0_5, u0_6, u0_7, u0_8, u0_9, u0_10, u0_11, u0_12, u0_13])), (1, .inl (cy 0, 1600, .inl c_32_510))] g) _ _ := hO
          refine lv_aload_n hx hb ddX11_layFour_33 rfl (lv_at hl 1 rfl) ?_
          refine lv_dup hx hb ddX11_layFour_34 rfl ?_
          refine cg_get hC hO 0 (by decide) rfl rfl i_X11 1 (by decide) (List.mem_of_getElem? (i := 1) rfl) rfl ddX11_layFour_35 ?_
          refine lv_iconst (v := 1) hx hb ddX11_layFour_38 (by decide) ?_
          refine lv_iadd hx hb ddX11_layFour_39 ?_
          refine zg_top2 (P := fun v => zi 1 1600 v) (E := fun v => v.toInt = v_3_467.toInt + 1) (zi_addk z_14_506 (n := 1) (by decide) (by decide)) (fun v_39_512 z_39_513 q_39_514 => ?_)
          refine cg_put hC hO 0 (by decide) rfl rfl i_X11 tyX11_ok nmX11 1 (by decide) (List.mem_of_getElem? (i := 1) rfl) rfl rfl rfl (Nat.le_of_ble_eq_true rfl) ddX11_layFour_40 (fun H locs hO => ?_)
          have hO : cO D cy A s.heap s 2 ad (cup [(0, .inr (11, [.ref (ad 1), .int v_39_512, u0_2, u0_3, u0_4, u0_5, u0_6, u0_7, u0_8, u0_9, u0_10, u0_11, u0_12, u0_13])), (1, .inl (cy 0, 1600, .inl c_32_510))] g) _ _ := hO
          obtain ⟨v_43_515, e_43_516, z_43_517, q_43_518⟩ := zi_inc (e := (-8)) (f := 16) (-8) z_4_501 (by decide)
          refine lv_iinc (v := v_43_515) (lv' := [(2, .int v_43_515), (0, .ref (ad 0)), (1, .int four)]) hx hb ddX11_layFour_43 hl (k := 0) rfl e_43_516 (by decide) rfl (fun ls hl => ?_)
          refine lv_goto (tgt := 3) hx hb ddX11_layFour_46 (by decide) ?_
          exact ih_3_496 v_43_515 v_39_512 c_32_510 (zi_w (c := (-8)) (d := 24) z_43_517 (by decide)) (zi_w (c := 0) (d := 1600) z_39_513 (by decide)) zc_32_511 (zm_dn q_43_518 ((zi_w (c := (-8)) (d := 24) z_43_517 (by decide))).1 (by decide) mu_3_495) _ _ hO ls (lv_sub hl [0, 1, 2] rfl)
  exact loop_3_493 (((24 : Int32).toInt - (-8) + 1).toNat + 1) 24 x0_1 c1 (zi_k (a := (-8)) (b := 24) (x := 24) rfl) b0_1 (za_all _) (Nat.lt_succ_self _) _ _ hO ls (lv_sub hl [0, 1, 2] rfl)

theorem ddX11_end_0 : decode cX11_end 0 = .ok (.iload_n 1, 1) := by decide +kernel
theorem ddX11_end_1 : decode cX11_end 1 = .ok (.iconst 0, 1) := by decide +kernel
theorem ddX11_end_2 : decode cX11_end 2 = .ok (.aload_n 0, 1) := by decide +kernel
theorem ddX11_end_3 : decode cX11_end 3 = .ok (.getfield 13, 3) := by decide +kernel
theorem ddX11_end_6 : decode cX11_end 6 = .ok (.invokestatic 107, 3) := by decide +kernel
theorem ddX11_end_9 : decode cX11_end 9 = .ok (.ifCond .ne 5, 3) := by decide +kernel
theorem ddX11_end_12 : decode cX11_end 12 = .ok (.iconst (-1), 1) := by decide +kernel
theorem ddX11_end_13 : decode cX11_end 13 = .ok (.ireturn, 1) := by decide +kernel
theorem ddX11_end_14 : decode cX11_end 14 = .ok (.aload_n 0, 1) := by decide +kernel
theorem ddX11_end_15 : decode cX11_end 15 = .ok (.iload_n 1, 1) := by decide +kernel
theorem ddX11_end_16 : decode cX11_end 16 = .ok (.putfield 13, 3) := by decide +kernel
theorem ddX11_end_19 : decode cX11_end 19 = .ok (.iload_n 1, 1) := by decide +kernel
theorem ddX11_end_20 : decode cX11_end 20 = .ok (.ireturn, 1) := by decide +kernel
def wq_k_X11_end : List Cond := Cond.code yX11_end cX11_end 2 (some .int) :: (([Cond.fieldLink RX11 13 "CrowToll" "onTape" "I", Cond.methodLink RX11 107 yX11_within, Cond.static yX11_within, Cond.initialized RX11, Cond.code yX11_within cX11_within 3 (some .boolean)] : List Cond) ++ wsX110)
set_option maxRecDepth 20000 in
theorem gr_k_X11_end_k_X11_within : GoodIn wq_k_X11_end wq_k_X11_within := List.forall_mem_cons.mpr ⟨⟨(List.mem_of_getElem? (i := 5) rfl), good_of_word rfl⟩, (fun _ h => absurd h List.not_mem_nil)⟩
set_option maxRecDepth 20000 in
theorem gq_k_X11_end_k_X11_within_107 : GoodIn wq_k_X11_end (va_wsS RX11 107 yX11_within wq_k_X11_within) := goodIn_app (List.forall_mem_cons.mpr ⟨⟨(List.mem_of_getElem? (i := 2) rfl), good_of_word rfl⟩, List.forall_mem_cons.mpr ⟨⟨(List.mem_of_getElem? (i := 3) rfl), good_of_word rfl⟩, List.forall_mem_cons.mpr ⟨⟨(List.mem_of_getElem? (i := 4) rfl), good_of_word rfl⟩, (fun _ h => absurd h List.not_mem_nil)⟩⟩⟩) gr_k_X11_end_k_X11_within
set_option maxHeartbeats 8000000 in
set_option maxRecDepth 100000 in
theorem k_X11_end (l : Launch) (D : va_G) (cy : Nat → ClassId) (ad : Nat → Nat) (g : Nat → va_E) {u0_0 : Value} {x0_1 : Int32} {u0_2 : Value} {u0_3 : Value} {u0_4 : Value} {u0_5 : Value} {u0_6 : Value} {u0_7 : Value} {u0_8 : Value} {u0_9 : Value} {u0_10 : Value} {u0_11 : Value} {u0_12 : Value} {u0_13 : Value} {n : Int32} (o0 : g 0 = .inr (11, [u0_0, .int x0_1, u0_2, u0_3, u0_4, u0_5, u0_6, u0_7, u0_8, u0_9, u0_10, u0_11, u0_12, u0_13])) (b0_1 : zi 0 1600 x0_1) : cMi l yX11_end wq_k_X11_end { frames := 1, cells := 0, slots := 0, locals := 22 } 1 0 0 0 D cy ad g [.ref (ad 0), .int n] (fun r nw lu => ∃ (y0_1 : Int32), (zi 0 1600 y0_1) ∧ (zi (-1) 1600 r) ∧ (lu = [(0, .inr (11, [u0_0, .int y0_1, u0_2, u0_3, u0_4, u0_5, u0_6, u0_7, u0_8, u0_9, u0_10, u0_11, u0_12, u0_13]))])) := by
  refine cM_of (Qc := fun A => cQi (fun r nw lu => ∃ (y0_1 : Int32), (zi 0 1600 y0_1) ∧ (zi (-1) 1600 r) ∧ (lu = [(0, .inr (11, [u0_0, .int y0_1, u0_2, u0_3, u0_4, u0_5, u0_6, u0_7, u0_8, u0_9, u0_10, u0_11, u0_12, u0_13]))])) D 1 0 ad g A) (cc := cX11_end) (maxL := 2) (ret := (some .int)) (by decide) rfl (Nat.le_of_ble_eq_true rfl) ?_
  intro p e s m below meth c A hC hr hlk hnm hO ls hl
  have hC : CallFix p m c cX11_end 2 s [.ref (ad 0), .int n].toArray wq_k_X11_end RX11 := hC
  obtain ⟨hx, hb, hml, hown, hts⟩ := id hC
  have hl : lv_has ls 2 [(0, .ref (ad 0)), (1, .int n)] := hl
  have i_X11 : ∀ w ∈ wsX110, w ∈ wq_k_X11_end := fun w h => List.mem_cons_of_mem _ (List.mem_append_right _ h)
  have hO := hO.notes [(0, .inr (11, [u0_0, .int x0_1, u0_2, u0_3, u0_4, u0_5, u0_6, u0_7, u0_8, u0_9, u0_10, u0_11, u0_12, u0_13]))] (List.forall_mem_cons.mpr ⟨o0, (fun _ h => absurd h List.not_mem_nil)⟩)
  refine lv_iload_n hx hb ddX11_end_0 rfl (lv_at hl 1 rfl) ?_
  refine lv_iconst (v := 0) hx hb ddX11_end_1 (by decide) ?_
  refine lv_aload_n hx hb ddX11_end_2 rfl (lv_at hl 0 rfl) ?_
  refine cg_get hC hO 0 (by decide) rfl rfl i_X11 1 (by decide) (List.mem_of_getElem? (i := 1) rfl) rfl ddX11_end_3 ?_
  refine cg_Si (As := [.int n, .int 0, .int x0_1]) (rest := []) (mc := 0) (ms := 0) (rm := { frames := 0, cells := 0, slots := 0, locals := 0 }) hC hl.1 hO [] (by decide +kernel) (k_X11_within l D cy _ _ (number := n) (least := 0) (most := x0_1) ) gq_k_X11_end_k_X11_within_107 rfl rfl rfl 3 (by decide +kernel) ⟨Nat.le_of_ble_eq_true rfl, Nat.le_of_ble_eq_true rfl⟩ rfl rfl (Nat.le_of_ble_eq_true rfl) ddX11_end_6 ⟨Nat.le_of_ble_eq_true rfl, Nat.le_of_ble_eq_true rfl⟩ (fun r_6_21 nw_6_19 l_6_20 H locs hw hO => ?_)
  rcases hw with hw | hw
  · obtain ⟨q_6_22, q_6_23, rfl, rfl⟩ := hw
    have hO : cO D cy A s.heap s 1 ad (cup [(0, .inr (11, [u0_0, .int x0_1, u0_2, u0_3, u0_4, u0_5, u0_6, u0_7, u0_8, u0_9, u0_10, u0_11, u0_12, u0_13]))] g) _ _ := hO
    have q_6_24 := q_6_22
    have z_6_25 : zi 0 2147483647 n := zd_le q_6_24 (zi_k (a := 0) (b := 0) (x := 0) rfl) (zi_all n) (by decide)
    have q_6_26 := q_6_23
    have z_6_27 : zi 0 1600 n := zu_le q_6_26 z_6_25 b0_1 (by decide)
    refine lv_if_ne (tgt := 14) hx hb ddX11_end_9 (by decide) (fun _ => ?_) (fun h => absurd h (by decide))
    refine lv_aload_n hx hb ddX11_end_14 rfl (lv_at hl 0 rfl) ?_
    refine lv_iload_n hx hb ddX11_end_15 rfl (lv_at hl 1 rfl) ?_
    refine cg_put hC hO 0 (by decide) rfl rfl i_X11 tyX11_ok nmX11 1 (by decide) (List.mem_of_getElem? (i := 1) rfl) rfl rfl rfl (Nat.le_of_ble_eq_true rfl) ddX11_end_16 (fun H locs hO => ?_)
    have hO : cO D cy A s.heap s 1 ad (cup [(0, .inr (11, [u0_0, .int n, u0_2, u0_3, u0_4, u0_5, u0_6, u0_7, u0_8, u0_9, u0_10, u0_11, u0_12, u0_13]))] g) _ _ := hO
    refine lv_iload_n hx hb ddX11_end_19 rfl (lv_at hl 1 rfl) ?_
    exact cg_iret (nw := fun _ => 0) hC hr hlk hO.same rfl (Nat.le_of_ble_eq_true rfl) (Nat.le_of_ble_eq_true rfl) (⟨n, z_6_27, (zi_w (c := (-1)) (d := 1600) z_6_27 (by decide)), rfl⟩) ddX11_end_20
  · obtain ⟨rfl, rfl⟩ := hw
    have hO : cO D cy A s.heap s 1 ad (cup [(0, .inr (11, [u0_0, .int x0_1, u0_2, u0_3, u0_4, u0_5, u0_6, u0_7, u0_8, u0_9, u0_10, u0_11, u0_12, u0_13]))] g) _ _ := hO
    refine lv_if_ne (tgt := 14) hx hb ddX11_end_9 (by decide) (fun h => absurd h (by decide)) (fun _ => ?_)
    refine lv_iconst (v := (-1)) hx hb ddX11_end_12 (by decide) ?_
    exact cg_iret (nw := fun _ => 0) hC hr hlk hO.same rfl (Nat.le_of_ble_eq_true rfl) (Nat.le_of_ble_eq_true rfl) (⟨x0_1, b0_1, (zi_k (a := (-1)) (b := 1600) (x := (-1)) rfl), rfl⟩) ddX11_end_13

theorem ddX11_feed_0 : decode cX11_feed 0 = .ok (.aload_n 0, 1) := by decide +kernel
theorem ddX11_feed_1 : decode cX11_feed 1 = .ok (.getfield 13, 3) := by decide +kernel
theorem ddX11_feed_4 : decode cX11_feed 4 = .ok (.bipush 20, 2) := by decide +kernel
theorem ddX11_feed_6 : decode cX11_feed 6 = .ok (.iadd, 1) := by decide +kernel
theorem ddX11_feed_7 : decode cX11_feed 7 = .ok (.sipush 1600, 3) := by decide +kernel
theorem ddX11_feed_10 : decode cX11_feed 10 = .ok (.if_icmp .le 5, 3) := by decide +kernel
theorem ddX11_feed_13 : decode cX11_feed 13 = .ok (.iconst (-1), 1) := by decide +kernel
theorem ddX11_feed_14 : decode cX11_feed 14 = .ok (.ireturn, 1) := by decide +kernel
theorem ddX11_feed_15 : decode cX11_feed 15 = .ok (.aload_n 0, 1) := by decide +kernel
theorem ddX11_feed_16 : decode cX11_feed 16 = .ok (.iload_n 1, 1) := by decide +kernel
theorem ddX11_feed_17 : decode cX11_feed 17 = .ok (.invokevirtual 103, 3) := by decide +kernel
theorem ddX11_feed_20 : decode cX11_feed 20 = .ok (.aload_n 0, 1) := by decide +kernel
theorem ddX11_feed_21 : decode cX11_feed 21 = .ok (.iload_n 2, 1) := by decide +kernel
theorem ddX11_feed_22 : decode cX11_feed 22 = .ok (.invokevirtual 103, 3) := by decide +kernel
theorem ddX11_feed_25 : decode cX11_feed 25 = .ok (.aload_n 0, 1) := by decide +kernel
theorem ddX11_feed_26 : decode cX11_feed 26 = .ok (.iload_n 3, 1) := by decide +kernel
theorem ddX11_feed_27 : decode cX11_feed 27 = .ok (.invokevirtual 103, 3) := by decide +kernel
theorem ddX11_feed_30 : decode cX11_feed 30 = .ok (.aload_n 0, 1) := by decide +kernel
theorem ddX11_feed_31 : decode cX11_feed 31 = .ok (.iload 4, 2) := by decide +kernel
theorem ddX11_feed_33 : decode cX11_feed 33 = .ok (.invokevirtual 103, 3) := by decide +kernel
theorem ddX11_feed_36 : decode cX11_feed 36 = .ok (.aload_n 0, 1) := by decide +kernel
theorem ddX11_feed_37 : decode cX11_feed 37 = .ok (.iload 5, 2) := by decide +kernel
theorem ddX11_feed_39 : decode cX11_feed 39 = .ok (.invokevirtual 103, 3) := by decide +kernel
theorem ddX11_feed_42 : decode cX11_feed 42 = .ok (.aload_n 0, 1) := by decide +kernel
theorem ddX11_feed_43 : decode cX11_feed 43 = .ok (.getfield 13, 3) := by decide +kernel
theorem ddX11_feed_46 : decode cX11_feed 46 = .ok (.ireturn, 1) := by decide +kernel
def wq_k_X11_feed : List Cond := Cond.code yX11_feed cX11_feed 6 (some .int) :: (([Cond.fieldLink RX11 13 "CrowToll" "onTape" "I", Cond.methodLink RX11 103 yX11_layFour, Cond.instanceMethod yX11_layFour, Cond.selects RX11 yX11_layFour yX11_layFour, Cond.initialized RX11, Cond.code yX11_layFour cX11_layFour 3 none, Cond.fieldLink RX11 9 "CrowToll" "tape" "[I"] : List Cond) ++ wsX110)
set_option maxRecDepth 20000 in
theorem gr_k_X11_feed_k_X11_layFour : GoodIn wq_k_X11_feed wq_k_X11_layFour := List.forall_mem_cons.mpr ⟨⟨(List.mem_of_getElem? (i := 6) rfl), good_of_word rfl⟩, List.forall_mem_append.mpr ⟨List.forall_mem_cons.mpr ⟨⟨(List.mem_of_getElem? (i := 1) rfl), good_of_word rfl⟩, List.forall_mem_cons.mpr ⟨⟨(List.mem_of_getElem? (i := 7) rfl), good_of_word rfl⟩, (fun _ h => absurd h List.not_mem_nil)⟩⟩, fun w h => ⟨(fun w h => List.mem_cons_of_mem _ (List.mem_append_right _ h)) w h, good_of_word (List.all_eq_true.mp gw_X11 w h)⟩⟩⟩
set_option maxRecDepth 20000 in
theorem gq_k_X11_feed_k_X11_layFour_103 : GoodIn wq_k_X11_feed (wsV RX11 103 RX11 yX11_layFour wq_k_X11_layFour) := goodIn_app (List.forall_mem_cons.mpr ⟨⟨(List.mem_of_getElem? (i := 2) rfl), good_of_word rfl⟩, List.forall_mem_cons.mpr ⟨⟨(List.mem_of_getElem? (i := 3) rfl), good_of_word rfl⟩, List.forall_mem_cons.mpr ⟨⟨(List.mem_of_getElem? (i := 4) rfl), good_of_word rfl⟩, List.forall_mem_cons.mpr ⟨⟨(List.mem_of_getElem? (i := 5) rfl), good_of_word rfl⟩, (fun _ h => absurd h List.not_mem_nil)⟩⟩⟩⟩) gr_k_X11_feed_k_X11_layFour
set_option maxHeartbeats 8000000 in
set_option maxRecDepth 100000 in
theorem k_X11_feed (l : Launch) (D : va_G) (cy : Nat → ClassId) (ad : Nat → Nat) (g : Nat → va_E) {x0_1 : Int32} {u0_2 : Value} {u0_3 : Value} {u0_4 : Value} {u0_5 : Value} {u0_6 : Value} {u0_7 : Value} {u0_8 : Value} {u0_9 : Value} {u0_10 : Value} {u0_11 : Value} {u0_12 : Value} {u0_13 : Value} {c1 : Nat → Int32} {ax : Int32} {bx : Int32} {cx : Int32} {dx : Int32} {ex : Int32} (o0 : g 0 = .inr (11, [.ref (ad 1), .int x0_1, u0_2, u0_3, u0_4, u0_5, u0_6, u0_7, u0_8, u0_9, u0_10, u0_11, u0_12, u0_13])) (a1 : g 1 = .inl (cy 0, 1600, .inl c1)) (b0_1 : zi 0 1600 x0_1) : cMi l yX11_feed wq_k_X11_feed { frames := 1, cells := 0, slots := 0, locals := 22 } 2 0 0 0 D cy ad g [.ref (ad 0), .int ax, .int bx, .int cx, .int dx, .int ex] (fun r nw lu => ∃ (y0_1 : Int32) (d1 : Nat → Int32), (zi 0 1600 y0_1) ∧ (zi (-1) 1600 r) ∧ (lu = [(0, .inr (11, [.ref (ad 1), .int y0_1, u0_2, u0_3, u0_4, u0_5, u0_6, u0_7, u0_8, u0_9, u0_10, u0_11, u0_12, u0_13])), (1, .inl (cy 0, 1600, .inl d1))])) := by
  refine cM_of (Qc := fun A => cQi (fun r nw lu => ∃ (y0_1 : Int32) (d1 : Nat → Int32), (zi 0 1600 y0_1) ∧ (zi (-1) 1600 r) ∧ (lu = [(0, .inr (11, [.ref (ad 1), .int y0_1, u0_2, u0_3, u0_4, u0_5, u0_6, u0_7, u0_8, u0_9, u0_10, u0_11, u0_12, u0_13])), (1, .inl (cy 0, 1600, .inl d1))])) D 2 0 ad g A) (cc := cX11_feed) (maxL := 6) (ret := (some .int)) (by decide) rfl (Nat.le_of_ble_eq_true rfl) ?_
  intro p e s m below meth c A hC hr hlk hnm hO ls hl
  have hC : CallFix p m c cX11_feed 6 s [.ref (ad 0), .int ax, .int bx, .int cx, .int dx, .int ex].toArray wq_k_X11_feed RX11 := hC
  obtain ⟨hx, hb, hml, hown, hts⟩ := id hC
  have hl : lv_has ls 6 [(0, .ref (ad 0)), (1, .int ax), (2, .int bx), (3, .int cx), (4, .int dx), (5, .int ex)] := hl
  have i_X11 : ∀ w ∈ wsX110, w ∈ wq_k_X11_feed := fun w h => List.mem_cons_of_mem _ (List.mem_append_right _ h)
  have hO := hO.notes [(0, .inr (11, [.ref (ad 1), .int x0_1, u0_2, u0_3, u0_4, u0_5, u0_6, u0_7, u0_8, u0_9, u0_10, u0_11, u0_12, u0_13])), (1, .inl (cy 0, 1600, .inl c1))] (List.forall_mem_cons.mpr ⟨o0, List.forall_mem_cons.mpr ⟨a1, (fun _ h => absurd h List.not_mem_nil)⟩⟩)
  refine lv_aload_n hx hb ddX11_feed_0 rfl (lv_at hl 0 rfl) ?_
  refine cg_get hC hO 0 (by decide) rfl rfl i_X11 1 (by decide) (List.mem_of_getElem? (i := 1) rfl) rfl ddX11_feed_1 ?_
  refine lv_bipush (v := 20) hx hb ddX11_feed_4 (by decide) ?_
  refine lv_iadd hx hb ddX11_feed_6 ?_
  refine zg_top2 (P := fun v => zi 20 1620 v) (E := fun v => v.toInt = x0_1.toInt + 20) (zi_addk b0_1 (n := 20) (by decide) (by decide)) (fun v_6_81 z_6_82 q_6_83 => ?_)
  refine lv_sipush (v := 1600) hx hb ddX11_feed_7 (by decide) ?_
  refine lv_icmp_le (tgt := 15) hx hb ddX11_feed_10 (by decide) (fun h_10_84 => ?_) (fun h_10_84 => ?_)
  · have q_10_85 := zr_le h_10_84
    have z_10_86 : zi 20 1600 v_6_81 := zu_le q_10_85 z_6_82 (zi_k (a := 1600) (b := 1600) (x := 1600) rfl) (by decide)
    have z_10_87 : zi 0 1580 x0_1 := zp_add q_6_83 z_10_86 b0_1 (by decide)
    refine lv_aload_n hx hb ddX11_feed_15 rfl (lv_at hl 0 rfl) ?_
    refine lv_iload_n hx hb ddX11_feed_16 rfl (lv_at hl 1 rfl) ?_
    refine cg_Vv (As := [.int ax]) (rest := []) (mc := 0) (ms := 0) (rm := { frames := 0, cells := 0, slots := 0, locals := 0 }) hC hl.1 hO [0, 1] (by decide +kernel) (k_X11_layFour l D cy _ _ (c1 := c1) (x0_1 := x0_1) (u0_2 := u0_2) (u0_3 := u0_3) (u0_4 := u0_4) (u0_5 := u0_5) (u0_6 := u0_6) (u0_7 := u0_7) (u0_8 := u0_8) (u0_9 := u0_9) (u0_10 := u0_10) (u0_11 := u0_11) (u0_12 := u0_12) (u0_13 := u0_13) (four := ax) rfl rfl (zi_w (c := 0) (d := 1600) z_10_87 (by decide))) gq_k_X11_feed_k_X11_layFour_103 rfl rfl rfl 1 (by decide +kernel) ⟨Nat.le_of_ble_eq_true rfl, Nat.le_of_ble_eq_true rfl⟩ rfl (by decide) rfl rfl rfl (Nat.le_of_ble_eq_true rfl) ddX11_feed_17 ⟨Nat.le_of_ble_eq_true rfl, Nat.le_of_ble_eq_true rfl⟩ (fun nw_17_88 l_17_89 H locs hw hO => ?_)
    obtain ⟨y0_17_91, d1_17_92, z_17_93, rfl⟩ := hw
    have hO := hO.mrg (lk := [(0, .inr (11, [.ref (ad 1), .int y0_17_91, u0_2, u0_3, u0_4, u0_5, u0_6, u0_7, u0_8, u0_9, u0_10, u0_11, u0_12, u0_13])), (1, .inl (cy 0, 1600, .inl d1_17_92))]) (lm := [(0, .inr (11, [.ref (ad 1), .int y0_17_91, u0_2, u0_3, u0_4, u0_5, u0_6, u0_7, u0_8, u0_9, u0_10, u0_11, u0_12, u0_13])), (1, .inl (cy 0, 1600, .inl d1_17_92))]) rfl rfl rfl
    refine lv_aload_n hx hb ddX11_feed_20 rfl (lv_at hl 0 rfl) ?_
    refine lv_iload_n hx hb ddX11_feed_21 rfl (lv_at hl 2 rfl) ?_
    refine cg_Vv (As := [.int bx]) (rest := []) (mc := 0) (ms := 0) (rm := { frames := 0, cells := 0, slots := 0, locals := 0 }) hC hl.1 hO [0, 1] (by decide +kernel) (k_X11_layFour l D cy _ _ (c1 := d1_17_92) (x0_1 := y0_17_91) (u0_2 := u0_2) (u0_3 := u0_3) (u0_4 := u0_4) (u0_5 := u0_5) (u0_6 := u0_6) (u0_7 := u0_7) (u0_8 := u0_8) (u0_9 := u0_9) (u0_10 := u0_10) (u0_11 := u0_11) (u0_12 := u0_12) (u0_13 := u0_13) (four := bx) rfl rfl z_17_93) gq_k_X11_feed_k_X11_layFour_103 rfl rfl rfl 1 (by decide +kernel) ⟨Nat.le_of_ble_eq_true rfl, Nat.le_of_ble_eq_true rfl⟩ rfl (by decide) rfl rfl rfl (Nat.le_of_ble_eq_true rfl) ddX11_feed_22 ⟨Nat.le_of_ble_eq_true rfl, Nat.le_of_ble_eq_true rfl⟩ (fun nw_22_94 l_22_95 H locs hw hO => ?_)
    obtain ⟨y0_22_97, d1_22_98, z_22_99, rfl⟩ := hw
    have hO := hO.mrg (lk := [(0, .inr (11, [.ref (ad 1), .int y0_22_97, u0_2, u0_3, u0_4, u0_5, u0_6, u0_7, u0_8, u0_9, u0_10, u0_11, u0_12, u0_13])), (1, .inl (cy 0, 1600, .inl d1_22_98))]) (lm := [(0, .inr (11, [.ref (ad 1), .int y0_22_97, u0_2, u0_3, u0_4, u0_5, u0_6, u0_7, u0_8, u0_9, u0_10, u0_11, u0_12, u0_13])), (1, .inl (cy 0, 1600, .inl d1_22_98))]) rfl rfl rfl
    refine lv_aload_n hx hb ddX11_feed_25 rfl (lv_at hl 0 rfl) ?_
    refine lv_iload_n hx hb ddX11_feed_26 rfl (lv_at hl 3 rfl) ?_
    refine cg_Vv (As := [.int cx]) (rest := []) (mc := 0) (ms := 0) (rm := { frames := 0, cells := 0, slots := 0, locals := 0 }) hC hl.1 hO [0, 1] (by decide +kernel) (k_X11_layFour l D cy _ _ (c1 := d1_22_98) (x0_1 := y0_22_97) (u0_2 := u0_2) (u0_3 := u0_3) (u0_4 := u0_4) (u0_5 := u0_5) (u0_6 := u0_6) (u0_7 := u0_7) (u0_8 := u0_8) (u0_9 := u0_9) (u0_10 := u0_10) (u0_11 := u0_11) (u0_12 := u0_12) (u0_13 := u0_13) (four := cx) rfl rfl z_22_99) gq_k_X11_feed_k_X11_layFour_103 rfl rfl rfl 1 (by decide +kernel) ⟨Nat.le_of_ble_eq_true rfl, Nat.le_of_ble_eq_true rfl⟩ rfl (by decide) rfl rfl rfl (Nat.le_of_ble_eq_true rfl) ddX11_feed_27 ⟨Nat.le_of_ble_eq_true rfl, Nat.le_of_ble_eq_true rfl⟩ (fun nw_27_100 l_27_101 H locs hw hO => ?_)
    obtain ⟨y0_27_103, d1_27_104, z_27_105, rfl⟩ := hw
    have hO := hO.mrg (lk := [(0, .inr (11, [.ref (ad 1), .int y0_27_103, u0_2, u0_3, u0_4, u0_5, u0_6, u0_7, u0_8, u0_9, u0_10, u0_11, u0_12, u0_13])), (1, .inl (cy 0, 1600, .inl d1_27_104))]) (lm := [(0, .inr (11, [.ref (ad 1), .int y0_27_103, u0_2, u0_3, u0_4, u0_5, u0_6, u0_7, u0_8, u0_9, u0_10, u0_11, u0_12, u0_13])), (1, .inl (cy 0, 1600, .inl d1_27_104))]) rfl rfl rfl
    refine lv_aload_n hx hb ddX11_feed_30 rfl (lv_at hl 0 rfl) ?_
    refine lv_iload hx hb ddX11_feed_31 (lv_at hl 4 rfl) ?_
    refine cg_Vv (As := [.int dx]) (rest := []) (mc := 0) (ms := 0) (rm := { frames := 0, cells := 0, slots := 0, locals := 0 }) hC hl.1 hO [0, 1] (by decide +kernel) (k_X11_layFour l D cy _ _ (c1 := d1_27_104) (x0_1 := y0_27_103) (u0_2 := u0_2) (u0_3 := u0_3) (u0_4 := u0_4) (u0_5 := u0_5) (u0_6 := u0_6) (u0_7 := u0_7) (u0_8 := u0_8) (u0_9 := u0_9) (u0_10 := u0_10) (u0_11 := u0_11) (u0_12 := u0_12) (u0_13 := u0_13) (four := dx) rfl rfl z_27_105) gq_k_X11_feed_k_X11_layFour_103 rfl rfl rfl 1 (by decide +kernel) ⟨Nat.le_of_ble_eq_true rfl, Nat.le_of_ble_eq_true rfl⟩ rfl (by decide) rfl rfl rfl (Nat.le_of_ble_eq_true rfl) ddX11_feed_33 ⟨Nat.le_of_ble_eq_true rfl, Nat.le_of_ble_eq_true rfl⟩ (fun nw_33_106 l_33_107 H locs hw hO => ?_)
    obtain ⟨y0_33_109, d1_33_110, z_33_111, rfl⟩ := hw
    have hO := hO.mrg (lk := [(0, .inr (11, [.ref (ad 1), .int y0_33_109, u0_2, u0_3, u0_4, u0_5, u0_6, u0_7, u0_8, u0_9, u0_10, u0_11, u0_12, u0_13])), (1, .inl (cy 0, 1600, .inl d1_33_110))]) (lm := [(0, .inr (11, [.ref (ad 1), .int y0_33_109, u0_2, u0_3, u0_4, u0_5, u0_6, u0_7, u0_8, u0_9, u0_10, u0_11, u0_12, u0_13])), (1, .inl (cy 0, 1600, .inl d1_33_110))]) rfl rfl rfl
    refine lv_aload_n hx hb ddX11_feed_36 rfl (lv_at hl 0 rfl) ?_
    refine lv_iload hx hb ddX11_feed_37 (lv_at hl 5 rfl) ?_
    refine cg_Vv (As := [.int ex]) (rest := []) (mc := 0) (ms := 0) (rm := { frames := 0, cells := 0, slots := 0, locals := 0 }) hC hl.1 hO [0, 1] (by decide +kernel) (k_X11_layFour l D cy _ _ (c1 := d1_33_110) (x0_1 := y0_33_109) (u0_2 := u0_2) (u0_3 := u0_3) (u0_4 := u0_4) (u0_5 := u0_5) (u0_6 := u0_6) (u0_7 := u0_7) (u0_8 := u0_8) (u0_9 := u0_9) (u0_10 := u0_10) (u0_11 := u0_11) (u0_12 := u0_12) (u0_13 := u0_13) (four := ex) rfl rfl z_33_111) gq_k_X11_feed_k_X11_layFour_103 rfl rfl rfl 1 (by decide +kernel) ⟨Nat.le_of_ble_eq_true rfl, Nat.le_of_ble_eq_true rfl⟩ rfl (by decide) rfl rfl rfl (Nat.le_of_ble_eq_true rfl) ddX11_feed_39 ⟨Nat.le_of_ble_eq_true rfl, Nat.le_of_ble_eq_true rfl⟩ (fun nw_39_112 l_39_113 H locs hw hO => ?_)
    obtain ⟨y0_39_115, d1_39_116, z_39_117, rfl⟩ := hw
    have hO := hO.mrg (lk := [(0, .inr (11, [.ref (ad 1), .int y0_39_115, u0_2, u0_3, u0_4, u0_5, u0_6, u0_7, u0_8, u0_9, u0_10, u0_11, u0_12, u0_13])), (1, .inl (cy 0, 1600, .inl d1_39_116))]) (lm := [(0, .inr (11, [.ref (ad 1), .int y0_39_115, u0_2, u0_3, u0_4, u0_5, u0_6, u0_7, u0_8, u0_9, u0_10, u0_11, u0_12, u0_13])), (1, .inl (cy 0, 1600, .inl d1_39_116))]) rfl rfl rfl
    refine lv_aload_n hx hb ddX11_feed_42 rfl (lv_at hl 0 rfl) ?_
    refine cg_get hC hO 0 (by decide) rfl rfl i_X11 1 (by decide) (List.mem_of_getElem? (i := 1) rfl) rfl ddX11_feed_43 ?_
    exact cg_iret (nw := fun _ => 0) hC hr hlk hO.same rfl (Nat.le_of_ble_eq_true rfl) (Nat.le_of_ble_eq_true rfl) (⟨y0_39_115, d1_39_116, z_39_117, (zi_w (c := (-1)) (d := 1600) z_39_117 (by decide)), rfl⟩) ddX11_feed_46
  · have q_10_118 := zr_nle h_10_84
    have z_10_119 : zi 1601 1620 v_6_81 := zd_lt q_10_118 (zi_k (a := 1600) (b := 1600) (x := 1600) rfl) z_6_82 (by decide)
    have z_10_120 : zi 1581 1600 x0_1 := zp_add q_6_83 z_10_119 b0_1 (by decide)
    refine lv_iconst (v := (-1)) hx hb ddX11_feed_13 (by decide) ?_
    exact cg_iret (nw := fun _ => 0) hC hr hlk hO.same rfl (Nat.le_of_ble_eq_true rfl) (Nat.le_of_ble_eq_true rfl) (⟨x0_1, c1, (zi_w (c := 0) (d := 1600) z_10_120 (by decide)), (zi_k (a := (-1)) (b := 1600) (x := (-1)) rfl), rfl⟩) ddX11_feed_14

theorem ddX0_forget_0 : decode cX0_forget 0 = .ok (.aload_n 0, 1) := by decide +kernel
theorem ddX0_forget_1 : decode cX0_forget 1 = .ok (.iconst 0, 1) := by decide +kernel
theorem ddX0_forget_2 : decode cX0_forget 2 = .ok (.putfield 21, 3) := by decide +kernel
theorem ddX0_forget_5 : decode cX0_forget 5 = .ok (.aload_n 0, 1) := by decide +kernel
theorem ddX0_forget_6 : decode cX0_forget 6 = .ok (.iconst 0, 1) := by decide +kernel
theorem ddX0_forget_7 : decode cX0_forget 7 = .ok (.putfield 25, 3) := by decide +kernel
theorem ddX0_forget_10 : decode cX0_forget 10 = .ok (.return_, 1) := by decide +kernel
def wq_k_X0_forget : List Cond := Cond.code yX0_forget cX0_forget 1 none :: (([Cond.fieldLink RX0 21 "CrowToll$Acts" "done" "I", Cond.fieldLink RX0 25 "CrowToll$Acts" "kept" "I"] : List Cond) ++ wsX00)
set_option maxHeartbeats 8000000 in
set_option maxRecDepth 100000 in
theorem k_X0_forget (l : Launch) (D : va_G) (cy : Nat → ClassId) (ad : Nat → Nat) (g : Nat → va_E) {u0_0 : Value} {u0_1 : Value} {u0_2 : Value} {x0_3 : Int32} {x0_4 : Int32} (o0 : g 0 = .inr (0, [u0_0, u0_1, u0_2, .int x0_3, .int x0_4])) (b0_3 : zi 0 40 x0_3) (b0_4 : zi 0 40 x0_4) : cMv l yX0_forget wq_k_X0_forget { frames := 0, cells := 0, slots := 0, locals := 0 } 1 0 0 0 D cy ad g [.ref (ad 0)] (fun nw lu => lu = [(0, .inr (0, [u0_0, u0_1, u0_2, .int 0, .int 0]))]) := by
  refine cM_of (Qc := fun A => cQv (fun nw lu => lu = [(0, .inr (0, [u0_0, u0_1, u0_2, .int 0, .int 0]))]) D 1 0 ad g A) (cc := cX0_forget) (maxL := 1) (ret := none) (by decide) rfl (Nat.le_of_ble_eq_true rfl) ?_
  intro p e s m below meth c A hC hr hlk hnm hO ls hl
  have hC : CallFix p m c cX0_forget 1 s [.ref (ad 0)].toArray wq_k_X0_forget RX0 := hC
  obtain ⟨hx, hb, hml, hown, hts⟩ := id hC
  have hl : lv_has ls 1 [(0, .ref (ad 0))] := hl
  have i_X0 : ∀ w ∈ wsX00, w ∈ wq_k_X0_forget := fun w h => List.mem_cons_of_mem _ (List.mem_append_right _ h)
  have hO := hO.notes [(0, .inr (0, [u0_0, u0_1, u0_2, .int x0_3, .int x0_4]))] (List.forall_mem_cons.mpr ⟨o0, (fun _ h => absurd h List.not_mem_nil)⟩)
  refine lv_aload_n hx hb ddX0_forget_0 rfl (lv_at hl 0 rfl) ?_
  refine lv_iconst (v := 0) hx hb ddX0_forget_1 (by decide) ?_
  refine cg_put hC hO 0 (by decide) rfl rfl i_X0 tyX0_ok nmX0 3 (by decide) (List.mem_of_getElem? (i := 1) rfl) rfl rfl rfl (Nat.le_of_ble_eq_true rfl) ddX0_forget_2 (fun H locs hO => ?_)
  have hO : cO D cy A s.heap s 1 ad (cup [(0, .inr (0, [u0_0, u0_1, u0_2, .int 0, .int x0_4]))] g) _ _ := hO
  refine lv_aload_n hx hb ddX0_forget_5 rfl (lv_at hl 0 rfl) ?_
  refine lv_iconst (v := 0) hx hb ddX0_forget_6 (by decide) ?_
  refine cg_put hC hO 0 (by decide) rfl rfl i_X0 tyX0_ok nmX0 4 (by decide) (List.mem_of_getElem? (i := 2) rfl) rfl rfl rfl (Nat.le_of_ble_eq_true rfl) ddX0_forget_7 (fun H locs hO => ?_)
  have hO : cO D cy A s.heap s 1 ad (cup [(0, .inr (0, [u0_0, u0_1, u0_2, .int 0, .int 0]))] g) _ _ := hO
  exact cg_vret (nw := fun _ => 0) hC hr hlk hO.same (Nat.le_of_ble_eq_true rfl) (Nat.le_of_ble_eq_true rfl) rfl ddX0_forget_10

theorem ddX0_keep_0 : decode cX0_keep 0 = .ok (.aload_n 0, 1) := by decide +kernel
theorem ddX0_keep_1 : decode cX0_keep 1 = .ok (.getfield 21, 3) := by decide +kernel
theorem ddX0_keep_4 : decode cX0_keep 4 = .ok (.bipush 40, 2) := by decide +kernel
theorem ddX0_keep_6 : decode cX0_keep 6 = .ok (.if_icmp .lt 60, 3) := by decide +kernel
theorem ddX0_keep_9 : decode cX0_keep 9 = .ok (.aload_n 0, 1) := by decide +kernel
theorem ddX0_keep_10 : decode cX0_keep 10 = .ok (.bipush 39, 2) := by decide +kernel
theorem ddX0_keep_12 : decode cX0_keep 12 = .ok (.putfield 21, 3) := by decide +kernel
theorem ddX0_keep_15 : decode cX0_keep 15 = .ok (.aload_n 0, 1) := by decide +kernel
theorem ddX0_keep_16 : decode cX0_keep 16 = .ok (.getfield 9, 3) := by decide +kernel
theorem ddX0_keep_19 : decode cX0_keep 19 = .ok (.iconst 1, 1) := by decide +kernel
theorem ddX0_keep_20 : decode cX0_keep 20 = .ok (.aload_n 0, 1) := by decide +kernel
theorem ddX0_keep_21 : decode cX0_keep 21 = .ok (.getfield 9, 3) := by decide +kernel
theorem ddX0_keep_24 : decode cX0_keep 24 = .ok (.iconst 0, 1) := by decide +kernel
theorem ddX0_keep_25 : decode cX0_keep 25 = .ok (.aload_n 0, 1) := by decide +kernel
theorem ddX0_keep_26 : decode cX0_keep 26 = .ok (.getfield 21, 3) := by decide +kernel
theorem ddX0_keep_29 : decode cX0_keep 29 = .ok (.invokestatic 28, 3) := by decide +kernel
theorem ddX0_keep_32 : decode cX0_keep 32 = .ok (.aload_n 0, 1) := by decide +kernel
theorem ddX0_keep_33 : decode cX0_keep 33 = .ok (.getfield 15, 3) := by decide +kernel
theorem ddX0_keep_36 : decode cX0_keep 36 = .ok (.iconst 1, 1) := by decide +kernel
theorem ddX0_keep_37 : decode cX0_keep 37 = .ok (.aload_n 0, 1) := by decide +kernel
theorem ddX0_keep_38 : decode cX0_keep 38 = .ok (.getfield 15, 3) := by decide +kernel
theorem ddX0_keep_41 : decode cX0_keep 41 = .ok (.iconst 0, 1) := by decide +kernel
theorem ddX0_keep_42 : decode cX0_keep 42 = .ok (.aload_n 0, 1) := by decide +kernel
theorem ddX0_keep_43 : decode cX0_keep 43 = .ok (.getfield 21, 3) := by decide +kernel
theorem ddX0_keep_46 : decode cX0_keep 46 = .ok (.invokestatic 28, 3) := by decide +kernel
theorem ddX0_keep_49 : decode cX0_keep 49 = .ok (.aload_n 0, 1) := by decide +kernel
theorem ddX0_keep_50 : decode cX0_keep 50 = .ok (.getfield 18, 3) := by decide +kernel
theorem ddX0_keep_53 : decode cX0_keep 53 = .ok (.iconst 1, 1) := by decide +kernel
theorem ddX0_keep_54 : decode cX0_keep 54 = .ok (.aload_n 0, 1) := by decide +kernel
theorem ddX0_keep_55 : decode cX0_keep 55 = .ok (.getfield 18, 3) := by decide +kernel
theorem ddX0_keep_58 : decode cX0_keep 58 = .ok (.iconst 0, 1) := by decide +kernel
theorem ddX0_keep_59 : decode cX0_keep 59 = .ok (.aload_n 0, 1) := by decide +kernel
theorem ddX0_keep_60 : decode cX0_keep 60 = .ok (.getfield 21, 3) := by decide +kernel
theorem ddX0_keep_63 : decode cX0_keep 63 = .ok (.invokestatic 28, 3) := by decide +kernel
theorem ddX0_keep_66 : decode cX0_keep 66 = .ok (.aload_n 0, 1) := by decide +kernel
theorem ddX0_keep_67 : decode cX0_keep 67 = .ok (.getfield 9, 3) := by decide +kernel
theorem ddX0_keep_70 : decode cX0_keep 70 = .ok (.aload_n 0, 1) := by decide +kernel
theorem ddX0_keep_71 : decode cX0_keep 71 = .ok (.getfield 21, 3) := by decide +kernel
theorem ddX0_keep_74 : decode cX0_keep 74 = .ok (.iload_n 1, 1) := by decide +kernel
theorem ddX0_keep_75 : decode cX0_keep 75 = .ok (.iastore, 1) := by decide +kernel
theorem ddX0_keep_76 : decode cX0_keep 76 = .ok (.aload_n 0, 1) := by decide +kernel
theorem ddX0_keep_77 : decode cX0_keep 77 = .ok (.getfield 15, 3) := by decide +kernel
theorem ddX0_keep_80 : decode cX0_keep 80 = .ok (.aload_n 0, 1) := by decide +kernel
theorem ddX0_keep_81 : decode cX0_keep 81 = .ok (.getfield 21, 3) := by decide +kernel
theorem ddX0_keep_84 : decode cX0_keep 84 = .ok (.iload_n 2, 1) := by decide +kernel
theorem ddX0_keep_85 : decode cX0_keep 85 = .ok (.iastore, 1) := by decide +kernel
theorem ddX0_keep_86 : decode cX0_keep 86 = .ok (.aload_n 0, 1) := by decide +kernel
theorem ddX0_keep_87 : decode cX0_keep 87 = .ok (.getfield 18, 3) := by decide +kernel
theorem ddX0_keep_90 : decode cX0_keep 90 = .ok (.aload_n 0, 1) := by decide +kernel
theorem ddX0_keep_91 : decode cX0_keep 91 = .ok (.getfield 21, 3) := by decide +kernel
theorem ddX0_keep_94 : decode cX0_keep 94 = .ok (.iload_n 3, 1) := by decide +kernel
theorem ddX0_keep_95 : decode cX0_keep 95 = .ok (.iastore, 1) := by decide +kernel
theorem ddX0_keep_96 : decode cX0_keep 96 = .ok (.aload_n 0, 1) := by decide +kernel
theorem ddX0_keep_97 : decode cX0_keep 97 = .ok (.dup, 1) := by decide +kernel
theorem ddX0_keep_98 : decode cX0_keep 98 = .ok (.getfield 21, 3) := by decide +kernel
theorem ddX0_keep_101 : decode cX0_keep 101 = .ok (.iconst 1, 1) := by decide +kernel
theorem ddX0_keep_102 : decode cX0_keep 102 = .ok (.iadd, 1) := by decide +kernel
theorem ddX0_keep_103 : decode cX0_keep 103 = .ok (.putfield 21, 3) := by decide +kernel
theorem ddX0_keep_106 : decode cX0_keep 106 = .ok (.aload_n 0, 1) := by decide +kernel
theorem ddX0_keep_107 : decode cX0_keep 107 = .ok (.aload_n 0, 1) := by decide +kernel
theorem ddX0_keep_108 : decode cX0_keep 108 = .ok (.getfield 21, 3) := by decide +kernel
theorem ddX0_keep_111 : decode cX0_keep 111 = .ok (.putfield 25, 3) := by decide +kernel
theorem ddX0_keep_114 : decode cX0_keep 114 = .ok (.return_, 1) := by decide +kernel
def wq_k_X0_keep : List Cond := Cond.code yX0_keep cX0_keep 4 none :: (([Cond.fieldLink RX0 21 "CrowToll$Acts" "done" "I", Cond.fieldLink RX0 9 "CrowToll$Acts" "kind" "[I", Cond.methodLink RX0 28 arraycopyName, Cond.native arraycopyName, Cond.static arraycopyName, Cond.initialized "java/lang/System", Cond.fieldLink RX0 15 "CrowToll$Acts" "first" "[I", Cond.fieldLink RX0 18 "CrowToll$Acts" "second" "[I", Cond.fieldLink RX0 25 "CrowToll$Acts" "kept" "I"] : List Cond) ++ wsX00)
set_option maxHeartbeats 8000000 in
set_option maxRecDepth 100000 in
theorem k_X0_keep (l : Launch) (D : va_G) (cy : Nat → ClassId) (ad : Nat → Nat) (g : Nat → va_E) {x0_3 : Int32} {x0_4 : Int32} {c1 : Nat → Int32} {c2 : Nat → Int32} {c3 : Nat → Int32} {itsKind : Int32} {itsFirst : Int32} {itsSecond : Int32} (o0 : g 0 = .inr (0, [.ref (ad 1), .ref (ad 2), .ref (ad 3), .int x0_3, .int x0_4])) (a1 : g 1 = .inl (cy 0, 40, .inl c1)) (a2 : g 2 = .inl (cy 0, 40, .inl c2)) (a3 : g 3 = .inl (cy 0, 40, .inl c3)) (b0_3 : zi 0 40 x0_3) (b0_4 : zi 0 40 x0_4) (hk1_2 : zk c1 c2) (hq : itsKind = 0 ∨ itsKind = 1 ∨ zi 0 4 itsFirst) : cMv l yX0_keep wq_k_X0_keep { frames := 1, cells := 0, slots := 0, locals := 60 } 4 0 0 0 D cy ad g [.ref (ad 0), .int itsKind, .int itsFirst, .int itsSecond] (fun nw lu => ∃ (y0_3 : Int32) (y0_4 : Int32) (d1 : Nat → Int32) (d2 : Nat → Int32) (d3 : Nat → Int32), (zi 1 40 y0_3) ∧ (zi 1 40 y0_4) ∧ (zk d1 d2) ∧ (lu = [(0, .inr (0, [.ref (ad 1), .ref (ad 2), .ref (ad 3), .int y0_3, .int y0_4])), (1, .inl (cy 0, 40, .inl d1)), (2, .inl (cy 0, 40, .inl d2)), (3, .inl (cy 0, 40, .inl d3))])) := by
  refine cM_of (Qc := fun A => cQv (fun nw lu => ∃ (y0_3 : Int32) (y0_4 : Int32) (d1 : Nat → Int32) (d2 : Nat → Int32) (d3 : Nat → Int32), (zi 1 40 y0_3) ∧ (zi 1 40 y0_4) ∧ (zk d1 d2) ∧ (lu = [(0, .inr (0, [.ref (ad 1), .ref (ad 2), .ref (ad 3), .int y0_3, .int y0_4])), (1, .inl (cy 0, 40, .inl d1)), (2, .inl (cy 0, 40, .inl d2)), (3, .inl (cy 0, 40, .inl d3))])) D 4 0 ad g A) (cc := cX0_keep) (maxL := 4) (ret := none) (by decide) rfl (Nat.le_of_ble_eq_true rfl) ?_
  intro p e s m below meth c A hC hr hlk hnm hO ls hl
  have hC : CallFix p m c cX0_keep 4 s [.ref (ad 0), .int itsKind, .int itsFirst, .int itsSecond].toArray wq_k_X0_keep RX0 := hC
  obtain ⟨hx, hb, hml, hown, hts⟩ := id hC
  have hl : lv_has ls 4 [(0, .ref (ad 0)), (1, .int itsKind), (2, .int itsFirst), (3, .int itsSecond)] := hl
  have i_X0 : ∀ w ∈ wsX00, w ∈ wq_k_X0_keep := fun w h => List.mem_cons_of_mem _ (List.mem_append_right _ h)
  have hO := hO.notes [(0, .inr (0, [.ref (ad 1), .ref (ad 2), .ref (ad 3), .int x0_3, .int x0_4])), (1, .inl (cy 0, 40, .inl c1)), (2, .inl (cy 0, 40, .inl c2)), (3, .inl (cy 0, 40, .inl c3))] (List.forall_mem_cons.mpr ⟨o0, List.forall_mem_cons.mpr ⟨a1, List.forall_mem_cons.mpr ⟨a2, List.forall_mem_cons.mpr ⟨a3, (fun _ h => absurd h List.not_mem_nil)⟩⟩⟩⟩)
  refine lv_aload_n hx hb ddX0_keep_0 rfl (lv_at hl 0 rfl) ?_
  refine cg_get hC hO 0 (by decide) rfl rfl i_X0 3 (by decide) (List.mem_of_getElem? (i := 1) rfl) rfl ddX0_keep_1 ?_
  refine lv_bipush (v := 40) hx hb ddX0_keep_4 (by decide) ?_
  have J_66_111 : ∀ (v_66_102 : Int32) (c_66_104 : Nat → Int32) (c_66_106 : Nat → Int32) (c_66_108 : Nat → Int32), zi 0 39 v_66_102 → za (-2147483648) 2147483647 c_66_104 → za (-2147483648) 2147483647 c_66_106 → za (-2147483648) 2147483647 c_66_108 → zk c_66_104 c_66_106 → ∀ (H : Heap) (locs : List Loc), cO D cy A s.heap s 4 ad (cup [(0, .inr (0, [.ref (ad 1), .ref (ad 2), .ref (ad 3), .int v_66_102, .int x0_4])), (1, .inl (cy 0, 40, .inl c_66_104)), (2, .inl (cy 0, 40, .inl c_66_106)), (3, .inl (cy 0, 40, .inl c_66_108))] g) H locs → ∀ ls : Array Slot, lv_has ls 4 [(0, .ref (ad 0)), (1, .int itsKind), (2, .int itsFirst), (3, .int itsSecond)] → W p l e { frames := 1, cells := 0, slots := 0, locals := 60 } s m [.ref (ad 0), .int itsKind, .int itsFirst, .int itsSecond].toArray below meth c H locs 0 0 (MQ below (cQv (fun nw lu => ∃ (y0_3 : Int32) (y0_4 : Int32) (d1 : Nat → Int32) (d2 : Nat → Int32) (d3 : Nat → Int32), (zi 1 40 y0_3) ∧ (zi 1 40 y0_4) ∧ (zk d1 d2) ∧ (lu = [(0, .inr (0, [.ref (ad 1), .ref (ad 2), .ref (ad 3), .int y0_3, .int y0_4])), (1, .inl (cy 0, 40, .inl d1)), (2, .inl (cy 0, 40, .inl d2)), (3, .inl (cy 0, 40, .inl d3))])) D 4 0 ad g A) [.ref (ad 0), .int itsKind, .int itsFirst, .int itsSecond].toArray s 0 0 A) (F0 m 66 ls []) := by
    intro v_66_102 c_66_104 c_66_106 c_66_108 z_66_103 zc_66_105 zc_66_107 zc_66_109 pr_66_110 H locs hO ls hl
    refine lv_aload_n hx hb ddX0_keep_66 rfl (lv_at hl 0 rfl) ?_
    refine cg_get hC hO 0 (by decide) rfl rfl i_X0 0 (by decide) (List.mem_of_getElem? (i := 2) rfl) rfl ddX0_keep_67 ?_
    refine lv_aload_n hx hb ddX0_keep_70 rfl (lv_at hl 0 rfl) ?_
    refine cg_get hC hO 0 (by decide) rfl rfl i_X0 3 (by decide) (List.mem_of_getElem? (i := 1) rfl) rfl ddX0_keep_71 ?_
    refine lv_iload_n hx hb ddX0_keep_74 rfl (lv_at hl 1 rfl) ?_
    refine zg_iastX hC hO 1 (by decide) rfl zc_66_105 (zi_all itsKind) (zi_in z_66_103 (by decide)) ddX0_keep_75 (fun H locs c_75_112 zc_75_113 eq_75_114 hO => ?_)
    have hO : cO D cy A s.heap s 4 ad (cup [(0, .inr (0, [.ref (ad 1), .ref (ad 2), .ref (ad 3), .int v_66_102, .int x0_4])), (1, .inl (cy 0, 40, .inl c_75_112)), (2, .inl (cy 0, 40, .inl c_66_106)), (3, .inl (cy 0, 40, .inl c_66_108))] g) _ _ := hO
    refine lv_aload_n hx hb ddX0_keep_76 rfl (lv_at hl 0 rfl) ?_
    refine cg_get hC hO 0 (by decide) rfl rfl i_X0 1 (by decide) (List.mem_of_getElem? (i := 7) rfl) rfl ddX0_keep_77 ?_
    refine lv_aload_n hx hb ddX0_keep_80 rfl (lv_at hl 0 rfl) ?_
    refine cg_get hC hO 0 (by decide) rfl rfl i_X0 3 (by decide) (List.mem_of_getElem? (i := 1) rfl) rfl ddX0_keep_81 ?_
    refine lv_iload_n hx hb ddX0_keep_84 rfl (lv_at hl 2 rfl) ?_
    refine zg_iastX hC hO 2 (by decide) rfl zc_66_107 (zi_all itsFirst) (zi_in z_66_103 (by decide)) ddX0_keep_85 (fun H locs c_85_115 zc_85_116 eq_85_117 hO => ?_)
    have pr_85_118 : zk c_75_112 c_85_115 := by rw [eq_75_114, eq_85_117]; exact zk_upd pr_66_110 hq
    have hO : cO D cy A s.heap s 4 ad (cup [(0, .inr (0, [.ref (ad 1), .ref (ad 2), .ref (ad 3), .int v_66_102, .int x0_4])), (1, .inl (cy 0, 40, .inl c_75_112)), (2, .inl (cy 0, 40, .inl c_85_115)), (3, .inl (cy 0, 40, .inl c_66_108))] g) _ _ := hO
    refine lv_aload_n hx hb ddX0_keep_86 rfl (lv_at hl 0 rfl) ?_
    refine cg_get hC hO 0 (by decide) rfl rfl i_X0 2 (by decide) (List.mem_of_getElem? (i := 8) rfl) rfl ddX0_keep_87 ?_
    refine lv_aload_n hx hb ddX0_keep_90 rfl (lv_at hl 0 rfl) ?_
    refine cg_get hC hO 0 (by decide) rfl rfl i_X0 3 (by decide) (List.mem_of_getElem? (i := 1) rfl) rfl ddX0_keep_91 ?_
    refine lv_iload_n hx hb ddX0_keep_94 rfl (lv_at hl 3 rfl) ?_
    refine zg_iast hC hO 3 (by decide) rfl zc_66_109 (zi_all itsSecond) (zi_in z_66_103 (by decide)) ddX0_keep_95 (fun H locs c_95_119 zc_95_120 hO => ?_)
    have hO : cO D cy A s.heap s 4 ad (cup [(0, .inr (0, [.ref (ad 1), .ref (ad 2), .ref (ad 3), .int v_66_102, .int x0_4])), (1, .inl (cy 0, 40, .inl c_75_112)), (2, .inl (cy 0, 40, .inl c_85_115)), (3, .inl (cy 0, 40, .inl c_95_119))] g) _ _ := hO
    refine lv_aload_n hx hb ddX0_keep_96 rfl (lv_at hl 0 rfl) ?_
    refine lv_dup hx hb ddX0_keep_97 rfl ?_
    refine cg_get hC hO 0 (by decide) rfl rfl i_X0 3 (by decide) (List.mem_of_getElem? (i := 1) rfl) rfl ddX0_keep_98 ?_
    refine lv_iconst (v := 1) hx hb ddX0_keep_101 (by decide) ?_
    refine lv_iadd hx hb ddX0_keep_102 ?_
    refine zg_top2 (P := fun v => zi 1 40 v) (E := fun v => v.toInt = v_66_102.toInt + 1) (zi_addk z_66_103 (n := 1) (by decide) (by decide)) (fun v_102_121 z_102_122 q_102_123 => ?_)
    refine cg_put hC hO 0 (by decide) rfl rfl i_X0 tyX0_ok nmX0 3 (by decide) (List.mem_of_getElem? (i := 1) rfl) rfl rfl rfl (Nat.le_of_ble_eq_true rfl) ddX0_keep_103 (fun H locs hO => ?_)
    have hO : cO D cy A s.heap s 4 ad (cup [(0, .inr (0, [.ref (ad 1), .ref (ad 2), .ref (ad 3), .int v_102_121, .int x0_4])), (1, .inl (cy 0, 40, .inl c_75_112)), (2, .inl (cy 0, 40, .inl c_85_115)), (3, .inl (cy 0, 40, .inl c_95_119))] g) _ _ := hO
    refine lv_aload_n hx hb ddX0_keep_106 rfl (lv_at hl 0 rfl) ?_
    refine lv_aload_n hx hb ddX0_keep_107 rfl (lv_at hl 0 rfl) ?_
    refine cg_get hC hO 0 (by decide) rfl rfl i_X0 3 (by decide) (List.mem_of_getElem? (i := 1) rfl) rfl ddX0_keep_108 ?_
    refine cg_put hC hO 0 (by decide) rfl rfl i_X0 tyX0_ok nmX0 4 (by decide) (List.mem_of_getElem? (i := 9) rfl) rfl rfl rfl (Nat.le_of_ble_eq_true rfl) ddX0_keep_111 (fun H locs hO => ?_)
    have hO : cO D cy A s.heap s 4 ad (cup [(0, .inr (0, [.ref (ad 1), .ref (ad 2), .ref (ad 3), .int v_102_121, .int v_102_121])), (1, .inl (cy 0, 40, .inl c_75_112)), (2, .inl (cy 0, 40, .inl c_85_115)), (3, .inl (cy 0, 40, .inl c_95_119))] g) _ _ := hO
    exact cg_vret (nw := fun _ => 0) hC hr hlk hO.same (Nat.le_of_ble_eq_true rfl) (Nat.le_of_ble_eq_true rfl) (⟨v_102_121, v_102_121, c_75_112, c_85_115, c_95_119, z_102_122, z_102_122, pr_85_118, rfl⟩) ddX0_keep_114
  refine lv_icmp_lt (tgt := 66) hx hb ddX0_keep_6 (by decide) (fun h_6_88 => ?_) (fun h_6_88 => ?_)
  · have q_6_124 := zr_lt h_6_88
    have z_6_125 : zi 0 39 x0_3 := zu_lt q_6_124 b0_3 (zi_k (a := 40) (b := 40) (x := 40) rfl) (by decide)
    exact J_66_111 x0_3 c1 c2 c3 z_6_125 (za_all _) (za_all _) (za_all _) hk1_2 _ _ hO ls (lv_sub hl [0, 1, 2, 3] rfl)
  · have q_6_126 := zr_nlt h_6_88
    have z_6_127 : zi 40 40 x0_3 := zd_le q_6_126 (zi_k (a := 40) (b := 40) (x := 40) rfl) b0_3 (by decide)
    refine lv_aload_n hx hb ddX0_keep_9 rfl (lv_at hl 0 rfl) ?_
    refine lv_bipush (v := 39) hx hb ddX0_keep_10 (by decide) ?_
    refine cg_put hC hO 0 (by decide) rfl rfl i_X0 tyX0_ok nmX0 3 (by decide) (List.mem_of_getElem? (i := 1) rfl) rfl rfl rfl (Nat.le_of_ble_eq_true rfl) ddX0_keep_12 (fun H locs hO => ?_)
    have hO : cO D cy A s.heap s 4 ad (cup [(0, .inr (0, [.ref (ad 1), .ref (ad 2), .ref (ad 3), .int 39, .int x0_4])), (1, .inl (cy 0, 40, .inl c1)), (2, .inl (cy 0, 40, .inl c2)), (3, .inl (cy 0, 40, .inl c3))] g) _ _ := hO
    refine lv_aload_n hx hb ddX0_keep_15 rfl (lv_at hl 0 rfl) ?_
    refine cg_get hC hO 0 (by decide) rfl rfl i_X0 0 (by decide) (List.mem_of_getElem? (i := 2) rfl) rfl ddX0_keep_16 ?_
    refine lv_iconst (v := 1) hx hb ddX0_keep_19 (by decide) ?_
    refine lv_aload_n hx hb ddX0_keep_20 rfl (lv_at hl 0 rfl) ?_
    refine cg_get hC hO 0 (by decide) rfl rfl i_X0 0 (by decide) (List.mem_of_getElem? (i := 2) rfl) rfl ddX0_keep_21 ?_
    refine lv_iconst (v := 0) hx hb ddX0_keep_24 (by decide) ?_
    refine lv_aload_n hx hb ddX0_keep_25 rfl (lv_at hl 0 rfl) ?_
    refine cg_get hC hO 0 (by decide) rfl rfl i_X0 3 (by decide) (List.mem_of_getElem? (i := 1) rfl) rfl ddX0_keep_26 ?_
    refine zg_copyX (a := (-2147483648)) (b := 2147483647) hC hl.1 hO (List.mem_of_getElem? (i := 3) rfl) (List.mem_of_getElem? (i := 4) rfl) (List.mem_of_getElem? (i := 5) rfl) (List.mem_of_getElem? (i := 6) rfl) 1 1 (by decide) (by decide) rfl rfl (za_all _) (za_all _) (zi_k (a := 1) (b := 1) (x := 1) rfl) (zi_k (a := 0) (b := 0) (x := 0) rfl) (zi_k (a := 39) (b := 39) (x := 39) rfl) (by decide) (Nat.le_of_ble_eq_true rfl) (Nat.le_of_ble_eq_true rfl) ddX0_keep_29 (fun H locs c_29_128 zc_29_129 eq_29_130 hO => ?_)
    have hO : cO D cy A s.heap s 4 ad (cup [(0, .inr (0, [.ref (ad 1), .ref (ad 2), .ref (ad 3), .int 39, .int x0_4])), (1, .inl (cy 0, 40, .inl c_29_128)), (2, .inl (cy 0, 40, .inl c2)), (3, .inl (cy 0, 40, .inl c3))] g) _ _ := hO
    refine lv_aload_n hx hb ddX0_keep_32 rfl (lv_at hl 0 rfl) ?_
    refine cg_get hC hO 0 (by decide) rfl rfl i_X0 1 (by decide) (List.mem_of_getElem? (i := 7) rfl) rfl ddX0_keep_33 ?_
    refine lv_iconst (v := 1) hx hb ddX0_keep_36 (by decide) ?_
    refine lv_aload_n hx hb ddX0_keep_37 rfl (lv_at hl 0 rfl) ?_
    refine cg_get hC hO 0 (by decide) rfl rfl i_X0 1 (by decide) (List.mem_of_getElem? (i := 7) rfl) rfl ddX0_keep_38 ?_
    refine lv_iconst (v := 0) hx hb ddX0_keep_41 (by decide) ?_
    refine lv_aload_n hx hb ddX0_keep_42 rfl (lv_at hl 0 rfl) ?_
    refine cg_get hC hO 0 (by decide) rfl rfl i_X0 3 (by decide) (List.mem_of_getElem? (i := 1) rfl) rfl ddX0_keep_43 ?_
    refine zg_copyX (a := (-2147483648)) (b := 2147483647) hC hl.1 hO (List.mem_of_getElem? (i := 3) rfl) (List.mem_of_getElem? (i := 4) rfl) (List.mem_of_getElem? (i := 5) rfl) (List.mem_of_getElem? (i := 6) rfl) 2 2 (by decide) (by decide) rfl rfl (za_all _) (za_all _) (zi_k (a := 1) (b := 1) (x := 1) rfl) (zi_k (a := 0) (b := 0) (x := 0) rfl) (zi_k (a := 39) (b := 39) (x := 39) rfl) (by decide) (Nat.le_of_ble_eq_true rfl) (Nat.le_of_ble_eq_true rfl) ddX0_keep_46 (fun H locs c_46_131 zc_46_132 eq_46_133 hO => ?_)
    have pr_46_134 : zk c_29_128 c_46_131 := by rw [eq_29_130, eq_46_133]; exact zk_cpy hk1_2
    have hO : cO D cy A s.heap s 4 ad (cup [(0, .inr (0, [.ref (ad 1), .ref (ad 2), .ref (ad 3), .int 39, .int x0_4])), (1, .inl (cy 0, 40, .inl c_29_128)), (2, .inl (cy 0, 40, .inl c_46_131)), (3, .inl (cy 0, 40, .inl c3))] g) _ _ := hO
    refine lv_aload_n hx hb ddX0_keep_49 rfl (lv_at hl 0 rfl) ?_
    refine cg_get hC hO 0 (by decide) rfl rfl i_X0 2 (by decide) (List.mem_of_getElem? (i := 8) rfl) rfl ddX0_keep_50 ?_
    refine lv_iconst (v := 1) hx hb ddX0_keep_53 (by decide) ?_
    refine lv_aload_n hx hb ddX0_keep_54 rfl (lv_at hl 0 rfl) ?_
    refine cg_get hC hO 0 (by decide) rfl rfl i_X0 2 (by decide) (List.mem_of_getElem? (i := 8) rfl) rfl ddX0_keep_55 ?_
    refine lv_iconst (v := 0) hx hb ddX0_keep_58 (by decide) ?_
    refine lv_aload_n hx hb ddX0_keep_59 rfl (lv_at hl 0 rfl) ?_
    refine cg_get hC hO 0 (by decide) rfl rfl i_X0 3 (by decide) (List.mem_of_getElem? (i := 1) rfl) rfl ddX0_keep_60 ?_
    refine zg_copy (a := (-2147483648)) (b := 2147483647) hC hl.1 hO (List.mem_of_getElem? (i := 3) rfl) (List.mem_of_getElem? (i := 4) rfl) (List.mem_of_getElem? (i := 5) rfl) (List.mem_of_getElem? (i := 6) rfl) 3 3 (by decide) (by decide) rfl rfl (za_all _) (za_all _) (zi_k (a := 1) (b := 1) (x := 1) rfl) (zi_k (a := 0) (b := 0) (x := 0) rfl) (zi_k (a := 39) (b := 39) (x := 39) rfl) (by decide) (Nat.le_of_ble_eq_true rfl) (Nat.le_of_ble_eq_true rfl) ddX0_keep_63 (fun H locs c_63_135 zc_63_136 hO => ?_)
    have hO : cO D cy A s.heap s 4 ad (cup [(0, .inr (0, [.ref (ad 1), .ref (ad 2), .ref (ad 3), .int 39, .int x0_4])), (1, .inl (cy 0, 40, .inl c_29_128)), (2, .inl (cy 0, 40, .inl c_46_131)), (3, .inl (cy 0, 40, .inl c_63_135))] g) _ _ := hO
    exact J_66_111 39 c_29_128 c_46_131 c_63_135 (zi_k (a := 0) (b := 39) (x := 39) rfl) zc_29_129 zc_46_132 zc_63_136 pr_46_134 _ _ hO ls (lv_sub hl [0, 1, 2, 3] rfl)

theorem ddX0_carryOut_0 : decode cX0_carryOut 0 = .ok (.aload_n 0, 1) := by decide +kernel
theorem ddX0_carryOut_1 : decode cX0_carryOut 1 = .ok (.getfield 9, 3) := by decide +kernel
theorem ddX0_carryOut_4 : decode cX0_carryOut 4 = .ok (.iload_n 1, 1) := by decide +kernel
theorem ddX0_carryOut_5 : decode cX0_carryOut 5 = .ok (.iaload, 1) := by decide +kernel
theorem ddX0_carryOut_6 : decode cX0_carryOut 6 = .ok (.ifCond .ne 22, 3) := by decide +kernel
theorem ddX0_carryOut_9 : decode cX0_carryOut 9 = .ok (.aload_n 2, 1) := by decide +kernel
theorem ddX0_carryOut_10 : decode cX0_carryOut 10 = .ok (.aload_n 0, 1) := by decide +kernel
theorem ddX0_carryOut_11 : decode cX0_carryOut 11 = .ok (.getfield 15, 3) := by decide +kernel
theorem ddX0_carryOut_14 : decode cX0_carryOut 14 = .ok (.iload_n 1, 1) := by decide +kernel
theorem ddX0_carryOut_15 : decode cX0_carryOut 15 = .ok (.iaload, 1) := by decide +kernel
theorem ddX0_carryOut_16 : decode cX0_carryOut 16 = .ok (.aload_n 0, 1) := by decide +kernel
theorem ddX0_carryOut_17 : decode cX0_carryOut 17 = .ok (.getfield 18, 3) := by decide +kernel
theorem ddX0_carryOut_20 : decode cX0_carryOut 20 = .ok (.iload_n 1, 1) := by decide +kernel
theorem ddX0_carryOut_21 : decode cX0_carryOut 21 = .ok (.iaload, 1) := by decide +kernel
theorem ddX0_carryOut_22 : decode cX0_carryOut 22 = .ok (.invokevirtual 41, 3) := by decide +kernel
theorem ddX0_carryOut_25 : decode cX0_carryOut 25 = .ok (.goto 53, 3) := by decide +kernel
theorem ddX0_carryOut_28 : decode cX0_carryOut 28 = .ok (.aload_n 0, 1) := by decide +kernel
theorem ddX0_carryOut_29 : decode cX0_carryOut 29 = .ok (.getfield 9, 3) := by decide +kernel
theorem ddX0_carryOut_32 : decode cX0_carryOut 32 = .ok (.iload_n 1, 1) := by decide +kernel
theorem ddX0_carryOut_33 : decode cX0_carryOut 33 = .ok (.iaload, 1) := by decide +kernel
theorem ddX0_carryOut_34 : decode cX0_carryOut 34 = .ok (.iconst 1, 1) := by decide +kernel
theorem ddX0_carryOut_35 : decode cX0_carryOut 35 = .ok (.if_icmp .ne 23, 3) := by decide +kernel
theorem ddX0_carryOut_38 : decode cX0_carryOut 38 = .ok (.aload_n 2, 1) := by decide +kernel
theorem ddX0_carryOut_39 : decode cX0_carryOut 39 = .ok (.dup, 1) := by decide +kernel
theorem ddX0_carryOut_40 : decode cX0_carryOut 40 = .ok (.getfield 47, 3) := by decide +kernel
theorem ddX0_carryOut_43 : decode cX0_carryOut 43 = .ok (.iconst 1, 1) := by decide +kernel
theorem ddX0_carryOut_44 : decode cX0_carryOut 44 = .ok (.aload_n 0, 1) := by decide +kernel
theorem ddX0_carryOut_45 : decode cX0_carryOut 45 = .ok (.getfield 15, 3) := by decide +kernel
theorem ddX0_carryOut_48 : decode cX0_carryOut 48 = .ok (.iload_n 1, 1) := by decide +kernel
theorem ddX0_carryOut_49 : decode cX0_carryOut 49 = .ok (.iaload, 1) := by decide +kernel
theorem ddX0_carryOut_50 : decode cX0_carryOut 50 = .ok (.ishl, 1) := by decide +kernel
theorem ddX0_carryOut_51 : decode cX0_carryOut 51 = .ok (.ixor, 1) := by decide +kernel
theorem ddX0_carryOut_52 : decode cX0_carryOut 52 = .ok (.putfield 47, 3) := by decide +kernel
theorem ddX0_carryOut_55 : decode cX0_carryOut 55 = .ok (.goto 23, 3) := by decide +kernel
theorem ddX0_carryOut_58 : decode cX0_carryOut 58 = .ok (.aload_n 2, 1) := by decide +kernel
theorem ddX0_carryOut_59 : decode cX0_carryOut 59 = .ok (.getfield 50, 3) := by decide +kernel
theorem ddX0_carryOut_62 : decode cX0_carryOut 62 = .ok (.aload_n 0, 1) := by decide +kernel
theorem ddX0_carryOut_63 : decode cX0_carryOut 63 = .ok (.getfield 15, 3) := by decide +kernel
theorem ddX0_carryOut_66 : decode cX0_carryOut 66 = .ok (.iload_n 1, 1) := by decide +kernel
theorem ddX0_carryOut_67 : decode cX0_carryOut 67 = .ok (.iaload, 1) := by decide +kernel
theorem ddX0_carryOut_68 : decode cX0_carryOut 68 = .ok (.dup2, 1) := by decide +kernel
theorem ddX0_carryOut_69 : decode cX0_carryOut 69 = .ok (.iaload, 1) := by decide +kernel
theorem ddX0_carryOut_70 : decode cX0_carryOut 70 = .ok (.aload_n 0, 1) := by decide +kernel
theorem ddX0_carryOut_71 : decode cX0_carryOut 71 = .ok (.getfield 18, 3) := by decide +kernel
theorem ddX0_carryOut_74 : decode cX0_carryOut 74 = .ok (.iload_n 1, 1) := by decide +kernel
theorem ddX0_carryOut_75 : decode cX0_carryOut 75 = .ok (.iaload, 1) := by decide +kernel
theorem ddX0_carryOut_76 : decode cX0_carryOut 76 = .ok (.iadd, 1) := by decide +kernel
theorem ddX0_carryOut_77 : decode cX0_carryOut 77 = .ok (.iastore, 1) := by decide +kernel
theorem ddX0_carryOut_78 : decode cX0_carryOut 78 = .ok (.return_, 1) := by decide +kernel
def wq_k_X0_carryOut : List Cond := Cond.code yX0_carryOut cX0_carryOut 3 none :: (([Cond.fieldLink RX0 9 "CrowToll$Acts" "kind" "[I", Cond.fieldLink RX0 50 "CrowToll$Stand" "counts" "[I", Cond.fieldLink RX0 15 "CrowToll$Acts" "first" "[I", Cond.fieldLink RX0 18 "CrowToll$Acts" "second" "[I", Cond.fieldLink RX0 47 "CrowToll$Stand" "comes" "I", Cond.methodLink RX0 41 yX9_add, Cond.instanceMethod yX9_add, Cond.selects RX9 yX9_add yX9_add, Cond.initialized RX9, Cond.code yX9_add cX9_add 3 none, Cond.fieldLink RX9 21 "CrowToll$Stand" "carts" "I", Cond.fieldLink RX9 9 "CrowToll$Stand" "minute" "[I", Cond.fieldLink RX9 15 "CrowToll$Stand" "sacks" "[I"] : List Cond) ++ wsX00 ++ wsX90)
set_option maxRecDepth 20000 in
theorem gr_k_X0_carryOut_k_X9_add : GoodIn wq_k_X0_carryOut wq_k_X9_add := List.forall_mem_cons.mpr ⟨⟨(List.mem_of_getElem? (i := 10) rfl), good_of_word rfl⟩, List.forall_mem_append.mpr ⟨List.forall_mem_cons.mpr ⟨⟨(List.mem_of_getElem? (i := 11) rfl), good_of_word rfl⟩, List.forall_mem_cons.mpr ⟨⟨(List.mem_of_getElem? (i := 12) rfl), good_of_word rfl⟩, List.forall_mem_cons.mpr ⟨⟨(List.mem_of_getElem? (i := 13) rfl), good_of_word rfl⟩, (fun _ h => absurd h List.not_mem_nil)⟩⟩⟩, fun w h => ⟨(fun w h => List.mem_cons_of_mem _ (List.mem_append_right _ h)) w h, good_of_word (List.all_eq_true.mp gw_X9 w h)⟩⟩⟩
set_option maxRecDepth 20000 in
theorem gq_k_X0_carryOut_k_X9_add_41 : GoodIn wq_k_X0_carryOut (wsV RX0 41 RX9 yX9_add wq_k_X9_add) := goodIn_app (List.forall_mem_cons.mpr ⟨⟨(List.mem_of_getElem? (i := 6) rfl), good_of_word rfl⟩, List.forall_mem_cons.mpr ⟨⟨(List.mem_of_getElem? (i := 7) rfl), good_of_word rfl⟩, List.forall_mem_cons.mpr ⟨⟨(List.mem_of_getElem? (i := 8) rfl), good_of_word rfl⟩, List.forall_mem_cons.mpr ⟨⟨(List.mem_of_getElem? (i := 9) rfl), good_of_word rfl⟩, (fun _ h => absurd h List.not_mem_nil)⟩⟩⟩⟩) gr_k_X0_carryOut_k_X9_add
set_option maxHeartbeats 8000000 in
set_option maxRecDepth 100000 in
theorem k_X0_carryOut (l : Launch) (D : va_G) (cy : Nat → ClassId) (ad : Nat → Nat) (g : Nat → va_E) {u0_3 : Value} {u0_4 : Value} {x1_2 : Int32} {x1_4 : Int32} {c2 : Nat → Int32} {c3 : Nat → Int32} {c4 : Nat → Int32} {c5 : Nat → Int32} {c6 : Nat → Int32} {c7 : Nat → Int32} {n : Int32} (o0 : g 0 = .inr (0, [.ref (ad 2), .ref (ad 3), .ref (ad 5), u0_3, u0_4])) (o1 : g 1 = .inr (9, [.ref (ad 6), .ref (ad 7), .int x1_2, .ref (ad 4), .int x1_4])) (a2 : g 2 = .inl (cy 0, 40, .inl c2)) (a3 : g 3 = .inl (cy 0, 40, .inl c3)) (a4 : g 4 = .inl (cy 0, 5, .inl c4)) (a5 : g 5 = .inl (cy 0, 40, .inl c5)) (a6 : g 6 = .inl (cy 0, 24, .inl c6)) (a7 : g 7 = .inl (cy 0, 24, .inl c7)) (b1_4 : zi 0 24 x1_4) (p_n : zi 0 39 n) (hk2_3 : zk c2 c3) : cMv l yX0_carryOut wq_k_X0_carryOut { frames := 1, cells := 0, slots := 0, locals := 22 } 8 0 0 0 D cy ad g [.ref (ad 0), .int n, .ref (ad 1)] (fun nw lu => ∃ (y1_2 : Int32) (y1_4 : Int32) (d4 : Nat → Int32) (d6 : Nat → Int32) (d7 : Nat → Int32), (zi 0 24 y1_4) ∧ (lu = [(1, .inr (9, [.ref (ad 6), .ref (ad 7), .int y1_2, .ref (ad 4), .int y1_4])), (4, .inl (cy 0, 5, .inl d4)), (6, .inl (cy 0, 24, .inl d6)), (7, .inl (cy 0, 24, .inl d7))])) := by
  refine cM_of (Qc := fun A => cQv (fun nw lu => ∃ (y1_2 : Int32) (y1_4 : Int32) (d4 : Nat → Int32) (d6 : Nat → Int32) (d7 : Nat → Int32), (zi 0 24 y1_4) ∧ (lu = [(1, .inr (9, [.ref (ad 6), .ref (ad 7), .int y1_2, .ref (ad 4), .int y1_4])), (4, .inl (cy 0, 5, .inl d4)), (6, .inl (cy 0, 24, .inl d6)), (7, .inl (cy 0, 24, .inl d7))])) D 8 0 ad g A) (cc := cX0_carryOut) (maxL := 3) (ret := none) (by decide) rfl (Nat.le_of_ble_eq_true rfl) ?_
  intro p e s m below meth c A hC hr hlk hnm hO ls hl
  have hC : CallFix p m c cX0_carryOut 3 s [.ref (ad 0), .int n, .ref (ad 1)].toArray wq_k_X0_carryOut RX0 := hC
  obtain ⟨hx, hb, hml, hown, hts⟩ := id hC
  have hl : lv_has ls 3 [(0, .ref (ad 0)), (1, .int n), (2, .ref (ad 1))] := hl
  have i_X0 : ∀ w ∈ wsX00, w ∈ wq_k_X0_carryOut := fun w h => List.mem_cons_of_mem _ (List.mem_append_left _ (List.mem_append_right _ h))
  have i_X9 : ∀ w ∈ wsX90, w ∈ wq_k_X0_carryOut := fun w h => List.mem_cons_of_mem _ (List.mem_append_right _ h)
  have hO := hO.notes [(1, .inr (9, [.ref (ad 6), .ref (ad 7), .int x1_2, .ref (ad 4), .int x1_4])), (4, .inl (cy 0, 5, .inl c4)), (6, .inl (cy 0, 24, .inl c6)), (7, .inl (cy 0, 24, .inl c7))] (List.forall_mem_cons.mpr ⟨o1, List.forall_mem_cons.mpr ⟨a4, List.forall_mem_cons.mpr ⟨a6, List.forall_mem_cons.mpr ⟨a7, (fun _ h => absurd h List.not_mem_nil)⟩⟩⟩⟩)
  refine lv_aload_n hx hb ddX0_carryOut_0 rfl (lv_at hl 0 rfl) ?_
  refine cg_get hC hO 0 (by decide) o0 rfl i_X0 0 (by decide) (List.mem_of_getElem? (i := 1) rfl) rfl ddX0_carryOut_1 ?_
  refine lv_iload_n hx hb ddX0_carryOut_4 rfl (lv_at hl 1 rfl) ?_
  refine zg_ialdE hC hO 2 (by decide) a2 (za_all _) (zi_in p_n (by decide)) ddX0_carryOut_5 (fun v_5_79 z_5_80 el_5_81 => ?_)
  refine lv_if_ne (tgt := 28) hx hb ddX0_carryOut_6 (by decide) (fun h_6_82 => ?_) (fun h_6_82 => ?_)
  · refine lv_aload_n hx hb ddX0_carryOut_28 rfl (lv_at hl 0 rfl) ?_
    refine cg_get hC hO 0 (by decide) o0 rfl i_X0 0 (by decide) (List.mem_of_getElem? (i := 1) rfl) rfl ddX0_carryOut_29 ?_
    refine lv_iload_n hx hb ddX0_carryOut_32 rfl (lv_at hl 1 rfl) ?_
    refine cg_iald hC hO 2 (by decide) a2 (zi_in p_n (by decide)) ddX0_carryOut_33 ?_
    refine cg_ev (v := v_5_79) el_5_81 ?_
    refine lv_iconst (v := 1) hx hb ddX0_carryOut_34 (by decide) ?_
    refine lv_icmp_ne (tgt := 58) hx hb ddX0_carryOut_35 (by decide) (fun h_35_85 => ?_) (fun h_35_85 => ?_)
    · refine lv_aload_n hx hb ddX0_carryOut_58 rfl (lv_at hl 2 rfl) ?_
      refine cg_get hC hO 1 (by decide) rfl rfl i_X9 3 (by decide) (List.mem_of_getElem? (i := 2) rfl) rfl ddX0_carryOut_59 ?_
      refine lv_aload_n hx hb ddX0_carryOut_62 rfl (lv_at hl 0 rfl) ?_
      refine cg_get hC hO 0 (by decide) o0 rfl i_X0 1 (by decide) (List.mem_of_getElem? (i := 3) rfl) rfl ddX0_carryOut_63 ?_
      refine lv_iload_n hx hb ddX0_carryOut_66 rfl (lv_at hl 1 rfl) ?_
      refine zg_ialdE hC hO 3 (by decide) a3 (za_all _) (zi_in p_n (by decide)) ddX0_carryOut_67 (fun v_67_86 z_67_87 el_67_88 => ?_)
      have z_68_89 : zi 0 4 v_67_86 := zk_get hk2_3 el_5_81 el_67_88 h_6_82 h_35_85
      refine lv_dup2_11 hx hb ddX0_carryOut_68 rfl rfl ?_
      refine zg_iald hC hO 4 (by decide) rfl (za_all _) (zi_in z_68_89 (by decide)) ddX0_carryOut_69 (fun v_69_90 z_69_91 => ?_)
      refine lv_aload_n hx hb ddX0_carryOut_70 rfl (lv_at hl 0 rfl) ?_
      refine cg_get hC hO 0 (by decide) o0 rfl i_X0 2 (by decide) (List.mem_of_getElem? (i := 4) rfl) rfl ddX0_carryOut_71 ?_
      refine lv_iload_n hx hb ddX0_carryOut_74 rfl (lv_at hl 1 rfl) ?_
      refine zg_iald hC hO 5 (by decide) a5 (za_all _) (zi_in p_n (by decide)) ddX0_carryOut_75 (fun v_75_92 z_75_93 => ?_)
      refine lv_iadd hx hb ddX0_carryOut_76 ?_
      refine lv_topi (fun v_76_94 _ => ?_)
      refine zg_iast hC hO 4 (by decide) rfl (za_all _) (zi_all v_76_94) (zi_in z_68_89 (by decide)) ddX0_carryOut_77 (fun H locs c_77_95 zc_77_96 hO => ?_)
      have hO : cO D cy A s.heap s 8 ad (cup [(1, .inr (9, [.ref (ad 6), .ref (ad 7), .int x1_2, .ref (ad 4), .int x1_4])), (4, .inl (cy 0, 5, .inl c_77_95)), (6, .inl (cy 0, 24, .inl c6)), (7, .inl (cy 0, 24, .inl c7))] g) _ _ := hO
      exact cg_vret (nw := fun _ => 0) hC hr hlk hO.same (Nat.le_of_ble_eq_true rfl) (Nat.le_of_ble_eq_true rfl) (⟨x1_2, x1_4, c_77_95, c6, c7, b1_4, rfl⟩) ddX0_carryOut_78
    · have q_35_97 := zr_eq h_35_85
      have z_35_98 : zi 1 1 v_5_79 := ze_eq q_35_97 z_5_80 (zi_k (a := 1) (b := 1) (x := 1) rfl)
      refine lv_aload_n hx hb ddX0_carryOut_38 rfl (lv_at hl 2 rfl) ?_
      refine lv_dup hx hb ddX0_carryOut_39 rfl ?_
      refine cg_get hC hO 1 (by decide) rfl rfl i_X9 2 (by decide) (List.mem_of_getElem? (i := 5) rfl) rfl ddX0_carryOut_40 ?_
      refine lv_iconst (v := 1) hx hb ddX0_carryOut_43 (by decide) ?_
      refine lv_aload_n hx hb ddX0_carryOut_44 rfl (lv_at hl 0 rfl) ?_
      refine cg_get hC hO 0 (by decide) o0 rfl i_X0 1 (by decide) (List.mem_of_getElem? (i := 3) rfl) rfl ddX0_carryOut_45 ?_
      refine lv_iload_n hx hb ddX0_carryOut_48 rfl (lv_at hl 1 rfl) ?_
      refine zg_ialdE hC hO 3 (by decide) a3 (za_all _) (zi_in p_n (by decide)) ddX0_carryOut_49 (fun v_49_99 z_49_100 el_49_101 => ?_)
      refine lv_ishl hx hb ddX0_carryOut_50 ?_
      refine lv_topi (fun v_50_102 _ => ?_)
      refine lv_ixor hx hb ddX0_carryOut_51 ?_
      refine lv_topi (fun v_51_103 _ => ?_)
      refine cg_put hC hO 1 (by decide) rfl rfl i_X9 tyX9_ok nmX9 2 (by decide) (List.mem_of_getElem? (i := 5) rfl) rfl rfl rfl (Nat.le_of_ble_eq_true rfl) ddX0_carryOut_52 (fun H locs hO => ?_)
      have hO : cO D cy A s.heap s 8 ad (cup [(1, .inr (9, [.ref (ad 6), .ref (ad 7), .int v_51_103, .ref (ad 4), .int x1_4])), (4, .inl (cy 0, 5, .inl c4)), (6, .inl (cy 0, 24, .inl c6)), (7, .inl (cy 0, 24, .inl c7))] g) _ _ := hO
      refine lv_goto (tgt := 78) hx hb ddX0_carryOut_55 (by decide) ?_
      exact cg_vret (nw := fun _ => 0) hC hr hlk hO.same (Nat.le_of_ble_eq_true rfl) (Nat.le_of_ble_eq_true rfl) (⟨v_51_103, x1_4, c4, c6, c7, b1_4, rfl⟩) ddX0_carryOut_78
  · have q_6_104 := zr_eq h_6_82
    have z_6_105 : zi 0 0 v_5_79 := ze_eq q_6_104 z_5_80 (zi_k (a := 0) (b := 0) (x := 0) rfl)
    refine lv_aload_n hx hb ddX0_carryOut_9 rfl (lv_at hl 2 rfl) ?_
    refine lv_aload_n hx hb ddX0_carryOut_10 rfl (lv_at hl 0 rfl) ?_
    refine cg_get hC hO 0 (by decide) o0 rfl i_X0 1 (by decide) (List.mem_of_getElem? (i := 3) rfl) rfl ddX0_carryOut_11 ?_
    refine lv_iload_n hx hb ddX0_carryOut_14 rfl (lv_at hl 1 rfl) ?_
    refine zg_ialdE hC hO 3 (by decide) a3 (za_all _) (zi_in p_n (by decide)) ddX0_carryOut_15 (fun v_15_106 z_15_107 el_15_108 => ?_)
    refine lv_aload_n hx hb ddX0_carryOut_16 rfl (lv_at hl 0 rfl) ?_
    refine cg_get hC hO 0 (by decide) o0 rfl i_X0 2 (by decide) (List.mem_of_getElem? (i := 4) rfl) rfl ddX0_carryOut_17 ?_
    refine lv_iload_n hx hb ddX0_carryOut_20 rfl (lv_at hl 1 rfl) ?_
    refine zg_iald hC hO 5 (by decide) a5 (za_all _) (zi_in p_n (by decide)) ddX0_carryOut_21 (fun v_21_109 z_21_110 => ?_)
    refine cg_Vv (As := [.int v_15_106, .int v_21_109]) (rest := []) (mc := 0) (ms := 0) (rm := { frames := 0, cells := 0, slots := 0, locals := 0 }) hC hl.1 hO [1, 6, 7] (by decide +kernel) (k_X9_add l D cy _ _ (c1 := c6) (c2 := c7) (u0_2 := .int x1_2) (u0_3 := .ref (ad 4)) (x0_4 := x1_4) (itsMinute := v_15_106) (itsSacks := v_21_109) rfl rfl rfl b1_4) gq_k_X0_carryOut_k_X9_add_41 rfl rfl rfl 2 (by decide +kernel) ⟨Nat.le_of_ble_eq_true rfl, Nat.le_of_ble_eq_true rfl⟩ rfl (by decide) rfl rfl rfl (Nat.le_of_ble_eq_true rfl) ddX0_carryOut_22 ⟨Nat.le_of_ble_eq_true rfl, Nat.le_of_ble_eq_true rfl⟩ (fun nw_22_111 l_22_112 H locs hw hO => ?_)
    obtain ⟨y0_22_114, d1_22_115, d2_22_116, z_22_117, rfl⟩ := hw
    have hO := hO.mrg (lk := [(1, .inr (9, [.ref (ad 6), .ref (ad 7), .int x1_2, .ref (ad 4), .int y0_22_114])), (6, .inl (cy 0, 24, .inl d1_22_115)), (7, .inl (cy 0, 24, .inl d2_22_116))]) (lm := [(1, .inr (9, [.ref (ad 6), .ref (ad 7), .int x1_2, .ref (ad 4), .int y0_22_114])), (4, .inl (cy 0, 5, .inl c4)), (6, .inl (cy 0, 24, .inl d1_22_115)), (7, .inl (cy 0, 24, .inl d2_22_116))]) rfl rfl rfl
    refine lv_goto (tgt := 78) hx hb ddX0_carryOut_25 (by decide) ?_
    exact cg_vret (nw := fun _ => 0) hC hr hlk hO.same (Nat.le_of_ble_eq_true rfl) (Nat.le_of_ble_eq_true rfl) (⟨x1_2, y0_22_114, c4, d1_22_115, d2_22_116, (zi_w (c := 0) (d := 24) z_22_117 (by decide)), rfl⟩) ddX0_carryOut_78

theorem ddX0_takeBack_0 : decode cX0_takeBack 0 = .ok (.aload_n 0, 1) := by decide +kernel
theorem ddX0_takeBack_1 : decode cX0_takeBack 1 = .ok (.getfield 9, 3) := by decide +kernel
theorem ddX0_takeBack_4 : decode cX0_takeBack 4 = .ok (.iload_n 1, 1) := by decide +kernel
theorem ddX0_takeBack_5 : decode cX0_takeBack 5 = .ok (.iaload, 1) := by decide +kernel
theorem ddX0_takeBack_6 : decode cX0_takeBack 6 = .ok (.ifCond .ne 10, 3) := by decide +kernel
theorem ddX0_takeBack_9 : decode cX0_takeBack 9 = .ok (.aload_n 2, 1) := by decide +kernel
theorem ddX0_takeBack_10 : decode cX0_takeBack 10 = .ok (.invokevirtual 53, 3) := by decide +kernel
theorem ddX0_takeBack_13 : decode cX0_takeBack 13 = .ok (.goto 53, 3) := by decide +kernel
theorem ddX0_takeBack_16 : decode cX0_takeBack 16 = .ok (.aload_n 0, 1) := by decide +kernel
theorem ddX0_takeBack_17 : decode cX0_takeBack 17 = .ok (.getfield 9, 3) := by decide +kernel
theorem ddX0_takeBack_20 : decode cX0_takeBack 20 = .ok (.iload_n 1, 1) := by decide +kernel
theorem ddX0_takeBack_21 : decode cX0_takeBack 21 = .ok (.iaload, 1) := by decide +kernel
theorem ddX0_takeBack_22 : decode cX0_takeBack 22 = .ok (.iconst 1, 1) := by decide +kernel
theorem ddX0_takeBack_23 : decode cX0_takeBack 23 = .ok (.if_icmp .ne 23, 3) := by decide +kernel
theorem ddX0_takeBack_26 : decode cX0_takeBack 26 = .ok (.aload_n 2, 1) := by decide +kernel
theorem ddX0_takeBack_27 : decode cX0_takeBack 27 = .ok (.dup, 1) := by decide +kernel
theorem ddX0_takeBack_28 : decode cX0_takeBack 28 = .ok (.getfield 47, 3) := by decide +kernel
theorem ddX0_takeBack_31 : decode cX0_takeBack 31 = .ok (.iconst 1, 1) := by decide +kernel
theorem ddX0_takeBack_32 : decode cX0_takeBack 32 = .ok (.aload_n 0, 1) := by decide +kernel
theorem ddX0_takeBack_33 : decode cX0_takeBack 33 = .ok (.getfield 15, 3) := by decide +kernel
theorem ddX0_takeBack_36 : decode cX0_takeBack 36 = .ok (.iload_n 1, 1) := by decide +kernel
theorem ddX0_takeBack_37 : decode cX0_takeBack 37 = .ok (.iaload, 1) := by decide +kernel
theorem ddX0_takeBack_38 : decode cX0_takeBack 38 = .ok (.ishl, 1) := by decide +kernel
theorem ddX0_takeBack_39 : decode cX0_takeBack 39 = .ok (.ixor, 1) := by decide +kernel
theorem ddX0_takeBack_40 : decode cX0_takeBack 40 = .ok (.putfield 47, 3) := by decide +kernel
theorem ddX0_takeBack_43 : decode cX0_takeBack 43 = .ok (.goto 23, 3) := by decide +kernel
theorem ddX0_takeBack_46 : decode cX0_takeBack 46 = .ok (.aload_n 2, 1) := by decide +kernel
theorem ddX0_takeBack_47 : decode cX0_takeBack 47 = .ok (.getfield 50, 3) := by decide +kernel
theorem ddX0_takeBack_50 : decode cX0_takeBack 50 = .ok (.aload_n 0, 1) := by decide +kernel
theorem ddX0_takeBack_51 : decode cX0_takeBack 51 = .ok (.getfield 15, 3) := by decide +kernel
theorem ddX0_takeBack_54 : decode cX0_takeBack 54 = .ok (.iload_n 1, 1) := by decide +kernel
theorem ddX0_takeBack_55 : decode cX0_takeBack 55 = .ok (.iaload, 1) := by decide +kernel
theorem ddX0_takeBack_56 : decode cX0_takeBack 56 = .ok (.dup2, 1) := by decide +kernel
theorem ddX0_takeBack_57 : decode cX0_takeBack 57 = .ok (.iaload, 1) := by decide +kernel
theorem ddX0_takeBack_58 : decode cX0_takeBack 58 = .ok (.aload_n 0, 1) := by decide +kernel
theorem ddX0_takeBack_59 : decode cX0_takeBack 59 = .ok (.getfield 18, 3) := by decide +kernel
theorem ddX0_takeBack_62 : decode cX0_takeBack 62 = .ok (.iload_n 1, 1) := by decide +kernel
theorem ddX0_takeBack_63 : decode cX0_takeBack 63 = .ok (.iaload, 1) := by decide +kernel
theorem ddX0_takeBack_64 : decode cX0_takeBack 64 = .ok (.isub, 1) := by decide +kernel
theorem ddX0_takeBack_65 : decode cX0_takeBack 65 = .ok (.iastore, 1) := by decide +kernel
theorem ddX0_takeBack_66 : decode cX0_takeBack 66 = .ok (.return_, 1) := by decide +kernel
def wq_k_X0_takeBack : List Cond := Cond.code yX0_takeBack cX0_takeBack 3 none :: (([Cond.fieldLink RX0 9 "CrowToll$Acts" "kind" "[I", Cond.fieldLink RX0 50 "CrowToll$Stand" "counts" "[I", Cond.fieldLink RX0 15 "CrowToll$Acts" "first" "[I", Cond.fieldLink RX0 18 "CrowToll$Acts" "second" "[I", Cond.fieldLink RX0 47 "CrowToll$Stand" "comes" "I", Cond.methodLink RX0 53 yX9_takeLast, Cond.instanceMethod yX9_takeLast, Cond.selects RX9 yX9_takeLast yX9_takeLast, Cond.initialized RX9, Cond.code yX9_takeLast cX9_takeLast 1 none, Cond.fieldLink RX9 21 "CrowToll$Stand" "carts" "I"] : List Cond) ++ wsX00 ++ wsX90)
set_option maxRecDepth 20000 in
theorem gr_k_X0_takeBack_k_X9_takeLast : GoodIn wq_k_X0_takeBack wq_k_X9_takeLast := List.forall_mem_cons.mpr ⟨⟨(List.mem_of_getElem? (i := 10) rfl), good_of_word rfl⟩, List.forall_mem_append.mpr ⟨List.forall_mem_cons.mpr ⟨⟨(List.mem_of_getElem? (i := 11) rfl), good_of_word rfl⟩, (fun _ h => absurd h List.not_mem_nil)⟩, fun w h => ⟨(fun w h => List.mem_cons_of_mem _ (List.mem_append_right _ h)) w h, good_of_word (List.all_eq_true.mp gw_X9 w h)⟩⟩⟩
set_option maxRecDepth 20000 in
theorem gq_k_X0_takeBack_k_X9_takeLast_53 : GoodIn wq_k_X0_takeBack (wsV RX0 53 RX9 yX9_takeLast wq_k_X9_takeLast) := goodIn_app (List.forall_mem_cons.mpr ⟨⟨(List.mem_of_getElem? (i := 6) rfl), good_of_word rfl⟩, List.forall_mem_cons.mpr ⟨⟨(List.mem_of_getElem? (i := 7) rfl), good_of_word rfl⟩, List.forall_mem_cons.mpr ⟨⟨(List.mem_of_getElem? (i := 8) rfl), good_of_word rfl⟩, List.forall_mem_cons.mpr ⟨⟨(List.mem_of_getElem? (i := 9) rfl), good_of_word rfl⟩, (fun _ h => absurd h List.not_mem_nil)⟩⟩⟩⟩) gr_k_X0_takeBack_k_X9_takeLast
set_option maxHeartbeats 8000000 in
set_option maxRecDepth 100000 in
theorem k_X0_takeBack (l : Launch) (D : va_G) (cy : Nat → ClassId) (ad : Nat → Nat) (g : Nat → va_E) {u0_3 : Value} {u0_4 : Value} {u1_0 : Value} {u1_1 : Value} {x1_2 : Int32} {x1_4 : Int32} {c2 : Nat → Int32} {c3 : Nat → Int32} {c4 : Nat → Int32} {c5 : Nat → Int32} {n : Int32} (o0 : g 0 = .inr (0, [.ref (ad 2), .ref (ad 3), .ref (ad 5), u0_3, u0_4])) (o1 : g 1 = .inr (9, [u1_0, u1_1, .int x1_2, .ref (ad 4), .int x1_4])) (a2 : g 2 = .inl (cy 0, 40, .inl c2)) (a3 : g 3 = .inl (cy 0, 40, .inl c3)) (a4 : g 4 = .inl (cy 0, 5, .inl c4)) (a5 : g 5 = .inl (cy 0, 40, .inl c5)) (b1_4 : zi 0 24 x1_4) (p_n : zi 0 39 n) (hk2_3 : zk c2 c3) : cMv l yX0_takeBack wq_k_X0_takeBack { frames := 1, cells := 0, slots := 0, locals := 20 } 6 0 0 0 D cy ad g [.ref (ad 0), .int n, .ref (ad 1)] (fun nw lu => ∃ (y1_2 : Int32) (y1_4 : Int32) (d4 : Nat → Int32), (zi 0 24 y1_4) ∧ (lu = [(1, .inr (9, [u1_0, u1_1, .int y1_2, .ref (ad 4), .int y1_4])), (4, .inl (cy 0, 5, .inl d4))])) := by
  refine cM_of (Qc := fun A => cQv (fun nw lu => ∃ (y1_2 : Int32) (y1_4 : Int32) (d4 : Nat → Int32), (zi 0 24 y1_4) ∧ (lu = [(1, .inr (9, [u1_0, u1_1, .int y1_2, .ref (ad 4), .int y1_4])), (4, .inl (cy 0, 5, .inl d4))])) D 6 0 ad g A) (cc := cX0_takeBack) (maxL := 3) (ret := none) (by decide) rfl (Nat.le_of_ble_eq_true rfl) ?_
  intro p e s m below meth c A hC hr hlk hnm hO ls hl
  have hC : CallFix p m c cX0_takeBack 3 s [.ref (ad 0), .int n, .ref (ad 1)].toArray wq_k_X0_takeBack RX0 := hC
  obtain ⟨hx, hb, hml, hown, hts⟩ := id hC
  have hl : lv_has ls 3 [(0, .ref (ad 0)), (1, .int n), (2, .ref (ad 1))] := hl
  have i_X0 : ∀ w ∈ wsX00, w ∈ wq_k_X0_takeBack := fun w h => List.mem_cons_of_mem _ (List.mem_append_left _ (List.mem_append_right _ h))
  have i_X9 : ∀ w ∈ wsX90, w ∈ wq_k_X0_takeBack := fun w h => List.mem_cons_of_mem _ (List.mem_append_right _ h)
  have hO := hO.notes [(1, .inr (9, [u1_0, u1_1, .int x1_2, .ref (ad 4), .int x1_4])), (4, .inl (cy 0, 5, .inl c4))] (List.forall_mem_cons.mpr ⟨o1, List.forall_mem_cons.mpr ⟨a4, (fun _ h => absurd h List.not_mem_nil)⟩⟩)
  refine lv_aload_n hx hb ddX0_takeBack_0 rfl (lv_at hl 0 rfl) ?_
  refine cg_get hC hO 0 (by decide) o0 rfl i_X0 0 (by decide) (List.mem_of_getElem? (i := 1) rfl) rfl ddX0_takeBack_1 ?_
  refine lv_iload_n hx hb ddX0_takeBack_4 rfl (lv_at hl 1 rfl) ?_
  refine zg_ialdE hC hO 2 (by decide) a2 (za_all _) (zi_in p_n (by decide)) ddX0_takeBack_5 (fun v_5_65 z_5_66 el_5_67 => ?_)
  refine lv_if_ne (tgt := 16) hx hb ddX0_takeBack_6 (by decide) (fun h_6_68 => ?_) (fun h_6_68 => ?_)
  · refine lv_aload_n hx hb ddX0_takeBack_16 rfl (lv_at hl 0 rfl) ?_
    refine cg_get hC hO 0 (by decide) o0 rfl i_X0 0 (by decide) (List.mem_of_getElem? (i := 1) rfl) rfl ddX0_takeBack_17 ?_
    refine lv_iload_n hx hb ddX0_takeBack_20 rfl (lv_at hl 1 rfl) ?_
    refine cg_iald hC hO 2 (by decide) a2 (zi_in p_n (by decide)) ddX0_takeBack_21 ?_
    refine cg_ev (v := v_5_65) el_5_67 ?_
    refine lv_iconst (v := 1) hx hb ddX0_takeBack_22 (by decide) ?_
    refine lv_icmp_ne (tgt := 46) hx hb ddX0_takeBack_23 (by decide) (fun h_23_71 => ?_) (fun h_23_71 => ?_)
    · refine lv_aload_n hx hb ddX0_takeBack_46 rfl (lv_at hl 2 rfl) ?_
      refine cg_get hC hO 1 (by decide) rfl rfl i_X9 3 (by decide) (List.mem_of_getElem? (i := 2) rfl) rfl ddX0_takeBack_47 ?_
      refine lv_aload_n hx hb ddX0_takeBack_50 rfl (lv_at hl 0 rfl) ?_
      refine cg_get hC hO 0 (by decide) o0 rfl i_X0 1 (by decide) (List.mem_of_getElem? (i := 3) rfl) rfl ddX0_takeBack_51 ?_
      refine lv_iload_n hx hb ddX0_takeBack_54 rfl (lv_at hl 1 rfl) ?_
      refine zg_ialdE hC hO 3 (by decide) a3 (za_all _) (zi_in p_n (by decide)) ddX0_takeBack_55 (fun v_55_72 z_55_73 el_55_74 => ?_)
      have z_56_75 : zi 0 4 v_55_72 := zk_get hk2_3 el_5_67 el_55_74 h_6_68 h_23_71
      refine lv_dup2_11 hx hb ddX0_takeBack_56 rfl rfl ?_
      refine zg_iald hC hO 4 (by decide) rfl (za_all _) (zi_in z_56_75 (by decide)) ddX0_takeBack_57 (fun v_57_76 z_57_77 => ?_)
      refine lv_aload_n hx hb ddX0_takeBack_58 rfl (lv_at hl 0 rfl) ?_
      refine cg_get hC hO 0 (by decide) o0 rfl i_X0 2 (by decide) (List.mem_of_getElem? (i := 4) rfl) rfl ddX0_takeBack_59 ?_
      refine lv_iload_n hx hb ddX0_takeBack_62 rfl (lv_at hl 1 rfl) ?_
      refine zg_iald hC hO 5 (by decide) a5 (za_all _) (zi_in p_n (by decide)) ddX0_takeBack_63 (fun v_63_78 z_63_79 => ?_)
      refine lv_isub hx hb ddX0_takeBack_64 ?_
      refine lv_topi (fun v_64_80 _ => ?_)
      refine zg_iast hC hO 4 (by decide) rfl (za_all _) (zi_all v_64_80) (zi_in z_56_75 (by decide)) ddX0_takeBack_65 (fun H locs c_65_81 zc_65_82 hO => ?_)
      have hO : cO D cy A s.heap s 6 ad (cup [(1, .inr (9, [u1_0, u1_1, .int x1_2, .ref (ad 4), .int x1_4])), (4, .inl (cy 0, 5, .inl c_65_81))] g) _ _ := hO
      exact cg_vret (nw := fun _ => 0) hC hr hlk hO.same (Nat.le_of_ble_eq_true rfl) (Nat.le_of_ble_eq_true rfl) (⟨x1_2, x1_4, c_65_81, b1_4, rfl⟩) ddX0_takeBack_66
    · have q_23_83 := zr_eq h_23_71
      have z_23_84 : zi 1 1 v_5_65 := ze_eq q_23_83 z_5_66 (zi_k (a := 1) (b := 1) (x := 1) rfl)
      refine lv_aload_n hx hb ddX0_takeBack_26 rfl (lv_at hl 2 rfl) ?_
      refine lv_dup hx hb ddX0_takeBack_27 rfl ?_
      refine cg_get hC hO 1 (by decide) rfl rfl i_X9 2 (by decide) (List.mem_of_getElem? (i := 5) rfl) rfl ddX0_takeBack_28 ?_
      refine lv_iconst (v := 1) hx hb ddX0_takeBack_31 (by decide) ?_
      refine lv_aload_n hx hb ddX0_takeBack_32 rfl (lv_at hl 0 rfl) ?_
      refine cg_get hC hO 0 (by decide) o0 rfl i_X0 1 (by decide) (List.mem_of_getElem? (i := 3) rfl) rfl ddX0_takeBack_33 ?_
      refine lv_iload_n hx hb ddX0_takeBack_36 rfl (lv_at hl 1 rfl) ?_
      refine zg_ialdE hC hO 3 (by decide) a3 (za_all _) (zi_in p_n (by decide)) ddX0_takeBack_37 (fun v_37_85 z_37_86 el_37_87 => ?_)
      refine lv_ishl hx hb ddX0_takeBack_38 ?_
      refine lv_topi (fun v_38_88 _ => ?_)
      refine lv_ixor hx hb ddX0_takeBack_39 ?_
      refine lv_topi (fun v_39_89 _ => ?_)
      refine cg_put hC hO 1 (by decide) rfl rfl i_X9 tyX9_ok nmX9 2 (by decide) (List.mem_of_getElem? (i := 5) rfl) rfl rfl rfl (Nat.le_of_ble_eq_true rfl) ddX0_takeBack_40 (fun H locs hO => ?_)
      have hO : cO D cy A s.heap s 6 ad (cup [(1, .inr (9, [u1_0, u1_1, .int v_39_89, .ref (ad 4), .int x1_4])), (4, .inl (cy 0, 5, .inl c4))] g) _ _ := hO
      refine lv_goto (tgt := 66) hx hb ddX0_takeBack_43 (by decide) ?_
      exact cg_vret (nw := fun _ => 0) hC hr hlk hO.same (Nat.le_of_ble_eq_true rfl) (Nat.le_of_ble_eq_true rfl) (⟨v_39_89, x1_4, c4, b1_4, rfl⟩) ddX0_takeBack_66
  · have q_6_90 := zr_eq h_6_68
    have z_6_91 : zi 0 0 v_5_65 := ze_eq q_6_90 z_5_66 (zi_k (a := 0) (b := 0) (x := 0) rfl)
    refine lv_aload_n hx hb ddX0_takeBack_9 rfl (lv_at hl 2 rfl) ?_
    refine cg_Vv (As := []) (rest := []) (mc := 0) (ms := 0) (rm := { frames := 0, cells := 0, slots := 0, locals := 0 }) hC hl.1 hO [1] (by decide +kernel) (k_X9_takeLast l D cy _ _ (u0_0 := u1_0) (u0_1 := u1_1) (u0_2 := .int x1_2) (u0_3 := .ref (ad 4)) (x0_4 := x1_4) rfl b1_4) gq_k_X0_takeBack_k_X9_takeLast_53 rfl rfl rfl 0 (by decide +kernel) ⟨Nat.le_of_ble_eq_true rfl, Nat.le_of_ble_eq_true rfl⟩ rfl (by decide) rfl rfl rfl (Nat.le_of_ble_eq_true rfl) ddX0_takeBack_10 ⟨Nat.le_of_ble_eq_true rfl, Nat.le_of_ble_eq_true rfl⟩ (fun nw_10_92 l_10_93 H locs hw hO => ?_)
    obtain ⟨y0_10_95, z_10_96, rfl⟩ := hw
    have hO := hO.mrg (lk := [(1, .inr (9, [u1_0, u1_1, .int x1_2, .ref (ad 4), .int y0_10_95]))]) (lm := [(1, .inr (9, [u1_0, u1_1, .int x1_2, .ref (ad 4), .int y0_10_95])), (4, .inl (cy 0, 5, .inl c4))]) rfl rfl rfl
    refine lv_goto (tgt := 66) hx hb ddX0_takeBack_13 (by decide) ?_
    exact cg_vret (nw := fun _ => 0) hC hr hlk hO.same (Nat.le_of_ble_eq_true rfl) (Nat.le_of_ble_eq_true rfl) (⟨x1_2, y0_10_95, c4, (zi_w (c := 0) (d := 24) z_10_96 (by decide)), rfl⟩) ddX0_takeBack_66

theorem ddX0_takeBackLatest_0 : decode cX0_takeBackLatest 0 = .ok (.aload_n 0, 1) := by decide +kernel
theorem ddX0_takeBackLatest_1 : decode cX0_takeBackLatest 1 = .ok (.getfield 21, 3) := by decide +kernel
theorem ddX0_takeBackLatest_4 : decode cX0_takeBackLatest 4 = .ok (.ifCond .gt 5, 3) := by decide +kernel
theorem ddX0_takeBackLatest_7 : decode cX0_takeBackLatest 7 = .ok (.iconst 0, 1) := by decide +kernel
theorem ddX0_takeBackLatest_8 : decode cX0_takeBackLatest 8 = .ok (.ireturn, 1) := by decide +kernel
theorem ddX0_takeBackLatest_9 : decode cX0_takeBackLatest 9 = .ok (.aload_n 0, 1) := by decide +kernel
theorem ddX0_takeBackLatest_10 : decode cX0_takeBackLatest 10 = .ok (.dup, 1) := by decide +kernel
theorem ddX0_takeBackLatest_11 : decode cX0_takeBackLatest 11 = .ok (.getfield 21, 3) := by decide +kernel
theorem ddX0_takeBackLatest_14 : decode cX0_takeBackLatest 14 = .ok (.iconst 1, 1) := by decide +kernel
theorem ddX0_takeBackLatest_15 : decode cX0_takeBackLatest 15 = .ok (.isub, 1) := by decide +kernel
theorem ddX0_takeBackLatest_16 : decode cX0_takeBackLatest 16 = .ok (.putfield 21, 3) := by decide +kernel
theorem ddX0_takeBackLatest_19 : decode cX0_takeBackLatest 19 = .ok (.aload_n 0, 1) := by decide +kernel
theorem ddX0_takeBackLatest_20 : decode cX0_takeBackLatest 20 = .ok (.aload_n 0, 1) := by decide +kernel
theorem ddX0_takeBackLatest_21 : decode cX0_takeBackLatest 21 = .ok (.getfield 21, 3) := by decide +kernel
theorem ddX0_takeBackLatest_24 : decode cX0_takeBackLatest 24 = .ok (.aload_n 1, 1) := by decide +kernel
theorem ddX0_takeBackLatest_25 : decode cX0_takeBackLatest 25 = .ok (.invokevirtual 34, 3) := by decide +kernel
theorem ddX0_takeBackLatest_28 : decode cX0_takeBackLatest 28 = .ok (.iconst 1, 1) := by decide +kernel
theorem ddX0_takeBackLatest_29 : decode cX0_takeBackLatest 29 = .ok (.ireturn, 1) := by decide +kernel
def wq_k_X0_takeBackLatest : List Cond := Cond.code yX0_takeBackLatest cX0_takeBackLatest 2 (some .boolean) :: (([Cond.fieldLink RX0 21 "CrowToll$Acts" "done" "I", Cond.methodLink RX0 34 yX0_takeBack, Cond.instanceMethod yX0_takeBack, Cond.selects RX0 yX0_takeBack yX0_takeBack, Cond.initialized RX0, Cond.code yX0_takeBack cX0_takeBack 3 none, Cond.fieldLink RX0 9 "CrowToll$Acts" "kind" "[I", Cond.fieldLink RX0 50 "CrowToll$Stand" "counts" "[I", Cond.fieldLink RX0 15 "CrowToll$Acts" "first" "[I", Cond.fieldLink RX0 18 "CrowToll$Acts" "second" "[I", Cond.fieldLink RX0 47 "CrowToll$Stand" "comes" "I", Cond.methodLink RX0 53 yX9_takeLast, Cond.instanceMethod yX9_takeLast, Cond.selects RX9 yX9_takeLast yX9_takeLast, Cond.initialized RX9, Cond.code yX9_takeLast cX9_takeLast 1 none, Cond.fieldLink RX9 21 "CrowToll$Stand" "carts" "I"] : List Cond) ++ wsX00 ++ wsX90)
set_option maxRecDepth 20000 in
theorem gr_k_X0_takeBackLatest_k_X0_takeBack : GoodIn wq_k_X0_takeBackLatest wq_k_X0_takeBack := List.forall_mem_cons.mpr ⟨⟨(List.mem_of_getElem? (i := 6) rfl), good_of_word rfl⟩, List.forall_mem_append.mpr ⟨List.forall_mem_append.mpr ⟨List.forall_mem_cons.mpr ⟨⟨(List.mem_of_getElem? (i := 7) rfl), good_of_word rfl⟩, List.forall_mem_cons.mpr ⟨⟨(List.mem_of_getElem? (i := 8) rfl), good_of_word rfl⟩, List.forall_mem_cons.mpr ⟨⟨(List.mem_of_getElem? (i := 9) rfl), good_of_word rfl⟩, List.forall_mem_cons.mpr ⟨⟨(List.mem_of_getElem? (i := 10) rfl), good_of_word rfl⟩, List.forall_mem_cons.mpr ⟨⟨(List.mem_of_getElem? (i := 11) rfl), good_of_word rfl⟩, List.forall_mem_cons.mpr ⟨⟨(List.mem_of_getElem? (i := 12) rfl), good_of_word rfl⟩, List.forall_mem_cons.mpr ⟨⟨(List.mem_of_getElem? (i := 13) rfl), good_of_word rfl⟩, List.forall_mem_cons.mpr ⟨⟨(List.mem_of_getElem? (i := 14) rfl), good_of_word rfl⟩, List.forall_mem_cons.mpr ⟨⟨(List.mem_of_getElem? (i := 15) rfl), good_of_word rfl⟩, List.forall_mem_cons.mpr ⟨⟨(List.mem_of_getElem? (i := 16) rfl), good_of_word rfl⟩, List.forall_mem_cons.mpr ⟨⟨(List.mem_of_getElem? (i := 17) rfl), good_of_word rfl⟩, (fun _ h => absurd h List.not_mem_nil)⟩⟩⟩⟩⟩⟩⟩⟩⟩⟩⟩, fun w h => ⟨(fun w h => List.mem_cons_of_mem _ (List.mem_append_left _ (List.mem_append_right _ h))) w h, good_of_word (List.all_eq_true.mp gw_X0 w h)⟩⟩, fun w h => ⟨(fun w h => List.mem_cons_of_mem _ (List.mem_append_right _ h)) w h, good_of_word (List.all_eq_true.mp gw_X9 w h)⟩⟩⟩
set_option maxRecDepth 20000 in
theorem gq_k_X0_takeBackLatest_k_X0_takeBack_34 : GoodIn wq_k_X0_takeBackLatest (wsV RX0 34 RX0 yX0_takeBack wq_k_X0_takeBack) := goodIn_app (List.forall_mem_cons.mpr ⟨⟨(List.mem_of_getElem? (i := 2) rfl), good_of_word rfl⟩, List.forall_mem_cons.mpr ⟨⟨(List.mem_of_getElem? (i := 3) rfl), good_of_word rfl⟩, List.forall_mem_cons.mpr ⟨⟨(List.mem_of_getElem? (i := 4) rfl), good_of_word rfl⟩, List.forall_mem_cons.mpr ⟨⟨(List.mem_of_getElem? (i := 5) rfl), good_of_word rfl⟩, (fun _ h => absurd h List.not_mem_nil)⟩⟩⟩⟩) gr_k_X0_takeBackLatest_k_X0_takeBack
set_option maxHeartbeats 8000000 in
set_option maxRecDepth 100000 in
theorem k_X0_takeBackLatest (l : Launch) (D : va_G) (cy : Nat → ClassId) (ad : Nat → Nat) (g : Nat → va_E) {x0_3 : Int32} {u0_4 : Value} {u1_0 : Value} {u1_1 : Value} {x1_2 : Int32} {x1_4 : Int32} {c2 : Nat → Int32} {c3 : Nat → Int32} {c4 : Nat → Int32} {c5 : Nat → Int32} (o0 : g 0 = .inr (0, [.ref (ad 2), .ref (ad 3), .ref (ad 4), .int x0_3, u0_4])) (o1 : g 1 = .inr (9, [u1_0, u1_1, .int x1_2, .ref (ad 5), .int x1_4])) (a2 : g 2 = .inl (cy 0, 40, .inl c2)) (a3 : g 3 = .inl (cy 0, 40, .inl c3)) (a4 : g 4 = .inl (cy 0, 40, .inl c4)) (a5 : g 5 = .inl (cy 0, 5, .inl c5)) (b0_3 : zi 0 40 x0_3) (b1_4 : zi 0 24 x1_4) (hk2_3 : zk c2 c3) : cMi l yX0_takeBackLatest wq_k_X0_takeBackLatest { frames := 2, cells := 0, slots := 0, locals := 42 } 6 0 0 0 D cy ad g [.ref (ad 0), .ref (ad 1)] (fun r nw lu => ∃ (y0_3 : Int32) (y1_2 : Int32) (y1_4 : Int32) (d5 : Nat → Int32), (zi 0 39 y0_3) ∧ (zi 0 24 y1_4) ∧ (zi 0 1 r) ∧ (lu = [(0, .inr (0, [.ref (ad 2), .ref (ad 3), .ref (ad 4), .int y0_3, u0_4])), (1, .inr (9, [u1_0, u1_1, .int y1_2, .ref (ad 5), .int y1_4])), (5, .inl (cy 0, 5, .inl d5))])) := by
  refine cM_of (Qc := fun A => cQi (fun r nw lu => ∃ (y0_3 : Int32) (y1_2 : Int32) (y1_4 : Int32) (d5 : Nat → Int32), (zi 0 39 y0_3) ∧ (zi 0 24 y1_4) ∧ (zi 0 1 r) ∧ (lu = [(0, .inr (0, [.ref (ad 2), .ref (ad 3), .ref (ad 4), .int y0_3, u0_4])), (1, .inr (9, [u1_0, u1_1, .int y1_2, .ref (ad 5), .int y1_4])), (5, .inl (cy 0, 5, .inl d5))])) D 6 0 ad g A) (cc := cX0_takeBackLatest) (maxL := 2) (ret := (some .boolean)) (by decide) rfl (Nat.le_of_ble_eq_true rfl) ?_
  intro p e s m below meth c A hC hr hlk hnm hO ls hl
  have hC : CallFix p m c cX0_takeBackLatest 2 s [.ref (ad 0), .ref (ad 1)].toArray wq_k_X0_takeBackLatest RX0 := hC
  obtain ⟨hx, hb, hml, hown, hts⟩ := id hC
  have hl : lv_has ls 2 [(0, .ref (ad 0)), (1, .ref (ad 1))] := hl
  have i_X0 : ∀ w ∈ wsX00, w ∈ wq_k_X0_takeBackLatest := fun w h => List.mem_cons_of_mem _ (List.mem_append_left _ (List.mem_append_right _ h))
  have i_X9 : ∀ w ∈ wsX90, w ∈ wq_k_X0_takeBackLatest := fun w h => List.mem_cons_of_mem _ (List.mem_append_right _ h)
  have hO := hO.notes [(0, .inr (0, [.ref (ad 2), .ref (ad 3), .ref (ad 4), .int x0_3, u0_4])), (1, .inr (9, [u1_0, u1_1, .int x1_2, .ref (ad 5), .int x1_4])), (5, .inl (cy 0, 5, .inl c5))] (List.forall_mem_cons.mpr ⟨o0, List.forall_mem_cons.mpr ⟨o1, List.forall_mem_cons.mpr ⟨a5, (fun _ h => absurd h List.not_mem_nil)⟩⟩⟩)
  refine lv_aload_n hx hb ddX0_takeBackLatest_0 rfl (lv_at hl 0 rfl) ?_
  refine cg_get hC hO 0 (by decide) rfl rfl i_X0 3 (by decide) (List.mem_of_getElem? (i := 1) rfl) rfl ddX0_takeBackLatest_1 ?_
  refine lv_if_gt (tgt := 9) hx hb ddX0_takeBackLatest_4 (by decide) (fun h_4_31 => ?_) (fun h_4_31 => ?_)
  · have q_4_32 := zr_lt h_4_31
    have z_4_33 : zi 1 40 x0_3 := zd_lt q_4_32 (zi_k (a := 0) (b := 0) (x := 0) rfl) b0_3 (by decide)
    refine lv_aload_n hx hb ddX0_takeBackLatest_9 rfl (lv_at hl 0 rfl) ?_
    refine lv_dup hx hb ddX0_takeBackLatest_10 rfl ?_
    refine cg_get hC hO 0 (by decide) rfl rfl i_X0 3 (by decide) (List.mem_of_getElem? (i := 1) rfl) rfl ddX0_takeBackLatest_11 ?_
    refine lv_iconst (v := 1) hx hb ddX0_takeBackLatest_14 (by decide) ?_
    refine lv_isub hx hb ddX0_takeBackLatest_15 ?_
    refine zg_top2 (P := fun v => zi 0 39 v) (E := fun v => v.toInt = x0_3.toInt + -1) (zi_subk z_4_33 (n := 1) (by decide) (by decide)) (fun v_15_34 z_15_35 q_15_36 => ?_)
    refine cg_put hC hO 0 (by decide) rfl rfl i_X0 tyX0_ok nmX0 3 (by decide) (List.mem_of_getElem? (i := 1) rfl) rfl rfl rfl (Nat.le_of_ble_eq_true rfl) ddX0_takeBackLatest_16 (fun H locs hO => ?_)
    have hO : cO D cy A s.heap s 6 ad (cup [(0, .inr (0, [.ref (ad 2), .ref (ad 3), .ref (ad 4), .int v_15_34, u0_4])), (1, .inr (9, [u1_0, u1_1, .int x1_2, .ref (ad 5), .int x1_4])), (5, .inl (cy 0, 5, .inl c5))] g) _ _ := hO
    refine lv_aload_n hx hb ddX0_takeBackLatest_19 rfl (lv_at hl 0 rfl) ?_
    refine lv_aload_n hx hb ddX0_takeBackLatest_20 rfl (lv_at hl 0 rfl) ?_
    refine cg_get hC hO 0 (by decide) rfl rfl i_X0 3 (by decide) (List.mem_of_getElem? (i := 1) rfl) rfl ddX0_takeBackLatest_21 ?_
    refine lv_aload_n hx hb ddX0_takeBackLatest_24 rfl (lv_at hl 1 rfl) ?_
    refine cg_Vv (As := [.int v_15_34, .ref (ad 1)]) (rest := []) (mc := 0) (ms := 0) (rm := { frames := 1, cells := 0, slots := 0, locals := 20 }) hC hl.1 hO [0, 1, 2, 3, 5, 4] (by decide +kernel) (k_X0_takeBack l D cy _ _ (c2 := c2) (c3 := c3) (c5 := c4) (u0_3 := .int v_15_34) (u0_4 := u0_4) (n := v_15_34) (u1_0 := u1_0) (u1_1 := u1_1) (x1_2 := x1_2) (c4 := c5) (x1_4 := x1_4) rfl rfl a2 a3 rfl a4 b1_4 z_15_35 hk2_3) gq_k_X0_takeBackLatest_k_X0_takeBack_34 rfl rfl rfl 2 (by decide +kernel) ⟨Nat.le_of_ble_eq_true rfl, Nat.le_of_ble_eq_true rfl⟩ rfl (by decide) rfl rfl rfl (Nat.le_of_ble_eq_true rfl) ddX0_takeBackLatest_25 ⟨Nat.le_of_ble_eq_true rfl, Nat.le_of_ble_eq_true rfl⟩ (fun nw_25_37 l_25_38 H locs hw hO => ?_)
    obtain ⟨y1_25_40, y1_25_41, d4_25_42, z_25_43, rfl⟩ := hw
    have hO := hO.mrg (lk := [(1, .inr (9, [u1_0, u1_1, .int y1_25_40, .ref (ad 5), .int y1_25_41])), (5, .inl (cy 0, 5, .inl d4_25_42))]) (lm := [(0, .inr (0, [.ref (ad 2), .ref (ad 3), .ref (ad 4), .int v_15_34, u0_4])), (1, .inr (9, [u1_0, u1_1, .int y1_25_40, .ref (ad 5), .int y1_25_41])), (5, .inl (cy 0, 5, .inl d4_25_42))]) rfl rfl rfl
    refine lv_iconst (v := 1) hx hb ddX0_takeBackLatest_28 (by decide) ?_
    exact cg_iret (nw := fun _ => 0) hC hr hlk hO.same rfl (Nat.le_of_ble_eq_true rfl) (Nat.le_of_ble_eq_true rfl) (⟨v_15_34, y1_25_40, y1_25_41, d4_25_42, z_15_35, z_25_43, (zi_k (a := 0) (b := 1) (x := 1) rfl), rfl⟩) ddX0_takeBackLatest_29
  · have q_4_44 := zr_nlt h_4_31
    have z_4_45 : zi 0 0 x0_3 := zu_le q_4_44 b0_3 (zi_k (a := 0) (b := 0) (x := 0) rfl) (by decide)
    refine lv_iconst (v := 0) hx hb ddX0_takeBackLatest_7 (by decide) ?_
    exact cg_iret (nw := fun _ => 0) hC hr hlk hO.same rfl (Nat.le_of_ble_eq_true rfl) (Nat.le_of_ble_eq_true rfl) (⟨x0_3, x1_2, x1_4, c5, (zi_w (c := 0) (d := 39) z_4_45 (by decide)), b1_4, (zi_k (a := 0) (b := 1) (x := 0) rfl), rfl⟩) ddX0_takeBackLatest_8

